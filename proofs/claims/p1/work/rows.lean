section
-- ===== PART A: goes FIRST, ahead of the names: the tables' words, and 'selects' of the private methods out of them =====
/-- a private method of a class that the tables say can be made, by its rows of tables_1 -/
def lw_okq (q : MethodName × Nat) : Prop := (q.1.cls ≠ "java/lang/invoke/MethodHandle" ∧ q.1.cls ≠ "java/lang/invoke/VarHandle") ∧ Cond.instantiable q.1.cls q.2 ∈ tables_1 ∧ Cond.privateMethod q.1 ∈ tables_1 ∧ Cond.instanceMethod q.1 ∈ tables_1
theorem lw_p0 : lw_okq (⟨"HeadYear$ValleyReader", "readClause", "(LHeadYear$Tape;)Z"⟩, 2) := ⟨⟨by decide +kernel, by decide +kernel⟩, List.mem_of_getElem? (i := 56) (by decide +kernel), List.mem_of_getElem? (i := 436) (by decide +kernel), List.mem_of_getElem? (i := 437) (by decide +kernel)⟩
theorem lw_p1 : lw_okq (⟨"HeadYear$ValleyReader", "readItems", "(LHeadYear$Tape;I)Z"⟩, 2) := ⟨⟨by decide +kernel, by decide +kernel⟩, List.mem_of_getElem? (i := 56) (by decide +kernel), List.mem_of_getElem? (i := 444) (by decide +kernel), List.mem_of_getElem? (i := 445) (by decide +kernel)⟩
theorem lw_p2 : lw_okq (⟨"HeadYear$Tape", "isDigitHere", "()Z"⟩, 4) := ⟨⟨by decide +kernel, by decide +kernel⟩, List.mem_of_getElem? (i := 30) (by decide +kernel), List.mem_of_getElem? (i := 468) (by decide +kernel), List.mem_of_getElem? (i := 469) (by decide +kernel)⟩
theorem lw_p3 : lw_okq (⟨"HeadYear$Valley", "firstFamiliesAt", "(I)I"⟩, 10) := ⟨⟨by decide +kernel, by decide +kernel⟩, List.mem_of_getElem? (i := 62) (by decide +kernel), List.mem_of_getElem? (i := 488) (by decide +kernel), List.mem_of_getElem? (i := 489) (by decide +kernel)⟩
theorem lw_p4 : lw_okq (⟨"HeadYear$LawReader", "readClause", "(LHeadYear$Tape;)Z"⟩, 1) := ⟨⟨by decide +kernel, by decide +kernel⟩, List.mem_of_getElem? (i := 136) (by decide +kernel), List.mem_of_getElem? (i := 496) (by decide +kernel), List.mem_of_getElem? (i := 497) (by decide +kernel)⟩
theorem lw_p5 : lw_okq (⟨"HeadYear$LawReader", "readChain", "(LHeadYear$Tape;IIZ)Z"⟩, 1) := ⟨⟨by decide +kernel, by decide +kernel⟩, List.mem_of_getElem? (i := 136) (by decide +kernel), List.mem_of_getElem? (i := 502) (by decide +kernel), List.mem_of_getElem? (i := 503) (by decide +kernel)⟩
theorem lw_p6 : lw_okq (⟨"HeadYear$LawReader", "readUnit", "(LHeadYear$Tape;IZ)Z"⟩, 1) := ⟨⟨by decide +kernel, by decide +kernel⟩, List.mem_of_getElem? (i := 136) (by decide +kernel), List.mem_of_getElem? (i := 506) (by decide +kernel), List.mem_of_getElem? (i := 507) (by decide +kernel)⟩
theorem lw_p7 : lw_okq (⟨"HeadYear$LawReader", "readNested", "(LHeadYear$Tape;II)Z"⟩, 1) := ⟨⟨by decide +kernel, by decide +kernel⟩, List.mem_of_getElem? (i := 136) (by decide +kernel), List.mem_of_getElem? (i := 510) (by decide +kernel), List.mem_of_getElem? (i := 511) (by decide +kernel)⟩
theorem lw_p8 : lw_okq (⟨"HeadYear$LawReader", "readAtom", "(LHeadYear$Tape;I)Z"⟩, 1) := ⟨⟨by decide +kernel, by decide +kernel⟩, List.mem_of_getElem? (i := 136) (by decide +kernel), List.mem_of_getElem? (i := 518) (by decide +kernel), List.mem_of_getElem? (i := 519) (by decide +kernel)⟩
theorem lw_p9 : lw_okq (⟨"HeadYear", "tellValley", "()I"⟩, 16) := ⟨⟨by decide +kernel, by decide +kernel⟩, List.mem_of_getElem? (i := 22) (by decide +kernel), List.mem_of_getElem? (i := 537) (by decide +kernel), List.mem_of_getElem? (i := 538) (by decide +kernel)⟩
theorem lw_p10 : lw_okq (⟨"HeadYear", "tellLaw", "()I"⟩, 16) := ⟨⟨by decide +kernel, by decide +kernel⟩, List.mem_of_getElem? (i := 22) (by decide +kernel), List.mem_of_getElem? (i := 557) (by decide +kernel), List.mem_of_getElem? (i := 558) (by decide +kernel)⟩
theorem lw_p11 : lw_okq (⟨"HeadYear", "isFamily", "(I)Z"⟩, 16) := ⟨⟨by decide +kernel, by decide +kernel⟩, List.mem_of_getElem? (i := 22) (by decide +kernel), List.mem_of_getElem? (i := 566) (by decide +kernel), List.mem_of_getElem? (i := 567) (by decide +kernel)⟩
theorem lw_p12 : lw_okq (⟨"HeadYear", "isLevel", "(I)Z"⟩, 16) := ⟨⟨by decide +kernel, by decide +kernel⟩, List.mem_of_getElem? (i := 22) (by decide +kernel), List.mem_of_getElem? (i := 585) (by decide +kernel), List.mem_of_getElem? (i := 586) (by decide +kernel)⟩
theorem lw_p13 : lw_okq (⟨"HeadYear", "isLaw", "(I)Z"⟩, 16) := ⟨⟨by decide +kernel, by decide +kernel⟩, List.mem_of_getElem? (i := 22) (by decide +kernel), List.mem_of_getElem? (i := 594) (by decide +kernel), List.mem_of_getElem? (i := 595) (by decide +kernel)⟩
theorem lw_p14 : lw_okq (⟨"HeadYear", "hasValley", "()Z"⟩, 16) := ⟨⟨by decide +kernel, by decide +kernel⟩, List.mem_of_getElem? (i := 22) (by decide +kernel), List.mem_of_getElem? (i := 610) (by decide +kernel), List.mem_of_getElem? (i := 611) (by decide +kernel)⟩
theorem lw_p15 : lw_okq (⟨"HeadYear", "lawOf", "(I)LHeadYear$Law;"⟩, 16) := ⟨⟨by decide +kernel, by decide +kernel⟩, List.mem_of_getElem? (i := 22) (by decide +kernel), List.mem_of_getElem? (i := 614) (by decide +kernel), List.mem_of_getElem? (i := 615) (by decide +kernel)⟩
def lw_privs_1 : List (MethodName × Nat) := [(⟨"HeadYear$ValleyReader", "readClause", "(LHeadYear$Tape;)Z"⟩, 2), (⟨"HeadYear$ValleyReader", "readItems", "(LHeadYear$Tape;I)Z"⟩, 2), (⟨"HeadYear$Tape", "isDigitHere", "()Z"⟩, 4), (⟨"HeadYear$Valley", "firstFamiliesAt", "(I)I"⟩, 10), (⟨"HeadYear$LawReader", "readClause", "(LHeadYear$Tape;)Z"⟩, 1), (⟨"HeadYear$LawReader", "readChain", "(LHeadYear$Tape;IIZ)Z"⟩, 1), (⟨"HeadYear$LawReader", "readUnit", "(LHeadYear$Tape;IZ)Z"⟩, 1), (⟨"HeadYear$LawReader", "readNested", "(LHeadYear$Tape;II)Z"⟩, 1), (⟨"HeadYear$LawReader", "readAtom", "(LHeadYear$Tape;I)Z"⟩, 1), (⟨"HeadYear", "tellValley", "()I"⟩, 16), (⟨"HeadYear", "tellLaw", "()I"⟩, 16), (⟨"HeadYear", "isFamily", "(I)Z"⟩, 16), (⟨"HeadYear", "isLevel", "(I)Z"⟩, 16), (⟨"HeadYear", "isLaw", "(I)Z"⟩, 16), (⟨"HeadYear", "hasValley", "()Z"⟩, 16), (⟨"HeadYear", "lawOf", "(I)LHeadYear$Law;"⟩, 16)]
theorem lw_r1 : ∀ q ∈ lw_privs_1, lw_okq q := List.forall_mem_cons.mpr ⟨lw_p0, List.forall_mem_cons.mpr ⟨lw_p1, List.forall_mem_cons.mpr ⟨lw_p2, List.forall_mem_cons.mpr ⟨lw_p3, List.forall_mem_cons.mpr ⟨lw_p4, List.forall_mem_cons.mpr ⟨lw_p5, List.forall_mem_cons.mpr ⟨lw_p6, List.forall_mem_cons.mpr ⟨lw_p7, List.forall_mem_cons.mpr ⟨lw_p8, List.forall_mem_cons.mpr ⟨lw_p9, List.forall_mem_cons.mpr ⟨lw_p10, List.forall_mem_cons.mpr ⟨lw_p11, List.forall_mem_cons.mpr ⟨lw_p12, List.forall_mem_cons.mpr ⟨lw_p13, List.forall_mem_cons.mpr ⟨lw_p14, List.forall_mem_cons.mpr ⟨lw_p15, fun _ h => absurd h List.not_mem_nil⟩⟩⟩⟩⟩⟩⟩⟩⟩⟩⟩⟩⟩⟩⟩⟩
theorem lw_p16 : lw_okq (⟨"HeadYear$Seasons", "winterOf", "(LHeadYear$Folk;LHeadYear$Law;I)V"⟩, 5) := ⟨⟨by decide +kernel, by decide +kernel⟩, List.mem_of_getElem? (i := 296) (by decide +kernel), List.mem_of_getElem? (i := 630) (by decide +kernel), List.mem_of_getElem? (i := 631) (by decide +kernel)⟩
theorem lw_p17 : lw_okq (⟨"HeadYear$Seasons", "drawDead", "(LHeadYear$Folk;I)I"⟩, 5) := ⟨⟨by decide +kernel, by decide +kernel⟩, List.mem_of_getElem? (i := 296) (by decide +kernel), List.mem_of_getElem? (i := 643) (by decide +kernel), List.mem_of_getElem? (i := 644) (by decide +kernel)⟩
theorem lw_p18 : lw_okq (⟨"HeadYear$Seasons", "drawCounted", "(LHeadYear$Folk;II)I"⟩, 5) := ⟨⟨by decide +kernel, by decide +kernel⟩, List.mem_of_getElem? (i := 296) (by decide +kernel), List.mem_of_getElem? (i := 647) (by decide +kernel), List.mem_of_getElem? (i := 648) (by decide +kernel)⟩
theorem lw_p19 : lw_okq (⟨"HeadYear$Seasons", "moveIntoEmpty", "(LHeadYear$Folk;)I"⟩, 5) := ⟨⟨by decide +kernel, by decide +kernel⟩, List.mem_of_getElem? (i := 296) (by decide +kernel), List.mem_of_getElem? (i := 678) (by decide +kernel), List.mem_of_getElem? (i := 679) (by decide +kernel)⟩
theorem lw_p20 : lw_okq (⟨"HeadYear$Seasons", "changeRing", "(LHeadYear$Folk;)I"⟩, 5) := ⟨⟨by decide +kernel, by decide +kernel⟩, List.mem_of_getElem? (i := 296) (by decide +kernel), List.mem_of_getElem? (i := 695) (by decide +kernel), List.mem_of_getElem? (i := 696) (by decide +kernel)⟩
theorem lw_p21 : lw_okq (⟨"HeadYear$Seasons", "changeHuts", "(LHeadYear$Folk;I)I"⟩, 5) := ⟨⟨by decide +kernel, by decide +kernel⟩, List.mem_of_getElem? (i := 296) (by decide +kernel), List.mem_of_getElem? (i := 705) (by decide +kernel), List.mem_of_getElem? (i := 706) (by decide +kernel)⟩
theorem lw_p22 : lw_okq (⟨"HeadYear", "lives", "(I)Z"⟩, 16) := ⟨⟨by decide +kernel, by decide +kernel⟩, List.mem_of_getElem? (i := 22) (by decide +kernel), List.mem_of_getElem? (i := 725) (by decide +kernel), List.mem_of_getElem? (i := 726) (by decide +kernel)⟩
theorem lw_p23 : lw_okq (⟨"HeadYear$Moves", "isRoomFor", "(LHeadYear$Folk;I)Z"⟩, 1) := ⟨⟨by decide +kernel, by decide +kernel⟩, List.mem_of_getElem? (i := 320) (by decide +kernel), List.mem_of_getElem? (i := 778) (by decide +kernel), List.mem_of_getElem? (i := 779) (by decide +kernel)⟩
theorem lw_p24 : lw_okq (⟨"HeadYear$Odds", "pass", "(II)V"⟩, 7) := ⟨⟨by decide +kernel, by decide +kernel⟩, List.mem_of_getElem? (i := 330) (by decide +kernel), List.mem_of_getElem? (i := 817) (by decide +kernel), List.mem_of_getElem? (i := 818) (by decide +kernel)⟩
theorem lw_p25 : lw_okq (⟨"HeadYear$Odds", "spread", "(IIIJ)V"⟩, 7) := ⟨⟨by decide +kernel, by decide +kernel⟩, List.mem_of_getElem? (i := 330) (by decide +kernel), List.mem_of_getElem? (i := 822) (by decide +kernel), List.mem_of_getElem? (i := 823) (by decide +kernel)⟩
theorem lw_p26 : lw_okq (⟨"HeadYear$Odds", "land", "(IIII)V"⟩, 7) := ⟨⟨by decide +kernel, by decide +kernel⟩, List.mem_of_getElem? (i := 330) (by decide +kernel), List.mem_of_getElem? (i := 827) (by decide +kernel), List.mem_of_getElem? (i := 828) (by decide +kernel)⟩
theorem lw_p27 : lw_okq (⟨"HeadYear", "triedSum", "(IIII)I"⟩, 16) := ⟨⟨by decide +kernel, by decide +kernel⟩, List.mem_of_getElem? (i := 22) (by decide +kernel), List.mem_of_getElem? (i := 845) (by decide +kernel), List.mem_of_getElem? (i := 846) (by decide +kernel)⟩
theorem lw_p28 : lw_okq (⟨"HeadYear", "startTrial", "(I)V"⟩, 16) := ⟨⟨by decide +kernel, by decide +kernel⟩, List.mem_of_getElem? (i := 22) (by decide +kernel), List.mem_of_getElem? (i := 849) (by decide +kernel), List.mem_of_getElem? (i := 850) (by decide +kernel)⟩
theorem lw_p29 : lw_okq (⟨"HeadYear", "passTrial", "(II)V"⟩, 16) := ⟨⟨by decide +kernel, by decide +kernel⟩, List.mem_of_getElem? (i := 22) (by decide +kernel), List.mem_of_getElem? (i := 857) (by decide +kernel), List.mem_of_getElem? (i := 858) (by decide +kernel)⟩
theorem lw_p30 : lw_okq (⟨"HeadYear", "ownHeads", "(IIII)I"⟩, 16) := ⟨⟨by decide +kernel, by decide +kernel⟩, List.mem_of_getElem? (i := 22) (by decide +kernel), List.mem_of_getElem? (i := 942) (by decide +kernel), List.mem_of_getElem? (i := 943) (by decide +kernel)⟩
theorem lw_p31 : lw_okq (⟨"java/lang/Throwable", "fillInStackTrace", "(I)Ljava/lang/Throwable;"⟩, 6) := ⟨⟨by decide +kernel, by decide +kernel⟩, List.mem_of_getElem? (i := 1002) (by decide +kernel), List.mem_of_getElem? (i := 1000) (by decide +kernel), List.mem_of_getElem? (i := 1001) (by decide +kernel)⟩
def lw_privs_2 : List (MethodName × Nat) := [(⟨"HeadYear$Seasons", "winterOf", "(LHeadYear$Folk;LHeadYear$Law;I)V"⟩, 5), (⟨"HeadYear$Seasons", "drawDead", "(LHeadYear$Folk;I)I"⟩, 5), (⟨"HeadYear$Seasons", "drawCounted", "(LHeadYear$Folk;II)I"⟩, 5), (⟨"HeadYear$Seasons", "moveIntoEmpty", "(LHeadYear$Folk;)I"⟩, 5), (⟨"HeadYear$Seasons", "changeRing", "(LHeadYear$Folk;)I"⟩, 5), (⟨"HeadYear$Seasons", "changeHuts", "(LHeadYear$Folk;I)I"⟩, 5), (⟨"HeadYear", "lives", "(I)Z"⟩, 16), (⟨"HeadYear$Moves", "isRoomFor", "(LHeadYear$Folk;I)Z"⟩, 1), (⟨"HeadYear$Odds", "pass", "(II)V"⟩, 7), (⟨"HeadYear$Odds", "spread", "(IIIJ)V"⟩, 7), (⟨"HeadYear$Odds", "land", "(IIII)V"⟩, 7), (⟨"HeadYear", "triedSum", "(IIII)I"⟩, 16), (⟨"HeadYear", "startTrial", "(I)V"⟩, 16), (⟨"HeadYear", "passTrial", "(II)V"⟩, 16), (⟨"HeadYear", "ownHeads", "(IIII)I"⟩, 16), (⟨"java/lang/Throwable", "fillInStackTrace", "(I)Ljava/lang/Throwable;"⟩, 6)]
theorem lw_r2 : ∀ q ∈ lw_privs_2, lw_okq q := List.forall_mem_cons.mpr ⟨lw_p16, List.forall_mem_cons.mpr ⟨lw_p17, List.forall_mem_cons.mpr ⟨lw_p18, List.forall_mem_cons.mpr ⟨lw_p19, List.forall_mem_cons.mpr ⟨lw_p20, List.forall_mem_cons.mpr ⟨lw_p21, List.forall_mem_cons.mpr ⟨lw_p22, List.forall_mem_cons.mpr ⟨lw_p23, List.forall_mem_cons.mpr ⟨lw_p24, List.forall_mem_cons.mpr ⟨lw_p25, List.forall_mem_cons.mpr ⟨lw_p26, List.forall_mem_cons.mpr ⟨lw_p27, List.forall_mem_cons.mpr ⟨lw_p28, List.forall_mem_cons.mpr ⟨lw_p29, List.forall_mem_cons.mpr ⟨lw_p30, List.forall_mem_cons.mpr ⟨lw_p31, fun _ h => absurd h List.not_mem_nil⟩⟩⟩⟩⟩⟩⟩⟩⟩⟩⟩⟩⟩⟩⟩⟩
theorem lw_p32 : lw_okq (⟨"HeadYearModel", "readValley", "()I"⟩, 54) := ⟨⟨by decide +kernel, by decide +kernel⟩, List.mem_of_getElem? (i := 1029) (by decide +kernel), List.mem_of_getElem? (i := 1217) (by decide +kernel), List.mem_of_getElem? (i := 1218) (by decide +kernel)⟩
theorem lw_p33 : lw_okq (⟨"HeadYearModel", "clauseText", "()V"⟩, 54) := ⟨⟨by decide +kernel, by decide +kernel⟩, List.mem_of_getElem? (i := 1029) (by decide +kernel), List.mem_of_getElem? (i := 1221) (by decide +kernel), List.mem_of_getElem? (i := 1222) (by decide +kernel)⟩
theorem lw_p34 : lw_okq (⟨"HeadYearModel", "look", "()I"⟩, 54) := ⟨⟨by decide +kernel, by decide +kernel⟩, List.mem_of_getElem? (i := 1029) (by decide +kernel), List.mem_of_getElem? (i := 1225) (by decide +kernel), List.mem_of_getElem? (i := 1226) (by decide +kernel)⟩
theorem lw_p35 : lw_okq (⟨"HeadYearModel", "here", "()I"⟩, 54) := ⟨⟨by decide +kernel, by decide +kernel⟩, List.mem_of_getElem? (i := 1029) (by decide +kernel), List.mem_of_getElem? (i := 1229) (by decide +kernel), List.mem_of_getElem? (i := 1230) (by decide +kernel)⟩
theorem lw_p36 : lw_okq (⟨"HeadYearModel", "bad", "()V"⟩, 54) := ⟨⟨by decide +kernel, by decide +kernel⟩, List.mem_of_getElem? (i := 1029) (by decide +kernel), List.mem_of_getElem? (i := 1233) (by decide +kernel), List.mem_of_getElem? (i := 1234) (by decide +kernel)⟩
theorem lw_p37 : lw_okq (⟨"HeadYearModel", "items", "(Z[II)V"⟩, 54) := ⟨⟨by decide +kernel, by decide +kernel⟩, List.mem_of_getElem? (i := 1029) (by decide +kernel), List.mem_of_getElem? (i := 1237) (by decide +kernel), List.mem_of_getElem? (i := 1238) (by decide +kernel)⟩
theorem lw_p38 : lw_okq (⟨"HeadYearModel", "itemNow", "(Z)I"⟩, 54) := ⟨⟨by decide +kernel, by decide +kernel⟩, List.mem_of_getElem? (i := 1029) (by decide +kernel), List.mem_of_getElem? (i := 1244) (by decide +kernel), List.mem_of_getElem? (i := 1245) (by decide +kernel)⟩
theorem lw_p39 : lw_okq (⟨"HeadYearModel", "number", "(II)I"⟩, 54) := ⟨⟨by decide +kernel, by decide +kernel⟩, List.mem_of_getElem? (i := 1029) (by decide +kernel), List.mem_of_getElem? (i := 1263) (by decide +kernel), List.mem_of_getElem? (i := 1264) (by decide +kernel)⟩
theorem lw_p40 : lw_okq (⟨"HeadYearModel", "areHoused", "()Z"⟩, 54) := ⟨⟨by decide +kernel, by decide +kernel⟩, List.mem_of_getElem? (i := 1029) (by decide +kernel), List.mem_of_getElem? (i := 1273) (by decide +kernel), List.mem_of_getElem? (i := 1274) (by decide +kernel)⟩
theorem lw_p41 : lw_okq (⟨"HeadYearModel", "readLaw", "(I)I"⟩, 54) := ⟨⟨by decide +kernel, by decide +kernel⟩, List.mem_of_getElem? (i := 1029) (by decide +kernel), List.mem_of_getElem? (i := 1277) (by decide +kernel), List.mem_of_getElem? (i := 1278) (by decide +kernel)⟩
theorem lw_p42 : lw_okq (⟨"HeadYearModel", "open", "(I)V"⟩, 54) := ⟨⟨by decide +kernel, by decide +kernel⟩, List.mem_of_getElem? (i := 1029) (by decide +kernel), List.mem_of_getElem? (i := 1281) (by decide +kernel), List.mem_of_getElem? (i := 1282) (by decide +kernel)⟩
theorem lw_p43 : lw_okq (⟨"HeadYearModel", "clause", "()V"⟩, 54) := ⟨⟨by decide +kernel, by decide +kernel⟩, List.mem_of_getElem? (i := 1029) (by decide +kernel), List.mem_of_getElem? (i := 1285) (by decide +kernel), List.mem_of_getElem? (i := 1286) (by decide +kernel)⟩
theorem lw_p44 : lw_okq (⟨"HeadYearModel", "condition", "()V"⟩, 54) := ⟨⟨by decide +kernel, by decide +kernel⟩, List.mem_of_getElem? (i := 1029) (by decide +kernel), List.mem_of_getElem? (i := 1289) (by decide +kernel), List.mem_of_getElem? (i := 1290) (by decide +kernel)⟩
theorem lw_p45 : lw_okq (⟨"HeadYearModel", "unit", "()V"⟩, 54) := ⟨⟨by decide +kernel, by decide +kernel⟩, List.mem_of_getElem? (i := 1029) (by decide +kernel), List.mem_of_getElem? (i := 1293) (by decide +kernel), List.mem_of_getElem? (i := 1294) (by decide +kernel)⟩
theorem lw_p46 : lw_okq (⟨"HeadYearModel", "opens", "()V"⟩, 54) := ⟨⟨by decide +kernel, by decide +kernel⟩, List.mem_of_getElem? (i := 1029) (by decide +kernel), List.mem_of_getElem? (i := 1297) (by decide +kernel), List.mem_of_getElem? (i := 1298) (by decide +kernel)⟩
theorem lw_p47 : lw_okq (⟨"HeadYearModel", "put", "(II)V"⟩, 54) := ⟨⟨by decide +kernel, by decide +kernel⟩, List.mem_of_getElem? (i := 1029) (by decide +kernel), List.mem_of_getElem? (i := 1301) (by decide +kernel), List.mem_of_getElem? (i := 1302) (by decide +kernel)⟩
def lw_privs_3 : List (MethodName × Nat) := [(⟨"HeadYearModel", "readValley", "()I"⟩, 54), (⟨"HeadYearModel", "clauseText", "()V"⟩, 54), (⟨"HeadYearModel", "look", "()I"⟩, 54), (⟨"HeadYearModel", "here", "()I"⟩, 54), (⟨"HeadYearModel", "bad", "()V"⟩, 54), (⟨"HeadYearModel", "items", "(Z[II)V"⟩, 54), (⟨"HeadYearModel", "itemNow", "(Z)I"⟩, 54), (⟨"HeadYearModel", "number", "(II)I"⟩, 54), (⟨"HeadYearModel", "areHoused", "()Z"⟩, 54), (⟨"HeadYearModel", "readLaw", "(I)I"⟩, 54), (⟨"HeadYearModel", "open", "(I)V"⟩, 54), (⟨"HeadYearModel", "clause", "()V"⟩, 54), (⟨"HeadYearModel", "condition", "()V"⟩, 54), (⟨"HeadYearModel", "unit", "()V"⟩, 54), (⟨"HeadYearModel", "opens", "()V"⟩, 54), (⟨"HeadYearModel", "put", "(II)V"⟩, 54)]
theorem lw_r3 : ∀ q ∈ lw_privs_3, lw_okq q := List.forall_mem_cons.mpr ⟨lw_p32, List.forall_mem_cons.mpr ⟨lw_p33, List.forall_mem_cons.mpr ⟨lw_p34, List.forall_mem_cons.mpr ⟨lw_p35, List.forall_mem_cons.mpr ⟨lw_p36, List.forall_mem_cons.mpr ⟨lw_p37, List.forall_mem_cons.mpr ⟨lw_p38, List.forall_mem_cons.mpr ⟨lw_p39, List.forall_mem_cons.mpr ⟨lw_p40, List.forall_mem_cons.mpr ⟨lw_p41, List.forall_mem_cons.mpr ⟨lw_p42, List.forall_mem_cons.mpr ⟨lw_p43, List.forall_mem_cons.mpr ⟨lw_p44, List.forall_mem_cons.mpr ⟨lw_p45, List.forall_mem_cons.mpr ⟨lw_p46, List.forall_mem_cons.mpr ⟨lw_p47, fun _ h => absurd h List.not_mem_nil⟩⟩⟩⟩⟩⟩⟩⟩⟩⟩⟩⟩⟩⟩⟩⟩
theorem lw_p48 : lw_okq (⟨"HeadYearModel", "closes", "(I)V"⟩, 54) := ⟨⟨by decide +kernel, by decide +kernel⟩, List.mem_of_getElem? (i := 1029) (by decide +kernel), List.mem_of_getElem? (i := 1305) (by decide +kernel), List.mem_of_getElem? (i := 1306) (by decide +kernel)⟩
theorem lw_p49 : lw_okq (⟨"HeadYearModel", "sum", "()V"⟩, 54) := ⟨⟨by decide +kernel, by decide +kernel⟩, List.mem_of_getElem? (i := 1029) (by decide +kernel), List.mem_of_getElem? (i := 1309) (by decide +kernel), List.mem_of_getElem? (i := 1310) (by decide +kernel)⟩
theorem lw_p50 : lw_okq (⟨"HeadYearModel", "term", "()V"⟩, 54) := ⟨⟨by decide +kernel, by decide +kernel⟩, List.mem_of_getElem? (i := 1029) (by decide +kernel), List.mem_of_getElem? (i := 1313) (by decide +kernel), List.mem_of_getElem? (i := 1314) (by decide +kernel)⟩
theorem lw_p51 : lw_okq (⟨"HeadYearModel", "atom", "()V"⟩, 54) := ⟨⟨by decide +kernel, by decide +kernel⟩, List.mem_of_getElem? (i := 1029) (by decide +kernel), List.mem_of_getElem? (i := 1317) (by decide +kernel), List.mem_of_getElem? (i := 1318) (by decide +kernel)⟩
theorem lw_p52 : lw_okq (⟨"HeadYearModel", "plainNumber", "()I"⟩, 54) := ⟨⟨by decide +kernel, by decide +kernel⟩, List.mem_of_getElem? (i := 1029) (by decide +kernel), List.mem_of_getElem? (i := 1321) (by decide +kernel), List.mem_of_getElem? (i := 1322) (by decide +kernel)⟩
theorem lw_p53 : lw_okq (⟨"HeadYearModel", "compare", "()V"⟩, 54) := ⟨⟨by decide +kernel, by decide +kernel⟩, List.mem_of_getElem? (i := 1029) (by decide +kernel), List.mem_of_getElem? (i := 1328) (by decide +kernel), List.mem_of_getElem? (i := 1329) (by decide +kernel)⟩
theorem lw_p54 : lw_okq (⟨"HeadYearModel", "goOnAnd", "()V"⟩, 54) := ⟨⟨by decide +kernel, by decide +kernel⟩, List.mem_of_getElem? (i := 1029) (by decide +kernel), List.mem_of_getElem? (i := 1335) (by decide +kernel), List.mem_of_getElem? (i := 1336) (by decide +kernel)⟩
theorem lw_p55 : lw_okq (⟨"HeadYearModel", "goOnOr", "()V"⟩, 54) := ⟨⟨by decide +kernel, by decide +kernel⟩, List.mem_of_getElem? (i := 1029) (by decide +kernel), List.mem_of_getElem? (i := 1339) (by decide +kernel), List.mem_of_getElem? (i := 1340) (by decide +kernel)⟩
theorem lw_p56 : lw_okq (⟨"HeadYearModel", "atEnd", "()I"⟩, 54) := ⟨⟨by decide +kernel, by decide +kernel⟩, List.mem_of_getElem? (i := 1029) (by decide +kernel), List.mem_of_getElem? (i := 1343) (by decide +kernel), List.mem_of_getElem? (i := 1344) (by decide +kernel)⟩
theorem lw_p57 : lw_okq (⟨"HeadYearModel", "takeValley", "()I"⟩, 54) := ⟨⟨by decide +kernel, by decide +kernel⟩, List.mem_of_getElem? (i := 1029) (by decide +kernel), List.mem_of_getElem? (i := 1351) (by decide +kernel), List.mem_of_getElem? (i := 1352) (by decide +kernel)⟩
theorem lw_p58 : lw_okq (⟨"HeadYearModel", "tell", "(III)V"⟩, 54) := ⟨⟨by decide +kernel, by decide +kernel⟩, List.mem_of_getElem? (i := 1029) (by decide +kernel), List.mem_of_getElem? (i := 1355) (by decide +kernel), List.mem_of_getElem? (i := 1356) (by decide +kernel)⟩
theorem lw_p59 : lw_okq (⟨"HeadYearModel", "emptyHut", "(II)I"⟩, 54) := ⟨⟨by decide +kernel, by decide +kernel⟩, List.mem_of_getElem? (i := 1029) (by decide +kernel), List.mem_of_getElem? (i := 1359) (by decide +kernel), List.mem_of_getElem? (i := 1360) (by decide +kernel)⟩
theorem lw_p60 : lw_okq (⟨"HeadYearModel", "levelOf", "(II)I"⟩, 54) := ⟨⟨by decide +kernel, by decide +kernel⟩, List.mem_of_getElem? (i := 1029) (by decide +kernel), List.mem_of_getElem? (i := 1363) (by decide +kernel), List.mem_of_getElem? (i := 1364) (by decide +kernel)⟩
theorem lw_p61 : lw_okq (⟨"HeadYearModel", "inHut", "(II)I"⟩, 54) := ⟨⟨by decide +kernel, by decide +kernel⟩, List.mem_of_getElem? (i := 1029) (by decide +kernel), List.mem_of_getElem? (i := 1367) (by decide +kernel), List.mem_of_getElem? (i := 1368) (by decide +kernel)⟩
theorem lw_p62 : lw_okq (⟨"HeadYearModel", "of", "(II)I"⟩, 54) := ⟨⟨by decide +kernel, by decide +kernel⟩, List.mem_of_getElem? (i := 1029) (by decide +kernel), List.mem_of_getElem? (i := 1371) (by decide +kernel), List.mem_of_getElem? (i := 1372) (by decide +kernel)⟩
theorem lw_p63 : lw_okq (⟨"HeadYearModel", "isLevel", "(I)Z"⟩, 54) := ⟨⟨by decide +kernel, by decide +kernel⟩, List.mem_of_getElem? (i := 1029) (by decide +kernel), List.mem_of_getElem? (i := 1379) (by decide +kernel), List.mem_of_getElem? (i := 1380) (by decide +kernel)⟩
def lw_privs_4 : List (MethodName × Nat) := [(⟨"HeadYearModel", "closes", "(I)V"⟩, 54), (⟨"HeadYearModel", "sum", "()V"⟩, 54), (⟨"HeadYearModel", "term", "()V"⟩, 54), (⟨"HeadYearModel", "atom", "()V"⟩, 54), (⟨"HeadYearModel", "plainNumber", "()I"⟩, 54), (⟨"HeadYearModel", "compare", "()V"⟩, 54), (⟨"HeadYearModel", "goOnAnd", "()V"⟩, 54), (⟨"HeadYearModel", "goOnOr", "()V"⟩, 54), (⟨"HeadYearModel", "atEnd", "()I"⟩, 54), (⟨"HeadYearModel", "takeValley", "()I"⟩, 54), (⟨"HeadYearModel", "tell", "(III)V"⟩, 54), (⟨"HeadYearModel", "emptyHut", "(II)I"⟩, 54), (⟨"HeadYearModel", "levelOf", "(II)I"⟩, 54), (⟨"HeadYearModel", "inHut", "(II)I"⟩, 54), (⟨"HeadYearModel", "of", "(II)I"⟩, 54), (⟨"HeadYearModel", "isLevel", "(I)Z"⟩, 54)]
theorem lw_r4 : ∀ q ∈ lw_privs_4, lw_okq q := List.forall_mem_cons.mpr ⟨lw_p48, List.forall_mem_cons.mpr ⟨lw_p49, List.forall_mem_cons.mpr ⟨lw_p50, List.forall_mem_cons.mpr ⟨lw_p51, List.forall_mem_cons.mpr ⟨lw_p52, List.forall_mem_cons.mpr ⟨lw_p53, List.forall_mem_cons.mpr ⟨lw_p54, List.forall_mem_cons.mpr ⟨lw_p55, List.forall_mem_cons.mpr ⟨lw_p56, List.forall_mem_cons.mpr ⟨lw_p57, List.forall_mem_cons.mpr ⟨lw_p58, List.forall_mem_cons.mpr ⟨lw_p59, List.forall_mem_cons.mpr ⟨lw_p60, List.forall_mem_cons.mpr ⟨lw_p61, List.forall_mem_cons.mpr ⟨lw_p62, List.forall_mem_cons.mpr ⟨lw_p63, fun _ h => absurd h List.not_mem_nil⟩⟩⟩⟩⟩⟩⟩⟩⟩⟩⟩⟩⟩⟩⟩⟩
theorem lw_p64 : lw_okq (⟨"HeadYearModel", "headsAt", "(I)I"⟩, 54) := ⟨⟨by decide +kernel, by decide +kernel⟩, List.mem_of_getElem? (i := 1029) (by decide +kernel), List.mem_of_getElem? (i := 1383) (by decide +kernel), List.mem_of_getElem? (i := 1384) (by decide +kernel)⟩
theorem lw_p65 : lw_okq (⟨"HeadYearModel", "empties", "(I)I"⟩, 54) := ⟨⟨by decide +kernel, by decide +kernel⟩, List.mem_of_getElem? (i := 1029) (by decide +kernel), List.mem_of_getElem? (i := 1387) (by decide +kernel), List.mem_of_getElem? (i := 1388) (by decide +kernel)⟩
theorem lw_p66 : lw_okq (⟨"HeadYearModel", "lackAt", "(I)I"⟩, 54) := ⟨⟨by decide +kernel, by decide +kernel⟩, List.mem_of_getElem? (i := 1029) (by decide +kernel), List.mem_of_getElem? (i := 1391) (by decide +kernel), List.mem_of_getElem? (i := 1392) (by decide +kernel)⟩
theorem lw_p67 : lw_okq (⟨"HeadYearModel", "isFamily", "(I)Z"⟩, 54) := ⟨⟨by decide +kernel, by decide +kernel⟩, List.mem_of_getElem? (i := 1029) (by decide +kernel), List.mem_of_getElem? (i := 1400) (by decide +kernel), List.mem_of_getElem? (i := 1401) (by decide +kernel)⟩
theorem lw_p68 : lw_okq (⟨"HeadYearModel", "isGone", "(I)Z"⟩, 54) := ⟨⟨by decide +kernel, by decide +kernel⟩, List.mem_of_getElem? (i := 1029) (by decide +kernel), List.mem_of_getElem? (i := 1405) (by decide +kernel), List.mem_of_getElem? (i := 1406) (by decide +kernel)⟩
theorem lw_p69 : lw_okq (⟨"HeadYearModel", "want", "(I)I"⟩, 54) := ⟨⟨by decide +kernel, by decide +kernel⟩, List.mem_of_getElem? (i := 1029) (by decide +kernel), List.mem_of_getElem? (i := 1409) (by decide +kernel), List.mem_of_getElem? (i := 1410) (by decide +kernel)⟩
theorem lw_p70 : lw_okq (⟨"HeadYearModel", "wantBy", "(II)I"⟩, 54) := ⟨⟨by decide +kernel, by decide +kernel⟩, List.mem_of_getElem? (i := 1029) (by decide +kernel), List.mem_of_getElem? (i := 1413) (by decide +kernel), List.mem_of_getElem? (i := 1414) (by decide +kernel)⟩
theorem lw_p71 : lw_okq (⟨"HeadYearModel", "winter", "(II)V"⟩, 54) := ⟨⟨by decide +kernel, by decide +kernel⟩, List.mem_of_getElem? (i := 1029) (by decide +kernel), List.mem_of_getElem? (i := 1438) (by decide +kernel), List.mem_of_getElem? (i := 1439) (by decide +kernel)⟩
theorem lw_p72 : lw_okq (⟨"HeadYearModel", "winterOf", "(IIII)V"⟩, 54) := ⟨⟨by decide +kernel, by decide +kernel⟩, List.mem_of_getElem? (i := 1029) (by decide +kernel), List.mem_of_getElem? (i := 1442) (by decide +kernel), List.mem_of_getElem? (i := 1443) (by decide +kernel)⟩
theorem lw_p73 : lw_okq (⟨"HeadYearModel", "draw", "(I)I"⟩, 54) := ⟨⟨by decide +kernel, by decide +kernel⟩, List.mem_of_getElem? (i := 1029) (by decide +kernel), List.mem_of_getElem? (i := 1446) (by decide +kernel), List.mem_of_getElem? (i := 1447) (by decide +kernel)⟩
theorem lw_p74 : lw_okq (⟨"HeadYearModel", "worthBy", "(IIIIIII)I"⟩, 54) := ⟨⟨by decide +kernel, by decide +kernel⟩, List.mem_of_getElem? (i := 1029) (by decide +kernel), List.mem_of_getElem? (i := 1452) (by decide +kernel), List.mem_of_getElem? (i := 1453) (by decide +kernel)⟩
theorem lw_p75 : lw_okq (⟨"HeadYearModel", "worthOf", "(I)I"⟩, 54) := ⟨⟨by decide +kernel, by decide +kernel⟩, List.mem_of_getElem? (i := 1029) (by decide +kernel), List.mem_of_getElem? (i := 1456) (by decide +kernel), List.mem_of_getElem? (i := 1457) (by decide +kernel)⟩
theorem lw_p76 : lw_okq (⟨"HeadYearModel", "workOut", "(III)I"⟩, 54) := ⟨⟨by decide +kernel, by decide +kernel⟩, List.mem_of_getElem? (i := 1029) (by decide +kernel), List.mem_of_getElem? (i := 1460) (by decide +kernel), List.mem_of_getElem? (i := 1461) (by decide +kernel)⟩
theorem lw_p77 : lw_okq (⟨"HeadYearModel", "springs", "()I"⟩, 54) := ⟨⟨by decide +kernel, by decide +kernel⟩, List.mem_of_getElem? (i := 1029) (by decide +kernel), List.mem_of_getElem? (i := 1478) (by decide +kernel), List.mem_of_getElem? (i := 1479) (by decide +kernel)⟩
theorem lw_p78 : lw_okq (⟨"HeadYearModel", "goer", "()I"⟩, 54) := ⟨⟨by decide +kernel, by decide +kernel⟩, List.mem_of_getElem? (i := 1029) (by decide +kernel), List.mem_of_getElem? (i := 1482) (by decide +kernel), List.mem_of_getElem? (i := 1483) (by decide +kernel)⟩
theorem lw_p79 : lw_okq (⟨"HeadYearModel", "wants", "(I)Z"⟩, 54) := ⟨⟨by decide +kernel, by decide +kernel⟩, List.mem_of_getElem? (i := 1029) (by decide +kernel), List.mem_of_getElem? (i := 1486) (by decide +kernel), List.mem_of_getElem? (i := 1487) (by decide +kernel)⟩
def lw_privs_5 : List (MethodName × Nat) := [(⟨"HeadYearModel", "headsAt", "(I)I"⟩, 54), (⟨"HeadYearModel", "empties", "(I)I"⟩, 54), (⟨"HeadYearModel", "lackAt", "(I)I"⟩, 54), (⟨"HeadYearModel", "isFamily", "(I)Z"⟩, 54), (⟨"HeadYearModel", "isGone", "(I)Z"⟩, 54), (⟨"HeadYearModel", "want", "(I)I"⟩, 54), (⟨"HeadYearModel", "wantBy", "(II)I"⟩, 54), (⟨"HeadYearModel", "winter", "(II)V"⟩, 54), (⟨"HeadYearModel", "winterOf", "(IIII)V"⟩, 54), (⟨"HeadYearModel", "draw", "(I)I"⟩, 54), (⟨"HeadYearModel", "worthBy", "(IIIIIII)I"⟩, 54), (⟨"HeadYearModel", "worthOf", "(I)I"⟩, 54), (⟨"HeadYearModel", "workOut", "(III)I"⟩, 54), (⟨"HeadYearModel", "springs", "()I"⟩, 54), (⟨"HeadYearModel", "goer", "()I"⟩, 54), (⟨"HeadYearModel", "wants", "(I)Z"⟩, 54)]
theorem lw_r5 : ∀ q ∈ lw_privs_5, lw_okq q := List.forall_mem_cons.mpr ⟨lw_p64, List.forall_mem_cons.mpr ⟨lw_p65, List.forall_mem_cons.mpr ⟨lw_p66, List.forall_mem_cons.mpr ⟨lw_p67, List.forall_mem_cons.mpr ⟨lw_p68, List.forall_mem_cons.mpr ⟨lw_p69, List.forall_mem_cons.mpr ⟨lw_p70, List.forall_mem_cons.mpr ⟨lw_p71, List.forall_mem_cons.mpr ⟨lw_p72, List.forall_mem_cons.mpr ⟨lw_p73, List.forall_mem_cons.mpr ⟨lw_p74, List.forall_mem_cons.mpr ⟨lw_p75, List.forall_mem_cons.mpr ⟨lw_p76, List.forall_mem_cons.mpr ⟨lw_p77, List.forall_mem_cons.mpr ⟨lw_p78, List.forall_mem_cons.mpr ⟨lw_p79, fun _ h => absurd h List.not_mem_nil⟩⟩⟩⟩⟩⟩⟩⟩⟩⟩⟩⟩⟩⟩⟩⟩
theorem lw_p80 : lw_okq (⟨"HeadYearModel", "ring", "()I"⟩, 54) := ⟨⟨by decide +kernel, by decide +kernel⟩, List.mem_of_getElem? (i := 1029) (by decide +kernel), List.mem_of_getElem? (i := 1490) (by decide +kernel), List.mem_of_getElem? (i := 1491) (by decide +kernel)⟩
theorem lw_p81 : lw_okq (⟨"HeadYearModel", "ringFrom", "(I)I"⟩, 54) := ⟨⟨by decide +kernel, by decide +kernel⟩, List.mem_of_getElem? (i := 1029) (by decide +kernel), List.mem_of_getElem? (i := 1494) (by decide +kernel), List.mem_of_getElem? (i := 1495) (by decide +kernel)⟩
theorem lw_p82 : lw_okq (⟨"HeadYearModel", "nextOf", "(I)I"⟩, 54) := ⟨⟨by decide +kernel, by decide +kernel⟩, List.mem_of_getElem? (i := 1029) (by decide +kernel), List.mem_of_getElem? (i := 1498) (by decide +kernel), List.mem_of_getElem? (i := 1499) (by decide +kernel)⟩
theorem lw_p83 : lw_okq (⟨"HeadYearModel", "turn", "(I)I"⟩, 54) := ⟨⟨by decide +kernel, by decide +kernel⟩, List.mem_of_getElem? (i := 1029) (by decide +kernel), List.mem_of_getElem? (i := 1502) (by decide +kernel), List.mem_of_getElem? (i := 1503) (by decide +kernel)⟩
theorem lw_p84 : lw_okq (⟨"HeadYearModel", "headsOfAll", "()I"⟩, 54) := ⟨⟨by decide +kernel, by decide +kernel⟩, List.mem_of_getElem? (i := 1029) (by decide +kernel), List.mem_of_getElem? (i := 1507) (by decide +kernel), List.mem_of_getElem? (i := 1508) (by decide +kernel)⟩
theorem lw_p85 : lw_okq (⟨"HeadYearModel", "waiters", "()I"⟩, 54) := ⟨⟨by decide +kernel, by decide +kernel⟩, List.mem_of_getElem? (i := 1029) (by decide +kernel), List.mem_of_getElem? (i := 1532) (by decide +kernel), List.mem_of_getElem? (i := 1533) (by decide +kernel)⟩
theorem lw_p86 : lw_okq (⟨"HeadYearModel", "canGo", "(I)Z"⟩, 54) := ⟨⟨by decide +kernel, by decide +kernel⟩, List.mem_of_getElem? (i := 1029) (by decide +kernel), List.mem_of_getElem? (i := 1540) (by decide +kernel), List.mem_of_getElem? (i := 1541) (by decide +kernel)⟩
theorem lw_p87 : lw_okq (⟨"HeadYearModel", "oneWinter", "(II)V"⟩, 54) := ⟨⟨by decide +kernel, by decide +kernel⟩, List.mem_of_getElem? (i := 1029) (by decide +kernel), List.mem_of_getElem? (i := 1556) (by decide +kernel), List.mem_of_getElem? (i := 1557) (by decide +kernel)⟩
theorem lw_p88 : lw_okq (⟨"HeadYearModel", "goOn", "(IIIJI)V"⟩, 54) := ⟨⟨by decide +kernel, by decide +kernel⟩, List.mem_of_getElem? (i := 1029) (by decide +kernel), List.mem_of_getElem? (i := 1561) (by decide +kernel), List.mem_of_getElem? (i := 1562) (by decide +kernel)⟩
theorem lw_p89 : lw_okq (⟨"HeadYearModel", "isTrial", "(II)Z"⟩, 54) := ⟨⟨by decide +kernel, by decide +kernel⟩, List.mem_of_getElem? (i := 1029) (by decide +kernel), List.mem_of_getElem? (i := 1569) (by decide +kernel), List.mem_of_getElem? (i := 1570) (by decide +kernel)⟩
theorem lw_p90 : lw_okq (⟨"HeadYearModel", "triedBy", "(IIII)I"⟩, 54) := ⟨⟨by decide +kernel, by decide +kernel⟩, List.mem_of_getElem? (i := 1029) (by decide +kernel), List.mem_of_getElem? (i := 1573) (by decide +kernel), List.mem_of_getElem? (i := 1574) (by decide +kernel)⟩
theorem lw_p91 : lw_okq (⟨"HeadYearModel", "headsIn", "(I)I"⟩, 54) := ⟨⟨by decide +kernel, by decide +kernel⟩, List.mem_of_getElem? (i := 1029) (by decide +kernel), List.mem_of_getElem? (i := 1616) (by decide +kernel), List.mem_of_getElem? (i := 1617) (by decide +kernel)⟩
theorem lw_p92 : lw_okq (⟨"HeadYearModel", "headsBy", "(IIII)I"⟩, 54) := ⟨⟨by decide +kernel, by decide +kernel⟩, List.mem_of_getElem? (i := 1029) (by decide +kernel), List.mem_of_getElem? (i := 1629) (by decide +kernel), List.mem_of_getElem? (i := 1630) (by decide +kernel)⟩
theorem lw_p93 : lw_okq (⟨"HeadYearModel", "gones", "()I"⟩, 54) := ⟨⟨by decide +kernel, by decide +kernel⟩, List.mem_of_getElem? (i := 1029) (by decide +kernel), List.mem_of_getElem? (i := 1645) (by decide +kernel), List.mem_of_getElem? (i := 1646) (by decide +kernel)⟩
def lw_privs_6 : List (MethodName × Nat) := [(⟨"HeadYearModel", "ring", "()I"⟩, 54), (⟨"HeadYearModel", "ringFrom", "(I)I"⟩, 54), (⟨"HeadYearModel", "nextOf", "(I)I"⟩, 54), (⟨"HeadYearModel", "turn", "(I)I"⟩, 54), (⟨"HeadYearModel", "headsOfAll", "()I"⟩, 54), (⟨"HeadYearModel", "waiters", "()I"⟩, 54), (⟨"HeadYearModel", "canGo", "(I)Z"⟩, 54), (⟨"HeadYearModel", "oneWinter", "(II)V"⟩, 54), (⟨"HeadYearModel", "goOn", "(IIIJI)V"⟩, 54), (⟨"HeadYearModel", "isTrial", "(II)Z"⟩, 54), (⟨"HeadYearModel", "triedBy", "(IIII)I"⟩, 54), (⟨"HeadYearModel", "headsIn", "(I)I"⟩, 54), (⟨"HeadYearModel", "headsBy", "(IIII)I"⟩, 54), (⟨"HeadYearModel", "gones", "()I"⟩, 54)]
theorem lw_r6 : ∀ q ∈ lw_privs_6, lw_okq q := List.forall_mem_cons.mpr ⟨lw_p80, List.forall_mem_cons.mpr ⟨lw_p81, List.forall_mem_cons.mpr ⟨lw_p82, List.forall_mem_cons.mpr ⟨lw_p83, List.forall_mem_cons.mpr ⟨lw_p84, List.forall_mem_cons.mpr ⟨lw_p85, List.forall_mem_cons.mpr ⟨lw_p86, List.forall_mem_cons.mpr ⟨lw_p87, List.forall_mem_cons.mpr ⟨lw_p88, List.forall_mem_cons.mpr ⟨lw_p89, List.forall_mem_cons.mpr ⟨lw_p90, List.forall_mem_cons.mpr ⟨lw_p91, List.forall_mem_cons.mpr ⟨lw_p92, List.forall_mem_cons.mpr ⟨lw_p93, fun _ h => absurd h List.not_mem_nil⟩⟩⟩⟩⟩⟩⟩⟩⟩⟩⟩⟩⟩⟩
def lw_privs : List (MethodName × Nat) := lw_privs_1 ++ (lw_privs_2 ++ (lw_privs_3 ++ (lw_privs_4 ++ (lw_privs_5 ++ (lw_privs_6)))))
def lw_tbl : List Cond := k2_sels lw_privs ++ tables_1
theorem lw_privs_ok : ∀ q ∈ lw_privs, lw_okq q := by
  show ∀ q ∈ lw_privs_1 ++ (lw_privs_2 ++ (lw_privs_3 ++ (lw_privs_4 ++ (lw_privs_5 ++ (lw_privs_6))))), lw_okq q
  exact List.forall_mem_append.mpr ⟨lw_r1, List.forall_mem_append.mpr ⟨lw_r2, List.forall_mem_append.mpr ⟨lw_r3, List.forall_mem_append.mpr ⟨lw_r4, List.forall_mem_append.mpr ⟨lw_r5, lw_r6⟩⟩⟩⟩⟩
-- ===== end of PART A; then your names; then what follows =====
end
section
/-! ===== BEGIN words of one list among another's, by their places ===== -/
theorem goodIn_r {big : List Cond} (ws : List Cond) (ps : List Nat) (hp : ws = ps.filterMap (fun i => big[i]?)) (h : ws.all goodWord = true) : GoodIn big ws := by
  intro w hw
  have h1 := List.all_eq_true.mp h w hw
  rw [hp] at hw
  obtain ⟨i, -, hi⟩ := List.mem_filterMap.mp hw
  have hm : w ∈ big := by first | exact List.mem_of_getElem? hi | exact List.getElem?_mem hi
  exact ⟨hm, good_of_word h1⟩
theorem goodIn_app {big a b : List Cond} (ha : GoodIn big a) (hb : GoodIn big b) : GoodIn big (a ++ b) := fun w h => (List.mem_append.mp h).elim (ha w) (hb w)
theorem goodIn_ca {big a b : List Cond} {c : Cond} (ha : GoodIn big (c :: a)) (hb : GoodIn big b) : GoodIn big (c :: (a ++ b)) := fun w h => (List.mem_cons.mp h).elim (fun e => ha w (List.mem_cons.mpr (Or.inl e))) (fun h => (List.mem_append.mp h).elim (fun h => ha w (List.mem_cons.mpr (Or.inr h))) (hb w))
theorem goodIn_sub {big ws : List Cond} (hm : ∀ w ∈ ws, w ∈ big) (h : ws.all goodWord = true) : GoodIn big ws := fun w hw => ⟨hm w hw, good_of_word (List.all_eq_true.mp h w hw)⟩
/-! ===== END ===== -/

/-! ===== BEGIN exceptions that leave a method, and their catching by the caller (launches without stack traces) ===== -/
section VXA
/-! The laws vx_back, vx_callV, vx_callS, vx_callSW, vx_throw0, vx_throwS follow proofs of the library, with one case more: JvmDerived/Free/Laws.lean (Back.of_free), Shelf42/LK1.lean (callV, callS), Shelf/KitTraced.lean (throwNew0V, throwNewS). -/
/-- where a method has thrown q: the class by its name, the cell, what was written, the world -/
def vx_T (XC : String → State → State → Prop) (st : State) (q : Addr) (t : State) (mc ms : Nat) (free : Addr → Prop) : Prop :=
  ∃ (E : String) (ce : Cell) (L : List Loc), XC E st t ∧ t.heap[q]? = some ce ∧ ce.vm = .none ∧ st.vm.findClass E = some ce.cls ∧ st.WarmedH t.vm ∧ st.sameButNew ({ t with vm := st.vm } : State) L mc ms ∧ ∀ z ∈ L, free z.base
def vx_Q (Qc : Array Value → State → Outcome → State → Prop) (XC : String → State → State → Prop) (mc ms : Nat) (free : Addr → Prop) : Array Value → State → Outcome → State → Prop := fun a st o t =>
  (Qc a st o t ∧ ∃ L, FrameEnd st o t L mc ms ∧ ∀ q ∈ L, free q.base) ∨ ∃ q, o = .threw q ∧ vx_T XC st q t mc ms free
/-- a callee that returns or throws -/
def vx_Met (l : Launch) (y : MethodName) (ws : List Cond) (rm : Room) (Pc : Array Value → State → Prop) (Qc : Array Value → State → Outcome → State → Prop) (XC : String → State → State → Prop) (mc ms : Nat) (free : Addr → Prop) : Prop :=
  MetFree l y (headSpec ws rm) Pc (fun _ _ _ _ _ => True) (vx_Q Qc XC mc ms free)
def vx_Post (XC : String → State → State → Prop) (mc ms : Nat) (free : Addr → Prop) : Pt → Array Value → Addr → Pt → Prop := fun A a q B =>
  ∃ (g : JFrame) (mk : MethodId) (t : State) (L : List Loc) (E : String) (ce : Cell), B.U.heap = t.heap ∧ B.U.vm = t.vm ∧ XC E (A.U.calling g mk a) t ∧ t.heap[q]? = some ce ∧ ce.vm = .none ∧ A.U.vm.findClass E = some ce.cls ∧ B.locs = A.locs ++ L ∧ (∀ z ∈ L, free z.base) ∧ B.cells = A.cells + mc ∧ B.slots = A.slots + ms
def vx_Back (l : Launch) (R : Room) (p : Program) (e : Env) (below : List Frame) (s : State) (sargs : Array Value) (y : MethodName) (len W9 : Nat)
    (Pre : Pt → Array Value → Prop) (Post : Pt → Array Value → Option Value → Pt → Prop) (PostX : Pt → Array Value → Addr → Pt → Prop) : Prop :=
  ∀ (m : MethodId) (meth : Method) (c : Code) (A : Pt) (g : JFrame) (ig : Instr) (mk : MethodId) (a : Array Value),
    Stand p l e R s m sargs below meth c A.U A.locs A.cells A.slots → g.method = m → g.locals.size = c.maxLocals → decode c.code g.pc = .ok (ig, len) →
    2 * g.monitorRoom + (g.stack.map fun v => v.category).sum ≤ W9 → A.U.methodNamed? y = some mk → Pre A a →
    (∃ (v : Option Value) (B : Pt), Stand p l e R s m sargs below meth c B.U B.locs B.cells B.slots ∧ Post A a v B ∧
      Steps p.tables e below (doInvoke e (A.U.setTop g) [] mk a).1 (B.U.setTop { g with pc := g.pc + len, stack := v.toList ++ g.stack })) ∨
    (∃ (q : Addr) (B : Pt), Stand p l e R s m sargs below meth c B.U B.locs B.cells B.slots ∧ PostX A a q B ∧
      Steps p.tables e below (doInvoke e (A.U.setTop g) [] mk a).1 ((B.U.setTop g).pushFrame (.throwing q)))
section Payer
variable {l : Launch} {R : Room} {p : Program} {e : Env} {below : List Frame} {s : State} {sargs : Array Value} {y : MethodName} {len W9 : Nat}
theorem vx_back {ws : List Cond} {rm : Room} {Pc : Array Value → State → Prop} {Qc : Array Value → State → Outcome → State → Prop} {XC : String → State → State → Prop} {mc ms : Nat} {free : Addr → Prop} {bytes : ByteArray} {maxL : Nat} {ret : Option FieldType}
    (hM : vx_Met l y ws rm Pc Qc XC mc ms free) (hblind : FrameBlind Pc) (hrc : rm.cells = mc) (hrs : rm.slots = ms)
    (hframes : rm.frames + 1 ≤ R.frames) (hlocals : W9 + (maxL + 11) + rm.locals ≤ R.locals)
    (hws : ∀ w ∈ ws, ∀ a' U, s.WarmedH U.vm → w.before a' U = true) (hcode : Cond.code y bytes maxL ret ∈ ws) (hinit : ∀ a' U, s.WarmedH U.vm → (Cond.initialized y.cls).before a' U = true) :
    vx_Back l R p e below s sargs y len W9 (PreOf R mc ms Pc) (PostOf Qc mc ms free) (vx_Post XC mc ms free) := by
  intro m meth c A g ig mk a X hg hsize hdg hW hn hp
  have h1 : (headSpec ws rm).pre.before a A.U = true := atoms_intro fun w hw => hws w hw _ _ X.warmed
  have h2 : (Cond.code y bytes maxL ret).before a A.U = true := hws _ hcode _ _ X.warmed
  have h3 : (Cond.initialized y.cls).before a A.U = true := hinit _ _ X.warmed
  have h4 : A.cells + (headSpec ws rm).room.cells ≤ R.cells := by rw [show (headSpec ws rm).room.cells = mc from hrc]; exact hp.1
  have h5 : A.slots + (headSpec ws rm).room.slots ≤ R.slots := by rw [show (headSpec ws rm).room.slots = ms from hrs]; exact hp.2.1
  have hPc : Pc a (A.U.calling g mk a) := hblind _ _ _ _ hp.2.2
  obtain ⟨U, Ls, c0, s0⟩ := A
  dsimp only [Pt.U, Pt.locs, Pt.cells, Pt.slots] at h1 h2 h3 h4 h5 X hn hPc ⊢
  obtain ⟨methY, cY, hmY, hcY, -, hlY, -, -, -, -⟩ := Cond.code_spec hn h2
  obtain ⟨kY, hkY, -⟩ := className_of_methodNamed hn
  have hinitY : kY.init = .initialized := Cond.initialized_spec (findClass_of_methodNamed hn) hkY h3
  have h : At U g.method c below := by rw [hg]; exact X.here
  have hlocals9 : W9 + (maxL + 11) + (headSpec ws rm).room.locals ≤ R.locals := hlocals
  have happ : (headSpec ws rm).appliesLoose y e.platform (U.calling g mk a) = true :=
    Spec.appliesLoose_calling (g := g) h hdg hn hkY hinitY
      (X.room_calling (g := g) (R' := (headSpec ws rm).room) hsize hmY hcY hframes (by rw [hlY]; omega) h4 h5) h1
  obtain ⟨mid, hmid⟩ := h.above
  have hfr : (U.setTop g).frames = (.java g :: mid) ++ below := by rw [State.frames_setTop' g h.top, hmid]; rfl
  obtain ⟨o, s₂, hsteps, -, hend, hq⟩ := Steps.callFree hM p X.admits X.cas X.clock (acts := []) hfr happ hPc trivial
  have hq' : vx_Q Qc XC mc ms free a (U.calling g mk a) o s₂ := hq
  rw [State.frames_setTop' g h.top] at hend
  obtain ⟨g₀, hg0⟩ := Option.isSome_iff_exists.mp h.top
  obtain ⟨r, hr⟩ := State.topJava?_eq_some.mp hg0
  have hr' : (({ U with heap := s₂.heap, slotsUsed := s₂.slotsUsed } : State).setVm s₂.vm).frames = .java g₀ :: r := hr
  rcases hq' with ⟨hqc, L, hfe, hL⟩ | ⟨q, rfl, E, ce, L, hx, hce, hcv, hcl, hW₂, hsm, hL⟩
  · obtain ⟨⟨v, rfl⟩, hW₂, e2, q2, q3, q4, q5, q6⟩ := id hfe
    have e3 : s₂ = ({ (U.calling g mk a).setFrames s₂.frames with heap := s₂.heap, slotsUsed := s₂.slotsUsed } : State).setVm s₂.vm := by
      have : s₂ = ({ s₂ with vm := (U.calling g mk a).vm } : State).setVm s₂.vm := rfl
      rw [e2] at this
      exact this
    obtain ⟨c₂, i₂, len₂, hc₂, hd₂, hf₂⟩ := hend
    have hW' : U.WarmedH s₂.vm := hW₂
    have hcc : c₂ = c := by
      have h1 : s₂.code? g.method = U.code? g.method := by
        rw [State.code?_eq, State.code?_eq, hW'.alike.method?]
      exact Option.some.inj (hc₂.symm.trans (h1.trans h.code))
    subst hcc
    have hlen : len₂ = len := by rw [hdg] at hd₂; cases hd₂; rfl
    subst hlen
    have hs₂ : s₂ = (({ U with heap := s₂.heap, slotsUsed := s₂.slotsUsed } : State).setVm s₂.vm).setTop { g with pc := g.pc + len₂, stack := v.toList ++ g.stack } := by
      refine e3.trans ?_
      rw [hf₂, State.calling_eq h.top, State.setFrames_setFrames, State.setTop_of_frames _ hr', hr]
      rfl
    have hsame : U.sameButNew ({ U with heap := s₂.heap, slotsUsed := s₂.slotsUsed } : State) L mc ms := by
      refine ⟨?_, q2, q3, q4, q5, q6⟩
      obtain ⟨t, ht, -⟩ := State.frames_cons hr
      show ({ U with heap := s₂.heap, slotsUsed := s₂.slotsUsed } : State) = { U.setFrames U.frames with heap := s₂.heap, slotsUsed := s₂.slotsUsed }
      rw [State.setFrames_self ht]
    subst hg
    refine Or.inl ⟨v, ⟨(({ U with heap := s₂.heap, slotsUsed := s₂.slotsUsed } : State).setVm s₂.vm), Ls ++ L, c0 + mc, s0 + ms⟩,
      ⟨X.admits, X.cas, X.clock, X.frames, X.room, X.hears, X.method, X.code, (X.here.setHeapUsed s₂.heap s₂.slotsUsed).setVm hW'.alike, X.tail, State.WarmedH.trans X.warmed hW', X.limits, X.bytes, X.same.trans (hsame.setVm s.vm)⟩,
      ⟨g, mk, s₂, L, rfl, rfl, hqc, rfl, hL, rfl, rfl⟩, ?_⟩
    show Steps p.tables e below _ ((({ U with heap := s₂.heap, slotsUsed := s₂.slotsUsed } : State).setVm s₂.vm).setTop { g with pc := g.pc + len₂, stack := v.toList ++ g.stack })
    rw [← hs₂]
    exact hsteps
  · obtain ⟨e2, q2, q3, q4, q5, q6⟩ := id hsm
    have e3 : s₂ = ({ (U.calling g mk a).setFrames s₂.frames with heap := s₂.heap, slotsUsed := s₂.slotsUsed } : State).setVm s₂.vm := by
      have : s₂ = ({ s₂ with vm := (U.calling g mk a).vm } : State).setVm s₂.vm := rfl
      rw [e2] at this
      exact this
    have hf₂ : s₂.frames = .throwing q :: .java g :: U.frames.tail := hend
    have hW' : U.WarmedH s₂.vm := hW₂
    have hs₂ : s₂ = ((({ U with heap := s₂.heap, slotsUsed := s₂.slotsUsed } : State).setVm s₂.vm).setTop g).pushFrame (.throwing q) := by
      refine e3.trans ?_
      rw [hf₂, State.calling_eq h.top, State.setFrames_setFrames, State.pushFrame, State.frames_setTop _ hr', State.setTop_of_frames _ hr', State.setFrames_setFrames, hr]
      rfl
    have hsame : U.sameButNew ({ U with heap := s₂.heap, slotsUsed := s₂.slotsUsed } : State) L mc ms := by
      refine ⟨?_, q2, q3, q4, q5, q6⟩
      obtain ⟨t, ht, -⟩ := State.frames_cons hr
      show ({ U with heap := s₂.heap, slotsUsed := s₂.slotsUsed } : State) = { U.setFrames U.frames with heap := s₂.heap, slotsUsed := s₂.slotsUsed }
      rw [State.setFrames_self ht]
    subst hg
    refine Or.inr ⟨q, ⟨(({ U with heap := s₂.heap, slotsUsed := s₂.slotsUsed } : State).setVm s₂.vm), Ls ++ L, c0 + mc, s0 + ms⟩,
      ⟨X.admits, X.cas, X.clock, X.frames, X.room, X.hears, X.method, X.code, (X.here.setHeapUsed s₂.heap s₂.slotsUsed).setVm hW'.alike, X.tail, State.WarmedH.trans X.warmed hW', X.limits, X.bytes, X.same.trans (hsame.setVm s.vm)⟩,
      ⟨g, mk, s₂, L, E, ce, rfl, rfl, hx, hce, hcv, hcl, rfl, hL, rfl, rfl⟩, ?_⟩
    show Steps p.tables e below _ (((({ U with heap := s₂.heap, slotsUsed := s₂.slotsUsed } : State).setVm s₂.vm).setTop g).pushFrame (.throwing q))
    rw [← hs₂]
    exact hsteps
end Payer
section Calls
variable {p : Program} {l : Launch} {e : Env} {R : Room} {s : State} {m : MethodId} {args : Array Value} {below : List Frame} {meth : Method} {c : Code} {T : State} {locs : List Loc} {cells slots : Nat}
theorem vx_callV (X : Stand p l e R s m args below meth c T locs cells slots) (hexec : p.tables.exec = Jvm.exec) {own C : String} {index : Nat} {y : MethodName} {bytes : ByteArray} {maxL : Nat} {ret : Option FieldType}
    (hown : s.vm.findClass own = some m.cls) (hlink : (Cond.methodLink own index y).before args s = true) (hinst : (Cond.instanceMethod y).before args s = true) (hsel : (Cond.selects C y y).before args s = true)
    (hcode : (Cond.code y bytes maxL ret).before args s = true) (hy : y.cls ≠ "java/lang/invoke/MethodHandle" ∧ y.cls ≠ "java/lang/invoke/VarHandle")
    {W9 : Nat} {Pre : Pt → Array Value → Prop} {Post : Pt → Array Value → Option Value → Pt → Prop} {PostX : Pt → Array Value → Addr → Pt → Prop} (hK : vx_Back l R p e below s args y 3 W9 Pre Post PostX)
    {b : Addr} {cellB : Cell} (hcell : T.heap[b]? = some cellB) (hobj : cellB.vm.isStatics = false) (hcls : s.vm.findClass C = some cellB.cls)
    {g : JFrame} (hg : g.method = m) (hsize : g.locals.size = c.maxLocals) {argsL rest : List Value} (hlen : ∀ sig, parseMethodDescriptor y.desc = some sig → argsL.length = sig.parameters.length)
    (hstack : g.stack = argsL.reverse ++ .ref b :: rest) (hW : 2 * g.monitorRoom + (rest.map fun v => v.category).sum ≤ W9) (hdg : decode c.code g.pc = .ok (.invokevirtual index, 3))
    (hpre : ∀ vm₁, s.WarmedH vm₁ → Pre ⟨T.setVm vm₁, locs, cells, slots⟩ (Value.ref b :: argsL).toArray) :
    (∃ (v : Option Value) (vm₁ : Vm) (B : Pt), s.WarmedH vm₁ ∧ Stand p l e R s m args below meth c B.U B.locs B.cells B.slots ∧ Post ⟨T.setVm vm₁, locs, cells, slots⟩ (Value.ref b :: argsL).toArray v B ∧
      ∀ target, Steps p.tables e below (B.U.setTop { g with pc := g.pc + 3, stack := v.toList ++ rest }) target → Steps p.tables e below (T.setTop g) target) ∨
    (∃ (q : Addr) (vm₁ : Vm) (B : Pt), s.WarmedH vm₁ ∧ Stand p l e R s m args below meth c B.U B.locs B.cells B.slots ∧ PostX ⟨T.setVm vm₁, locs, cells, slots⟩ (Value.ref b :: argsL).toArray q B ∧
      Steps p.tables e below (T.setTop g) ((B.U.setTop { g with stack := rest }).pushFrame (.throwing q))) := by
  obtain ⟨mk, methM, hnamed, hmethM, hstM, habM⟩ := Cond.instanceMethod_spec hinst
  obtain ⟨methM', cM, hmethM', -, -, -, -, -, -, hsigM⟩ := Cond.code_spec hnamed hcode
  cases hmethM.symm.trans hmethM'
  obtain ⟨c2, r2, m2, q1, q2, q3, q4, kP, hkP, hkPi⟩ := Cond.selects_spec hsel
  cases hcls.symm.trans q1
  cases (State.methodFound?_of_named hnamed hy).symm.trans q2
  cases hnamed.symm.trans q3
  have hselP : selectMethod e.platform s.vm cellB.cls mk = .method mk := by rw [Launch.admits_selectMethod X.admits]; exact q4
  obtain ⟨vm₁, X₁, hstep₁⟩ := X.invokevirtual hexec hown hlink hnamed hmethM hstM hkP hkPi hy (a := b) (cell := cellB) hcell
    (fun z h => by rw [h] at hobj; cases hobj) hselP hmethM habM hkP hkPi (g := g) hg (argsL := argsL) (rest := rest) (hlen _ hsigM) hstack hdg
  rcases hK m meth c ⟨T.setVm vm₁, locs, cells, slots⟩ { g with stack := rest } (.invokevirtual index) mk (Value.ref b :: argsL).toArray X₁ hg hsize hdg hW (X₁.named hnamed) (hpre vm₁ X₁.warmed) with ⟨v, B, X', hpost, hsteps⟩ | ⟨q, B, X', hpost, hsteps⟩
  · exact Or.inl ⟨v, vm₁, B, X₁.warmed, X', hpost, fun target h => hstep₁ _ fun acts => by rw [doInvoke_state]; exact hsteps.trans h⟩
  · exact Or.inr ⟨q, vm₁, B, X₁.warmed, X', hpost, hstep₁ _ fun acts => by rw [doInvoke_state]; exact hsteps⟩
theorem vx_callS (X : Stand p l e R s m args below meth c T locs cells slots) (hexec : p.tables.exec = Jvm.exec) {own : String} {index : Nat} {y : MethodName} {bytes : ByteArray} {maxL : Nat} {ret : Option FieldType}
    (hown : s.vm.findClass own = some m.cls) (hlink : (Cond.methodLink own index y).before args s = true) (hstat : (Cond.static y).before args s = true) (hinit : (Cond.initialized y.cls).before args s = true)
    (hcode : (Cond.code y bytes maxL ret).before args s = true) (hy : y.cls ≠ "java/lang/invoke/MethodHandle" ∧ y.cls ≠ "java/lang/invoke/VarHandle")
    {W9 : Nat} {Pre : Pt → Array Value → Prop} {Post : Pt → Array Value → Option Value → Pt → Prop} {PostX : Pt → Array Value → Addr → Pt → Prop} (hK : vx_Back l R p e below s args y 3 W9 Pre Post PostX)
    {g : JFrame} (hg : g.method = m) (hsize : g.locals.size = c.maxLocals) {argsL rest : List Value} (hlen : ∀ sig, parseMethodDescriptor y.desc = some sig → argsL.length = sig.parameters.length)
    (hstack : g.stack = argsL.reverse ++ rest) (hW : 2 * g.monitorRoom + (rest.map fun v => v.category).sum ≤ W9) (hdg : decode c.code g.pc = .ok (.invokestatic index, 3))
    (hpre : ∀ vm₁, s.WarmedH vm₁ → Pre ⟨T.setVm vm₁, locs, cells, slots⟩ argsL.toArray) :
    (∃ (v : Option Value) (vm₁ : Vm) (B : Pt), s.WarmedH vm₁ ∧ Stand p l e R s m args below meth c B.U B.locs B.cells B.slots ∧ Post ⟨T.setVm vm₁, locs, cells, slots⟩ argsL.toArray v B ∧
      ∀ target, Steps p.tables e below (B.U.setTop { g with pc := g.pc + 3, stack := v.toList ++ rest }) target → Steps p.tables e below (T.setTop g) target) ∨
    (∃ (q : Addr) (vm₁ : Vm) (B : Pt), s.WarmedH vm₁ ∧ Stand p l e R s m args below meth c B.U B.locs B.cells B.slots ∧ PostX ⟨T.setVm vm₁, locs, cells, slots⟩ argsL.toArray q B ∧
      Steps p.tables e below (T.setTop g) ((B.U.setTop { g with stack := rest }).pushFrame (.throwing q))) := by
  obtain ⟨mk, hnamed⟩ := Cond.code_named hcode
  obtain ⟨methM, cM, hmethM, -, -, -, -, -, -, hsigM⟩ := Cond.code_spec hnamed hcode
  have hstatic : methM.isStatic = true := Cond.static_spec hnamed hmethM hstat
  obtain ⟨kP, hkP, -⟩ := className_of_methodNamed hnamed
  have hinitP : kP.init = .initialized := Cond.initialized_spec (findClass_of_methodNamed hnamed) hkP hinit
  obtain ⟨vm₁, X₁, hstep₁⟩ := X.invokestatic hexec hown hlink hnamed hmethM hstatic hkP hinitP hy (g := g) hg (argsL := argsL) (rest := rest) (hlen _ hsigM) hstack hdg
  rcases hK m meth c ⟨T.setVm vm₁, locs, cells, slots⟩ { g with stack := rest } (.invokestatic index) mk argsL.toArray X₁ hg hsize hdg hW (X₁.named hnamed) (hpre vm₁ X₁.warmed) with ⟨v, B, X', hpost, hsteps⟩ | ⟨q, B, X', hpost, hsteps⟩
  · exact Or.inl ⟨v, vm₁, B, X₁.warmed, X', hpost, fun target h => hstep₁ _ fun acts => by rw [doInvoke_state]; exact hsteps.trans h⟩
  · exact Or.inr ⟨q, vm₁, B, X₁.warmed, X', hpost, hstep₁ _ fun acts => by rw [doInvoke_state]; exact hsteps⟩
end Calls
theorem vx_cls {s : State} {T : State} {vm₁ : Vm} {E : String} {k : ClassId} (hW : s.WarmedH vm₁) (h : (T.setVm vm₁).vm.findClass E = some k) : s.vm.findClass E = some k := by
  have h1 : vm₁.findClass E = some k := h
  rw [hW.alike.findClass] at h1
  exact h1
/-- the method's frame g, with q thrown over it -/
def vx_W (p : Program) (l : Launch) (e : Env) (R : Room) (s : State) (m : MethodId) (args : Array Value) (below : List Frame) (meth : Method) (c : Code) (H : Heap) (locs : List Loc) (cells slots : Nat) (Q : State → Prop) (g : JFrame) (q : Addr) : Prop :=
  ∀ T : State, T.heap = H → Stand p l e R s m args below meth c T locs cells slots → ∃ t, Steps p.tables e below ((T.setTop g).pushFrame (.throwing q)) t ∧ Q t
def vx_Run (p : Program) (l : Launch) (e : Env) (R : Room) (s : State) (m : MethodId) (args : Array Value) (below : List Frame) (meth : Method) (c : Code) (H : Heap) (locs : List Loc) (cells slots mc ms : Nat) (g : JFrame) (rest : List Value) (Qa : State → Outcome → State → Prop) (XC : String → State → State → Prop) (free : Addr → Prop) : Prop :=
  ∀ T : State, T.heap = H → Stand p l e R s m args below meth c T locs cells slots →
    (∃ (v : Option Value) (st₀ t T' : State) (L : List Loc), st₀.heap = H ∧ Stand p l e R s m args below meth c T' (locs ++ L) (cells + mc) (slots + ms) ∧ (∀ q ∈ L, free q.base) ∧ T'.heap = t.heap ∧ T'.vm = t.vm ∧ Qa st₀ (.returned v) t ∧
      Goes p e below T g T' { g with pc := g.pc + 3, stack := v.toList ++ rest }) ∨
    (∃ (q : Addr) (st₀ t T' : State) (L : List Loc) (E : String) (ce : Cell), st₀.heap = H ∧ Stand p l e R s m args below meth c T' (locs ++ L) (cells + mc) (slots + ms) ∧ (∀ z ∈ L, free z.base) ∧ T'.heap = t.heap ∧ T'.vm = t.vm ∧ XC E st₀ t ∧ t.heap[q]? = some ce ∧ ce.vm = .none ∧ s.vm.findClass E = some ce.cls ∧
      Steps p.tables e below (T.setTop g) ((T'.setTop { g with stack := rest }).pushFrame (.throwing q)))
def vx_X {S : Type} (px : S → Prop) (B : String → S → State → Prop) (A : Nat → Prop) : String → State → State → Prop := fun E st t => ∃ u : S, px u ∧ B E u t ∧ va_F A st t
section Runs
variable {p : Program} {l : Launch} {e : Env} {R : Room} {s : State} {m : MethodId} {args : Array Value} {below : List Frame} {meth : Method} {c : Code} {H : Heap} {locs : List Loc} {cells slots : Nat}
variable {y : MethodName} {bytes cc : ByteArray} {maxL nL mc ms n index : Nat} {ret : Option FieldType} {ws : List Cond} {rm : Room} {Pc : Array Value → State → Prop} {Qc : Array Value → State → Outcome → State → Prop} {XC : String → State → State → Prop} {free : Addr → Prop} {Ts : List Cond} {own C : String} {b : Addr} {As rest : List Value} {g : JFrame}
theorem vx_callBack (cb : CallB R s args own index y bytes maxL ret ws rm mc ms n) (hM : vx_Met l y ws rm Pc Qc XC mc ms free) (hbl : FrameBlind Pc) : vx_Back l R p e below s args y 3 8 (PreOf R mc ms Pc) (PostOf Qc mc ms free) (vx_Post XC mc ms free) := by
  obtain ⟨hrc, hrs, hfr, hlo, hws, hcw, -, hini, -⟩ := cb
  exact vx_back (bytes := bytes) (maxL := maxL) (ret := ret) hM hbl hrc hrs hfr hlo hws hcw (fun a' U hW => word_at hW (Or.inl (by first | rfl | simp [Cond.onTables, Cond.keeps, Cond.steady])) hini)
theorem vx_runV (S : CallFix p m c cc nL s args Ts own) (hM : vx_Met l y ws rm Pc Qc XC mc ms free) (cw : CallW R s args own C index y bytes maxL ret ws rm mc ms n) (hp : PreV s H C b Pc As)
    (hg : g.method = m) (hn : As.length = n) (hsize : g.locals.size = nL) (hstack : g.stack = As.reverse ++ .ref b :: rest) (hW : 2 * g.monitorRoom + (rest.map fun v => v.category).sum ≤ 8) (hdg : decode cc g.pc = .ok (.invokevirtual index, 3)) (hf : cells + mc ≤ R.cells ∧ slots + ms ≤ R.slots) :
    vx_Run p l e R s m args below meth c H locs cells slots mc ms g rest (Qc (Value.ref b :: As).toArray) XC free := by
  have hK : vx_Back l R p e below s args y 3 8 (PreOf R mc ms Pc) (PostOf Qc mc ms free) (vx_Post XC mc ms free) := vx_callBack cw.1 hM hp.1
  obtain ⟨⟨-, -, -, -, -, -, hcode, -, hy, hlen, hl⟩, hin, hse⟩ := cw
  obtain ⟨hx, hb, hml, ho, -⟩ := S
  obtain ⟨-, ⟨cellB, hcB, hoB, hclB⟩, hPc⟩ := hp
  intro T hT X
  rcases vx_callV X hx (C := C) (bytes := bytes) (maxL := maxL) (ret := ret) ho hl hin hse hcode hy hK (by rw [hT]; exact hcB) hoB hclB hg (hsize.trans hml.symm) (argsL := As) (rest := rest) (fun sig h => hn.trans (hlen sig h)) hstack hW (by rw [hb]; exact hdg)
    (fun vm₁ hW₁ => ⟨hf.1, hf.2, hPc (T.setVm vm₁) hT hW₁⟩) with ⟨v, vm₁, ⟨U', l2, c2, s2⟩, hW₁, X', ⟨g', mk, t, L, e1, e2, hq, h1, hL, h2, h3⟩, st⟩ | ⟨q, vm₁, ⟨U', l2, c2, s2⟩, hW₁, X', ⟨g', mk, t, L, E, ce, e1, e2, hq, hce, hcv, hcl, h1, hL, h2, h3⟩, st⟩
  · dsimp only [Pt.U, Pt.locs, Pt.cells, Pt.slots] at X' e1 e2 h1 h2 h3 st
    subst h1; subst h2; subst h3
    exact Or.inl ⟨v, (T.setVm vm₁).calling g' mk (Value.ref b :: As).toArray, t, U', L, hT, X', hL, e1, e2, hq, st⟩
  · dsimp only [Pt.U, Pt.locs, Pt.cells, Pt.slots] at X' e1 e2 h1 h2 h3 st hcl
    subst h1; subst h2; subst h3
    exact Or.inr ⟨q, (T.setVm vm₁).calling g' mk (Value.ref b :: As).toArray, t, U', L, E, ce, hT, X', hL, e1, e2, hq, hce, hcv, vx_cls hW₁ hcl, st⟩
theorem vx_runS (S : CallFix p m c cc nL s args Ts own) (hM : vx_Met l y ws rm Pc Qc XC mc ms free) (cw : CallB R s args own index y bytes maxL ret ws rm mc ms n ∧ (Cond.static y).before args s = true) (hp : PreS s H Pc As)
    (hg : g.method = m) (hn : As.length = n) (hsize : g.locals.size = nL) (hstack : g.stack = As.reverse ++ rest) (hW : 2 * g.monitorRoom + (rest.map fun v => v.category).sum ≤ 8) (hdg : decode cc g.pc = .ok (.invokestatic index, 3)) (hf : cells + mc ≤ R.cells ∧ slots + ms ≤ R.slots) :
    vx_Run p l e R s m args below meth c H locs cells slots mc ms g rest (Qc As.toArray) XC free := by
  have hK : vx_Back l R p e below s args y 3 8 (PreOf R mc ms Pc) (PostOf Qc mc ms free) (vx_Post XC mc ms free) := vx_callBack cw.1 hM hp.1
  obtain ⟨⟨-, -, -, -, -, -, hcode, hini, hy, hlen, hl⟩, hstt⟩ := cw
  obtain ⟨hx, hb, hml, ho, -⟩ := S
  intro T hT X
  rcases vx_callS X hx (bytes := bytes) (maxL := maxL) (ret := ret) ho hl hstt hini hcode hy hK hg (hsize.trans hml.symm) (argsL := As) (rest := rest) (fun sig h => hn.trans (hlen sig h)) hstack hW (by rw [hb]; exact hdg)
    (fun vm₁ hW₁ => ⟨hf.1, hf.2, hp.2 (T.setVm vm₁) hT hW₁⟩) with ⟨v, vm₁, ⟨U', l2, c2, s2⟩, hW₁, X', ⟨g', mk, t, L, e1, e2, hq, h1, hL, h2, h3⟩, st⟩ | ⟨q, vm₁, ⟨U', l2, c2, s2⟩, hW₁, X', ⟨g', mk, t, L, E, ce, e1, e2, hq, hce, hcv, hcl, h1, hL, h2, h3⟩, st⟩
  · dsimp only [Pt.U, Pt.locs, Pt.cells, Pt.slots] at X' e1 e2 h1 h2 h3 st
    subst h1; subst h2; subst h3
    exact Or.inl ⟨v, (T.setVm vm₁).calling g' mk As.toArray, t, U', L, hT, X', hL, e1, e2, hq, st⟩
  · dsimp only [Pt.U, Pt.locs, Pt.cells, Pt.slots] at X' e1 e2 h1 h2 h3 st hcl
    subst h1; subst h2; subst h3
    exact Or.inr ⟨q, (T.setVm vm₁).calling g' mk As.toArray, t, U', L, E, ce, hT, X', hL, e1, e2, hq, hce, hcv, vx_cls hW₁ hcl, st⟩
end Runs
section Rows
variable {p : Program} {l : Launch} {e : Env} {R : Room} {s : State} {m : MethodId} {args : Array Value} {below : List Frame} {meth : Method} {c : Code} {H : Heap} {locs : List Loc} {cells slots : Nat} {Q : State → Prop}
variable {mc ms : Nat} {free : Addr → Prop} {A0 A1 : Nat → Prop} {H0 : Heap} {a : Array Value} {pc : Nat} {ls : Array Slot} {st0 rest : List Value}
theorem vx_keep {st₀ t T' : State} {L : List Loc} (h0 : st₀.heap = H) (e1 : T'.heap = t.heap) (hS : va_S A0 H0 H locs) (hA : ∀ q, q < H.size → A1 q → A0 q) (hf : ∀ q, free q → A0 q) (hL : ∀ q ∈ L, free q.base) (hF : va_F A1 st₀ t) :
    H.size ≤ T'.heap.size ∧ (∀ q : Nat, q < H.size → ¬ A1 q → T'.heap[q]? = H[q]?) ∧ va_S A0 H0 T'.heap (locs ++ L) := by
  obtain ⟨hz, hk⟩ := hF
  rw [h0] at hz hk
  exact ⟨by rw [e1]; exact hz, fun q h1 h2 => by rw [e1]; exact hk q h1 h2,
    ⟨Nat.le_trans hS.1 (by rw [e1]; exact hz), fun q h1 h2 => by rw [e1, hk q (Nat.lt_of_lt_of_le h1 hS.1) (fun z => h2 (hA q (Nat.lt_of_lt_of_le h1 hS.1) z))]; exact hS.2.1 q h1 h2, fun q hq => by
      rcases List.mem_append.mp hq with h | h
      · exact hS.2.2 q h
      · exact hf _ (hL q h)⟩⟩
theorem vx_calli {S SX : Type} {post : Int32 → S → Prop} {px : SX → Prop} {B : S → State → Prop} {BX : String → SX → State → Prop} {AX : Nat → Prop} (hr : vx_Run p l e R s m args below meth c H locs cells slots mc ms (F0 m pc ls st0) rest (va_Qi post B A1 a) (vx_X px BX AX) free) (hS : va_S A0 H0 H locs) (hA : ∀ q, q < H.size → A1 q → A0 q) (hf : ∀ q, free q → A0 q) (hAX : ∀ q, q < H.size → AX q → A0 q)
    (kx : ∀ (E : String) (ce : Cell) (q9 : Addr) (u : SX) (t : State) (H1 : Heap) (locs1 : List Loc), t.heap = H1 → s.vm.Alike t.vm → px u → BX E u t → H.size ≤ H1.size → (∀ q : Nat, q < H.size → ¬ AX q → H1[q]? = H[q]?) → va_S A0 H0 H1 locs1 → H1[q9]? = some ce → ce.vm = .none → s.vm.findClass E = some ce.cls → vx_W p l e R s m args below meth c H1 locs1 (cells + mc) (slots + ms) Q (F0 m pc ls rest) q9)
    (kk : ∀ (r : Int32) (u : S) (t : State) (H1 : Heap) (locs1 : List Loc), t.heap = H1 → s.vm.Alike t.vm → post r u → B u t → H.size ≤ H1.size → (∀ q : Nat, q < H.size → ¬ A1 q → H1[q]? = H[q]?) → va_S A0 H0 H1 locs1 → W p l e R s m args below meth c H1 locs1 (cells + mc) (slots + ms) Q (F0 m (pc + 3) ls (.int r :: rest))) : W p l e R s m args below meth c H locs cells slots Q (F0 m pc ls st0) := by
  intro T hT X
  rcases hr T hT X with ⟨v, st₀, t, T', L, h0, X', hL, e1, e2, ⟨⟨r, u, hv, hp, hb⟩, hF⟩, st⟩ | ⟨q, st₀, t, T', L, E, ce, h0, X', hL, e1, e2, ⟨u, hp, hb, hF⟩, hce, hcv, hcl, st⟩
  · cases hv
    obtain ⟨k1, k2, k3⟩ := vx_keep h0 e1 hS hA hf hL hF
    obtain ⟨t2, a1, b1⟩ := kk r u t T'.heap (locs ++ L) e1.symm (by rw [← e2]; exact X'.warmed.alike) hp hb k1 k2 k3 T' rfl X'
    exact ⟨t2, st t2 a1, b1⟩
  · obtain ⟨k1, k2, k3⟩ := vx_keep h0 e1 hS hAX hf hL hF
    obtain ⟨t2, a1, b1⟩ := kx E ce q u t T'.heap (locs ++ L) e1.symm (by rw [← e2]; exact X'.warmed.alike) hp hb k1 k2 k3 (by rw [e1]; exact hce) hcv hcl T' rfl X'
    exact ⟨t2, st.trans a1, b1⟩
theorem vx_calll {S SX : Type} {post : Int64 → S → Prop} {px : SX → Prop} {B : S → State → Prop} {BX : String → SX → State → Prop} {AX : Nat → Prop} (hr : vx_Run p l e R s m args below meth c H locs cells slots mc ms (F0 m pc ls st0) rest (va_Ql post B A1 a) (vx_X px BX AX) free) (hS : va_S A0 H0 H locs) (hA : ∀ q, q < H.size → A1 q → A0 q) (hf : ∀ q, free q → A0 q) (hAX : ∀ q, q < H.size → AX q → A0 q)
    (kx : ∀ (E : String) (ce : Cell) (q9 : Addr) (u : SX) (t : State) (H1 : Heap) (locs1 : List Loc), t.heap = H1 → s.vm.Alike t.vm → px u → BX E u t → H.size ≤ H1.size → (∀ q : Nat, q < H.size → ¬ AX q → H1[q]? = H[q]?) → va_S A0 H0 H1 locs1 → H1[q9]? = some ce → ce.vm = .none → s.vm.findClass E = some ce.cls → vx_W p l e R s m args below meth c H1 locs1 (cells + mc) (slots + ms) Q (F0 m pc ls rest) q9)
    (kk : ∀ (r : Int64) (u : S) (t : State) (H1 : Heap) (locs1 : List Loc), t.heap = H1 → s.vm.Alike t.vm → post r u → B u t → H.size ≤ H1.size → (∀ q : Nat, q < H.size → ¬ A1 q → H1[q]? = H[q]?) → va_S A0 H0 H1 locs1 → W p l e R s m args below meth c H1 locs1 (cells + mc) (slots + ms) Q (F0 m (pc + 3) ls (.long r :: rest))) : W p l e R s m args below meth c H locs cells slots Q (F0 m pc ls st0) := by
  intro T hT X
  rcases hr T hT X with ⟨v, st₀, t, T', L, h0, X', hL, e1, e2, ⟨⟨r, u, hv, hp, hb⟩, hF⟩, st⟩ | ⟨q, st₀, t, T', L, E, ce, h0, X', hL, e1, e2, ⟨u, hp, hb, hF⟩, hce, hcv, hcl, st⟩
  · cases hv
    obtain ⟨k1, k2, k3⟩ := vx_keep h0 e1 hS hA hf hL hF
    obtain ⟨t2, a1, b1⟩ := kk r u t T'.heap (locs ++ L) e1.symm (by rw [← e2]; exact X'.warmed.alike) hp hb k1 k2 k3 T' rfl X'
    exact ⟨t2, st t2 a1, b1⟩
  · obtain ⟨k1, k2, k3⟩ := vx_keep h0 e1 hS hAX hf hL hF
    obtain ⟨t2, a1, b1⟩ := kx E ce q u t T'.heap (locs ++ L) e1.symm (by rw [← e2]; exact X'.warmed.alike) hp hb k1 k2 k3 (by rw [e1]; exact hce) hcv hcl T' rfl X'
    exact ⟨t2, st.trans a1, b1⟩
theorem vx_callf {S SX : Type} {post : UInt32 → S → Prop} {px : SX → Prop} {B : S → State → Prop} {BX : String → SX → State → Prop} {AX : Nat → Prop} (hr : vx_Run p l e R s m args below meth c H locs cells slots mc ms (F0 m pc ls st0) rest (va_Qf post B A1 a) (vx_X px BX AX) free) (hS : va_S A0 H0 H locs) (hA : ∀ q, q < H.size → A1 q → A0 q) (hf : ∀ q, free q → A0 q) (hAX : ∀ q, q < H.size → AX q → A0 q)
    (kx : ∀ (E : String) (ce : Cell) (q9 : Addr) (u : SX) (t : State) (H1 : Heap) (locs1 : List Loc), t.heap = H1 → s.vm.Alike t.vm → px u → BX E u t → H.size ≤ H1.size → (∀ q : Nat, q < H.size → ¬ AX q → H1[q]? = H[q]?) → va_S A0 H0 H1 locs1 → H1[q9]? = some ce → ce.vm = .none → s.vm.findClass E = some ce.cls → vx_W p l e R s m args below meth c H1 locs1 (cells + mc) (slots + ms) Q (F0 m pc ls rest) q9)
    (kk : ∀ (r : UInt32) (u : S) (t : State) (H1 : Heap) (locs1 : List Loc), t.heap = H1 → s.vm.Alike t.vm → post r u → B u t → H.size ≤ H1.size → (∀ q : Nat, q < H.size → ¬ A1 q → H1[q]? = H[q]?) → va_S A0 H0 H1 locs1 → W p l e R s m args below meth c H1 locs1 (cells + mc) (slots + ms) Q (F0 m (pc + 3) ls (.float r :: rest))) : W p l e R s m args below meth c H locs cells slots Q (F0 m pc ls st0) := by
  intro T hT X
  rcases hr T hT X with ⟨v, st₀, t, T', L, h0, X', hL, e1, e2, ⟨⟨r, u, hv, hp, hb⟩, hF⟩, st⟩ | ⟨q, st₀, t, T', L, E, ce, h0, X', hL, e1, e2, ⟨u, hp, hb, hF⟩, hce, hcv, hcl, st⟩
  · cases hv
    obtain ⟨k1, k2, k3⟩ := vx_keep h0 e1 hS hA hf hL hF
    obtain ⟨t2, a1, b1⟩ := kk r u t T'.heap (locs ++ L) e1.symm (by rw [← e2]; exact X'.warmed.alike) hp hb k1 k2 k3 T' rfl X'
    exact ⟨t2, st t2 a1, b1⟩
  · obtain ⟨k1, k2, k3⟩ := vx_keep h0 e1 hS hAX hf hL hF
    obtain ⟨t2, a1, b1⟩ := kx E ce q u t T'.heap (locs ++ L) e1.symm (by rw [← e2]; exact X'.warmed.alike) hp hb k1 k2 k3 (by rw [e1]; exact hce) hcv hcl T' rfl X'
    exact ⟨t2, st.trans a1, b1⟩
theorem vx_calld {S SX : Type} {post : UInt64 → S → Prop} {px : SX → Prop} {B : S → State → Prop} {BX : String → SX → State → Prop} {AX : Nat → Prop} (hr : vx_Run p l e R s m args below meth c H locs cells slots mc ms (F0 m pc ls st0) rest (va_Qd post B A1 a) (vx_X px BX AX) free) (hS : va_S A0 H0 H locs) (hA : ∀ q, q < H.size → A1 q → A0 q) (hf : ∀ q, free q → A0 q) (hAX : ∀ q, q < H.size → AX q → A0 q)
    (kx : ∀ (E : String) (ce : Cell) (q9 : Addr) (u : SX) (t : State) (H1 : Heap) (locs1 : List Loc), t.heap = H1 → s.vm.Alike t.vm → px u → BX E u t → H.size ≤ H1.size → (∀ q : Nat, q < H.size → ¬ AX q → H1[q]? = H[q]?) → va_S A0 H0 H1 locs1 → H1[q9]? = some ce → ce.vm = .none → s.vm.findClass E = some ce.cls → vx_W p l e R s m args below meth c H1 locs1 (cells + mc) (slots + ms) Q (F0 m pc ls rest) q9)
    (kk : ∀ (r : UInt64) (u : S) (t : State) (H1 : Heap) (locs1 : List Loc), t.heap = H1 → s.vm.Alike t.vm → post r u → B u t → H.size ≤ H1.size → (∀ q : Nat, q < H.size → ¬ A1 q → H1[q]? = H[q]?) → va_S A0 H0 H1 locs1 → W p l e R s m args below meth c H1 locs1 (cells + mc) (slots + ms) Q (F0 m (pc + 3) ls (.double r :: rest))) : W p l e R s m args below meth c H locs cells slots Q (F0 m pc ls st0) := by
  intro T hT X
  rcases hr T hT X with ⟨v, st₀, t, T', L, h0, X', hL, e1, e2, ⟨⟨r, u, hv, hp, hb⟩, hF⟩, st⟩ | ⟨q, st₀, t, T', L, E, ce, h0, X', hL, e1, e2, ⟨u, hp, hb, hF⟩, hce, hcv, hcl, st⟩
  · cases hv
    obtain ⟨k1, k2, k3⟩ := vx_keep h0 e1 hS hA hf hL hF
    obtain ⟨t2, a1, b1⟩ := kk r u t T'.heap (locs ++ L) e1.symm (by rw [← e2]; exact X'.warmed.alike) hp hb k1 k2 k3 T' rfl X'
    exact ⟨t2, st t2 a1, b1⟩
  · obtain ⟨k1, k2, k3⟩ := vx_keep h0 e1 hS hAX hf hL hF
    obtain ⟨t2, a1, b1⟩ := kx E ce q u t T'.heap (locs ++ L) e1.symm (by rw [← e2]; exact X'.warmed.alike) hp hb k1 k2 k3 (by rw [e1]; exact hce) hcv hcl T' rfl X'
    exact ⟨t2, st.trans a1, b1⟩
theorem vx_callv {S SX : Type} {post : S → Prop} {px : SX → Prop} {B : S → State → Prop} {BX : String → SX → State → Prop} {AX : Nat → Prop} (hr : vx_Run p l e R s m args below meth c H locs cells slots mc ms (F0 m pc ls st0) rest (va_Qv post B A1 a) (vx_X px BX AX) free) (hS : va_S A0 H0 H locs) (hA : ∀ q, q < H.size → A1 q → A0 q) (hf : ∀ q, free q → A0 q) (hAX : ∀ q, q < H.size → AX q → A0 q)
    (kx : ∀ (E : String) (ce : Cell) (q9 : Addr) (u : SX) (t : State) (H1 : Heap) (locs1 : List Loc), t.heap = H1 → s.vm.Alike t.vm → px u → BX E u t → H.size ≤ H1.size → (∀ q : Nat, q < H.size → ¬ AX q → H1[q]? = H[q]?) → va_S A0 H0 H1 locs1 → H1[q9]? = some ce → ce.vm = .none → s.vm.findClass E = some ce.cls → vx_W p l e R s m args below meth c H1 locs1 (cells + mc) (slots + ms) Q (F0 m pc ls rest) q9)
    (kk : ∀ (u : S) (t : State) (H1 : Heap) (locs1 : List Loc), t.heap = H1 → s.vm.Alike t.vm → post u → B u t → H.size ≤ H1.size → (∀ q : Nat, q < H.size → ¬ A1 q → H1[q]? = H[q]?) → va_S A0 H0 H1 locs1 → W p l e R s m args below meth c H1 locs1 (cells + mc) (slots + ms) Q (F0 m (pc + 3) ls (rest))) : W p l e R s m args below meth c H locs cells slots Q (F0 m pc ls st0) := by
  intro T hT X
  rcases hr T hT X with ⟨v, st₀, t, T', L, h0, X', hL, e1, e2, ⟨⟨u, hv, hp, hb⟩, hF⟩, st⟩ | ⟨q, st₀, t, T', L, E, ce, h0, X', hL, e1, e2, ⟨u, hp, hb, hF⟩, hce, hcv, hcl, st⟩
  · cases hv
    obtain ⟨k1, k2, k3⟩ := vx_keep h0 e1 hS hA hf hL hF
    obtain ⟨t2, a1, b1⟩ := kk u t T'.heap (locs ++ L) e1.symm (by rw [← e2]; exact X'.warmed.alike) hp hb k1 k2 k3 T' rfl X'
    exact ⟨t2, st t2 a1, b1⟩
  · obtain ⟨k1, k2, k3⟩ := vx_keep h0 e1 hS hAX hf hL hF
    obtain ⟨t2, a1, b1⟩ := kx E ce q u t T'.heap (locs ++ L) e1.symm (by rw [← e2]; exact X'.warmed.alike) hp hb k1 k2 k3 (by rw [e1]; exact hce) hcv hcl T' rfl X'
    exact ⟨t2, st.trans a1, b1⟩
/-- caught by the row x of this method's table; the rows ahead don't take it -/
theorem vx_catch {own name : String} {E : String} {ce : Cell} {q : Addr} (hown : s.vm.findClass own = some m.cls) (pre : List ExceptionTableEntry) (x : ExceptionTableEntry) (suf : List ExceptionTableEntry) (hsplit : c.exceptionTable.toList = pre ++ x :: suf)
    (hpass : ∀ z ∈ pre, covers z pc = false ∨ (z.catchType ≠ 0 ∧ ∃ nm : String, (Cond.classLink own z.catchType nm).before args s = true ∧ va_Nc E nm s)) (hx : covers x pc = true) (h0 : x.catchType ≠ 0)
    (hlink : (Cond.classLink own x.catchType name).before args s = true) (hcast : (Cond.castable E name).before args s = true) (hcell : H[q]? = some ce) (hv : ce.vm = .none) (hcl : s.vm.findClass E = some ce.cls)
    (kk : W p l e R s m args below meth c H locs cells slots Q (F0 m x.handlerPc ls [.ref q])) : vx_W p l e R s m args below meth c H locs cells slots Q (F0 m pc ls rest) q := by
  intro T hT X
  have hpl : e.platform.magicAccessors = ({} : Platform).magicAccessors := by rw [X.admits.platform]
  obtain ⟨c3, c4, hc3, hc4, hasg⟩ := Cond.castable_spec hcast
  cases Option.some.inj (hc3.symm.trans hcl)
  obtain ⟨c5, hc5, hcl5⟩ := Cond.classLink_spec hown hlink e.platform hpl
  cases Option.some.inj (hc4.symm.trans hc5)
  obtain ⟨vm', X', st⟩ := X.thenCaughtThrough q (g := F0 m pc ls rest) rfl (Steps.refl _) (by rw [hT]; exact hcell) (by rw [hv]; rfl) (by obtain ⟨k9, h9, -⟩ := Vm.findClass_spec hcl; exact ⟨k9, h9⟩) pre x suf hsplit
    (fun z hz => by
      rcases hpass z hz with h | ⟨hz0, nm, hl1, hn1⟩
      · exact Or.inl h
      · obtain ⟨c6, hc6, hcl6⟩ := Cond.classLink_spec hown hl1 e.platform hpl
        obtain ⟨a8, b8, h1, h2, h3⟩ := hn1
        cases Option.some.inj (h1.symm.trans hcl)
        cases Option.some.inj (h2.symm.trans hc6)
        exact Or.inr ⟨hz0, _, hcl6, h3⟩) hx (Or.inr ⟨h0, c4, hcl5, hasg⟩)
  obtain ⟨t, a1, b1⟩ := kk (T.setVm vm') hT X'
  exact ⟨t, st.trans a1, b1⟩
end Rows
section Ends
variable {p : Program} {l : Launch} {e : Env} {R : Room} {s : State} {m : MethodId} {args : Array Value} {below : List Frame} {meth : Method} {c : Code} {H : Heap} {locs : List Loc} {cells slots : Nat} {Q : State → Prop}
variable {mc ms : Nat} {free : Addr → Prop} {A0 A1 : Nat → Prop} {H0 : Heap} {a : Array Value} {ls : Array Slot} {st0 rest : List Value}
variable {Qc : Array Value → State → Outcome → State → Prop} {XC : String → State → State → Prop}
/-- what a body that may throw owes at its end -/
def vx_MQ (below : List Frame) (Qc : Array Value → State → Outcome → State → Prop) (XC : String → State → State → Prop) (a : Array Value) (s : State) (mc ms : Nat) (free : Addr → Prop) : State → Prop := fun t =>
  ∃ o, t.status = .running ∧ Ended t below o ∧ vx_Q Qc XC mc ms free a s o t
theorem vx_ret {g : JFrame} {mc ms : Nat} (k : W p l e R s m args below meth c H locs cells slots (MQ below Qc args s mc ms free) g) : W p l e R s m args below meth c H locs cells slots (vx_MQ below Qc XC args s mc ms free) g := by
  intro T hT X
  obtain ⟨t, a1, o, b1, b2, b3, b4⟩ := k T hT X
  exact ⟨t, a1, o, b1, b2, Or.inl ⟨b3, b4⟩⟩
/-- not caught here: it goes on to the caller -/
theorem vx_widen {g : JFrame} {q : Addr} {k n : Nat} (h1 : cells ≤ k) (h2 : slots ≤ n) (kk : vx_W p l e R s m args below meth c H locs k n Q g q) : vx_W p l e R s m args below meth c H locs cells slots Q g q := fun T hT X => kk T hT (stand_widen X h1 h2)
theorem vx_out {pc : Nat} {E : String} {ce : Cell} {q : Addr} {mc ms : Nat} (hout : ∀ x ∈ c.exceptionTable.toList, covers x pc = false) (hlocks : meth.locks = false) (hcell : H[q]? = some ce) (hv : ce.vm = .none) (hcl : s.vm.findClass E = some ce.cls)
    (hx : ∀ t : State, t.heap = H → s.vm.Alike t.vm → XC E s t) (hf : ∀ z ∈ locs, free z.base) (hc : cells ≤ mc) (hs : slots ≤ ms) :
    vx_W p l e R s m args below meth c H locs cells slots (vx_MQ below Qc XC args s mc ms free) (F0 m pc ls rest) q := by
  intro T hT X
  obtain ⟨st1, hrun, hend, hW, hsm⟩ := X.leaveThrown q (g := F0 m pc ls rest) rfl rfl rfl hout hlocks
  have hcell9 : (T.setFrames (.throwing q :: below)).heap[q]? = some ce := by
    show T.heap[q]? = some ce
    rw [hT]; exact hcell
  exact ⟨_, st1, .threw q, hrun, hend, Or.inr ⟨q, rfl, E, ce, locs, hx _ hT hW.alike, hcell9, hv, hcl, hW, hsm.mono hc hs, hf⟩⟩
theorem vx_frame {U : State} {k n : Nat} (h : s.sameButNew ({ U with vm := s.vm } : State) locs k n) : s.heap.size ≤ U.heap.size ∧ ∀ q : Nat, q < s.heap.size → (∀ z ∈ locs, z.base ≠ q) → U.heap[q]? = s.heap[q]? := by
  obtain ⟨-, h2, -, -, -, h6⟩ := h
  refine ⟨h2, fun q hq hz => ?_⟩
  obtain ⟨c9, e1, e2, e3, e4⟩ := h6 q _ (Array.getElem?_eq_getElem hq)
  have hs : c9.slots = (s.heap[q]).slots := Array.ext_getElem? fun i => e4 i fun hm => hz _ hm rfl
  have h9 : c9 = s.heap[q] := by
    rw [hs] at e2
    exact e2
  have e5 : U.heap[q]? = some c9 := e1
  rw [e5, h9, Array.getElem?_eq_getElem hq]
/-- the words of a throw but the four that speak of the heap -/
def vx_no (w : Cond) : Bool := decide (w ≠ .isRef (.static Bundle.tN "UNASSIGNED_STACK" Bundle.steD)) && decide (w ≠ .isRef (.static Bundle.tN "SUPPRESSED_SENTINEL" Bundle.listD)) && decide (w ≠ .laysStatic Bundle.tN "UNASSIGNED_STACK" Bundle.steD) && decide (w ≠ .laysStatic Bundle.tN "SUPPRESSED_SENTINEL" Bundle.listD)
def vx_at0 (own : String) (ic : Nat) (X : String) (names : List String) : List Cond := (Bundle.ownAtoms0 own ic X names).filter vx_no
def vx_atS (own : String) (ic : Nat) (X : String) (names : List String) : List Cond := (Bundle.ownAtoms own ic X names).filter vx_no
/-- a word that the tables alone decide, or a good one -/
def vx_ot (w : Cond) : Bool := w.onTables || goodWord w
theorem vx_ot_at {args a' : Array Value} {s U : State} {w : Cond} (hW : s.WarmedH U.vm) (hvm : s.vm = U.vm) (hg : vx_ot w = true) (h : w.before args s = true) : w.before a' U = true := by
  simp only [vx_ot, Bool.or_eq_true] at hg
  rcases hg with hg | hg
  · exact va_tabs hg hvm h
  · exact word_at hW (good_of_word hg) h
/-- a list's words: the good ones out of the method's own list, the others by premises of their own -/
theorem vx_hat {args : Array Value} {s : State} {L B : List Cond} (h1 : ∀ w ∈ L.filter goodWord, w.before args s = true) (h2 : ∀ w ∈ L.filter (fun w => !goodWord w), w ∈ B) (h3 : ∀ w ∈ B, w.before args s = true) : ∀ w ∈ L, w.before args s = true := by
  intro w hw
  by_cases g : goodWord w = true
  · exact h1 w (List.mem_filter.mpr ⟨hw, g⟩)
  · refine h3 w (h2 w (List.mem_filter.mpr ⟨hw, ?_⟩))
    show (!goodWord w) = true
    cases hgw : goodWord w
    · rfl
    · exact absurd hgw g
theorem vx_c {args : Array Value} {s : State} {w : Cond} {B : List Cond} (h : w.before args s = true) (t : ∀ w ∈ B, w.before args s = true) : ∀ w' ∈ w :: B, w'.before args s = true := fun w' h' => (List.mem_cons.mp h').elim (fun e => by rw [e]; exact h) (t w')
theorem vx_n {args : Array Value} {s : State} : ∀ w ∈ ([] : List Cond), w.before args s = true := fun _ h => nomatch h
theorem vx_own {args : Array Value} {s : State} {L : List Cond} (h1 : ∀ w ∈ L.filter vx_no, w.before args s = true)
    (hU : (Cond.isRef (.static Bundle.tN "UNASSIGNED_STACK" Bundle.steD)).before args s = true) (hN : (Cond.isRef (.static Bundle.tN "SUPPRESSED_SENTINEL" Bundle.listD)).before args s = true)
    (lU : (Cond.laysStatic Bundle.tN "UNASSIGNED_STACK" Bundle.steD).before args s = true) (lN : (Cond.laysStatic Bundle.tN "SUPPRESSED_SENTINEL" Bundle.listD).before args s = true) : ∀ w ∈ L, w.before args s = true := by
  intro w hw
  by_cases e1 : w = .isRef (.static Bundle.tN "UNASSIGNED_STACK" Bundle.steD)
  · rw [e1]; exact hU
  · by_cases e2 : w = .isRef (.static Bundle.tN "SUPPRESSED_SENTINEL" Bundle.listD)
    · rw [e2]; exact hN
    · by_cases e3 : w = .laysStatic Bundle.tN "UNASSIGNED_STACK" Bundle.steD
      · rw [e3]; exact lU
      · by_cases e4 : w = .laysStatic Bundle.tN "SUPPRESSED_SENTINEL" Bundle.listD
        · rw [e4]; exact lN
        · exact h1 w (List.mem_filter.mpr ⟨hw, by unfold vx_no; rw [decide_eq_true e1, decide_eq_true e2, decide_eq_true e3, decide_eq_true e4]; rfl⟩)
/-- where a static field lies, its class's statics cell in H -/
def vx_L (C n d : String) (A : Nat → Prop) (U : State) (H : Heap) : Prop := ∃ (c : ClassId) (k : Class) (i : Nat) (f : Field) (a : Nat) (cell : Cell), U.vm.findClass C = some c ∧ U.fieldFound? C n d = some (c, k, i, f) ∧ f.isStatic = true ∧ k.statics = some a ∧ H[a]? = some cell ∧ cell.vm.isStatics = true ∧ cell.cls = c ∧ f.slot < cell.slots.size ∧ k.staticTypes[f.slot]? = some f.type ∧ ¬ A a
theorem vx_L.moved {C n d : String} {A : Nat → Prop} {u U : State} {H : Heap} (hvm : u.vm.Alike U.vm) (h : vx_L C n d A u H) : vx_L C n d A U H := by
  obtain ⟨c, k, i, f, a, cell, h1, h2, h3, h4, h5, h6, h7, h8, h9, h10⟩ := h
  obtain ⟨k', hi', he⟩ := State.fieldFound?_setVm hvm h2
  exact ⟨c, k', i, f, a, cell, by rw [hvm.findClass]; exact h1, hi', h3, by rw [he]; exact h4, h5, h6, h7, h8, by rw [he]; exact h9, h10⟩
theorem vx_L.kept {C n d : String} {A : Nat → Prop} {U : State} {H H1 : Heap} (h : vx_L C n d A U H) (hq : ∀ a : Nat, a < H.size → ¬ A a → H1[a]? = H[a]?) : vx_L C n d A U H1 := by
  obtain ⟨c, k, i, f, a, cell, h1, h2, h3, h4, h5, h6, h7, h8, h9, h10⟩ := h
  exact ⟨c, k, i, f, a, cell, h1, h2, h3, h4, by rw [hq a (Array.getElem?_eq_some_iff.mp h5).1 h10]; exact h5, h6, h7, h8, h9, h10⟩
theorem vx_L.narrow {C n d : String} {A B : Nat → Prop} {U : State} {H : Heap} (h : vx_L C n d A U H) (hAB : ∀ q, B q → A q) : vx_L C n d B U H := by
  obtain ⟨c, k, i, f, a, cell, h1, h2, h3, h4, h5, h6, h7, h8, h9, h10⟩ := h
  exact ⟨c, k, i, f, a, cell, h1, h2, h3, h4, h5, h6, h7, h8, h9, fun z => h10 (hAB _ z)⟩
theorem vx_L.word {C n d : String} {A : Nat → Prop} {s : State} {args : Array Value} (h : vx_L C n d A s s.heap) : (Cond.laysStatic C n d).before args s = true := by
  obtain ⟨c, k, i, f, a, cell, h1, h2, h3, h4, h5, h6, h7, h8, h9, -⟩ := h
  show (Cond.laysStatic C n d).holds args s none s [] = true
  exact Cond.laysStatic_of h1 h2 h3 h4 h5 h6 h7 h8 h9
/-- .. and what it holds: null or some reference -/
def vx_Zq (C n d : String) (A : Nat → Prop) (U : State) (H : Heap) : Prop := va_Zq C n d A U H ∧ vx_L C n d A U H
theorem vx_Zq.moved {C n d : String} {A : Nat → Prop} {u U : State} {H : Heap} (hvm : u.vm.Alike U.vm) (h : vx_Zq C n d A u H) : vx_Zq C n d A U H := ⟨va_Zq.moved hvm h.1, vx_L.moved hvm h.2⟩
theorem vx_Zq.kept {C n d : String} {A : Nat → Prop} {U : State} {H H1 : Heap} (h : vx_Zq C n d A U H) (hq : ∀ a : Nat, a < H.size → ¬ A a → H1[a]? = H[a]?) : vx_Zq C n d A U H1 := ⟨va_Zq.kept h.1 hq, vx_L.kept h.2 hq⟩
theorem vx_Zq.narrow {C n d : String} {A B : Nat → Prop} {U : State} {H : Heap} (h : vx_Zq C n d A U H) (hAB : ∀ q, B q → A q) : vx_Zq C n d B U H := ⟨va_Zq.narrow h.1 hAB, vx_L.narrow h.2 hAB⟩
theorem vx_Zqof {args : Array Value} {s : State} {C n d : String} {A : Nat → Prop} (hl : (Cond.laysStatic C n d).before args s = true) (hini : (Cond.initialized C).before args s = true) (h : (Cond.isRef (.static C n d)).before args s = true) (hA : ∀ a : Nat, a < s.heap.size → ¬ A a) : vx_Zq C n d A s s.heap := by
  refine ⟨va_Zqof hl hini h hA, ?_⟩
  obtain ⟨c, k, i, f, a, cell, h1, h2, h3, h4, h5, h6, h7, h8, h9⟩ := Cond.laysStatic_spec hl
  exact ⟨c, k, i, f, a, cell, h1, h2, h3, h4, h5, h6, h7, h8, h9, hA a (Array.getElem?_eq_some_iff.mp h5).1⟩
theorem vx_isRef {C n d : String} {v : Value} {A : Nat → Prop} {s : State} {args : Array Value} (h : va_Z C n d v A s s.heap) (hv : v.isRef = true) : (Cond.isRef (.static C n d)).before args s = true := by
  obtain ⟨cf, kf, fi, f, a, cell, h1, h2, h3, h4, h5, h6, h7, -⟩ := h
  have he : (Term.static C n d).eval args s none [] s = some v := by
    simp [Term.eval, State.fieldNamed?, h1, h2, h4, h5, h6, h7]
  simp only [Cond.before, Cond.holds, Cond.value, he]
  cases v <;> simp_all [Value.isRef]
theorem vx_isRefq {C n d : String} {A : Nat → Prop} {s : State} {args : Array Value} (h : va_Zq C n d A s s.heap) : (Cond.isRef (.static C n d)).before args s = true := by
  rcases h with h | ⟨t, h⟩
  · exact vx_isRef h rfl
  · exact vx_isRef h rfl
/-- the same frame, seen from here: as if the method were called anew in this heap -/
theorem vx_rebase {T : State} (X : Stand p l e R s m args below meth c T locs cells slots) {R' : Room} (hf : R'.frames ≤ R.frames) (hl : R'.locals ≤ R.locals) (hc : cells + R'.cells ≤ R.cells) (hs : slots + R'.slots ≤ R.slots) :
    Stand p l e R' ((T.setVm s.vm).setFrames (.invoking m args :: below)) m args below meth c T [] 0 0 := by
  have htop : (T.setVm s.vm).topJava?.isSome := X.here.top
  have hF : ((T.setVm s.vm).setFrames (.invoking m args :: below)).frames = .invoking m args :: below := State.frames_setFrames _ (State.cur_lt_of_top htop)
  obtain ⟨g₀, hg0⟩ := Option.isSome_iff_exists.mp htop
  obtain ⟨r, hr⟩ := State.topJava?_eq_some.mp hg0
  have hl9 : e.platform.stackLimits (T.setVm s.vm).me = e.platform.stackLimits s.me := X.limits
  have hb9 : (T.setVm s.vm).me.stackBytes = s.me.stackBytes := X.bytes
  refine ⟨X.admits, X.cas, X.clock, hF, ?_, X.hears, X.method, X.code, X.here, X.tail, X.warmed, ?_, ?_, ?_⟩
  · have h := X.room
    have hU : ((T.setVm s.vm).setFrames (.invoking m args :: below)).localsInUse = s.localsInUse := by
      rw [State.localsInUse_invoking hF (meth := meth) (c := c) X.method X.code, State.localsInUse_invoking X.frames X.method X.code]
    simp only [State.hasRoom, Bool.and_eq_true, decide_eq_true_eq] at h ⊢
    obtain ⟨⟨⟨⟨h1, h2, h3, h4, h5, h6⟩, h7⟩, h8⟩, h9⟩ := h
    rw [X.frames, List.length_cons] at h2 h3
    have q1 := X.heapSize
    have q2 := X.used
    simp only [hF, hU, List.length_cons, State.stackLimits_setFrames, State.stackBytes_setFrames, hl9, hb9]
    refine ⟨⟨⟨⟨by omega, by omega, by omega, by omega, by omega, h6⟩, ?_⟩, ?_⟩, X.book⟩
    · show T.heap.size + R'.cells ≤ e.platform.maxCells
      omega
    · show T.slotsUsed + R'.slots ≤ e.platform.maxSlots
      omega
  · rw [State.stackLimits_setFrames]; rfl
  · rw [State.stackBytes_setFrames]; rfl
  · refine ⟨?_, Nat.le_refl _, Nat.le_refl _, ?_, ?_, fun a c9 h9 => ⟨c9, h9, rfl, rfl, fun _ _ => rfl⟩⟩
    · obtain ⟨t, ht, -⟩ := State.frames_cons hr
      show T.setVm s.vm = { ((T.setVm s.vm).setFrames (.invoking m args :: below)).setFrames (T.setVm s.vm).frames with heap := T.heap, slotsUsed := T.slotsUsed }
      rw [State.setFrames_setFrames, State.setFrames_self ht]
      rfl
    · show T.slotsUsed = T.slotsUsed + ((T.heap.toList.drop T.heap.size).map (·.slots.size)).sum
      rw [List.drop_eq_nil_of_le (Nat.le_of_eq Array.length_toList)]
      rfl
    · show ((T.heap.toList.drop T.heap.size).map (·.slots.size)).sum ≤ 0
      rw [List.drop_eq_nil_of_le (Nat.le_of_eq Array.length_toList)]
      exact Nat.le_refl _
/-- 'throw new E()': new; dup; invokespecial; athrow -/
theorem vx_throw0 {cc : ByteArray} {pc : Nat} (hexec : p.tables.exec = Jvm.exec) (hb : c.code = cc) (hl : l.stackTraces = false) {own cls : String} {names : List String} {ik ic mc ms : Nat} {A : Nat → Prop}
    (hown : s.vm.findClass own = some m.cls) (hcls : Bundle.fit cls = true) (hnames : ∀ n ∈ names, Bundle.fit n = true)
    (hk : (Cond.classLink own ik cls).before args s = true) (hini : (Cond.initialized cls).before args s = true) (hat : ∀ w ∈ vx_at0 own ic cls names, w.before args s = true)
    (hgood : ∀ w ∈ Cond.classLink own ik cls :: Cond.initialized cls :: vx_at0 own ic cls names, vx_ot w = true)
    (hU : vx_Zq Bundle.tN "UNASSIGNED_STACK" Bundle.steD A s s.heap) (hN : vx_Zq Bundle.tN "SUPPRESSED_SENTINEL" Bundle.listD A s s.heap) (hS : va_S A s.heap H locs) (hsize : ls.size = c.maxLocals)
    (d0 : decode cc pc = .ok (.new ik, 3)) (d3 : decode cc (pc + 3) = .ok (.dup, 1)) (d4 : decode cc (pc + 4) = .ok (.invokespecial ic, 3)) (d7 : decode cc (pc + 7) = .ok (.athrow, 1))
    (hout : ∀ x ∈ c.exceptionTable.toList, covers x (pc + 7) = false)
    (hRframes : names.length + 3 < R.frames) (hRlocals : (rest.map fun v => v.category).sum + (13 * (names.length + 1) + 42) ≤ R.locals) (hRcells : cells + 1 ≤ R.cells) (hRslots : slots + 6 ≤ R.slots) (hlocks : meth.locks = false)
    (hx : ∀ t : State, s.vm.Alike t.vm → H.size ≤ t.heap.size → (∀ q : Nat, q < H.size → t.heap[q]? = H[q]?) → XC cls s t)
    (hf : ∀ z ∈ locs, free z.base) (hc : cells + 1 ≤ mc) (hs : slots + 6 ≤ ms) :
    W p l e R s m args below meth c H locs cells slots (vx_MQ below Qc XC args s mc ms free) (F0 m pc ls rest) := by
  intro T hT X
  have htr : e.platform.stackTraces = false := (show e.platform.stackTraces = l.stackTraces by rw [X.admits.platform]).trans hl
  have Y := vx_rebase X (R' := { frames := R.frames, locals := R.locals, cells := 1, slots := 6 }) (Nat.le_refl _) (Nat.le_refl _) hRcells hRslots
  obtain ⟨s', hA⟩ : ∃ z, z = (T.setVm s.vm).setFrames (.invoking m args :: below) := ⟨_, rfl⟩
  rw [← hA] at Y
  have hvm : s'.vm = s.vm := by rw [hA]; rfl
  have hhp : s'.heap = H := by rw [hA]; exact hT
  have hW0 : s.WarmedH s'.vm := by rw [hvm]; exact State.WarmedH.refl s
  have hat' : ∀ w ∈ vx_at0 own ic cls names, w.before args s' = true := fun w hw => vx_ot_at hW0 hvm.symm (hgood w (List.mem_cons_of_mem _ (List.mem_cons_of_mem _ hw))) (hat w hw)
  have hk' : (Cond.classLink own ik cls).before args s' = true := vx_ot_at hW0 hvm.symm (hgood _ List.mem_cons_self) hk
  have hini' : (Cond.initialized cls).before args s' = true := vx_ot_at hW0 hvm.symm (hgood _ (List.mem_cons_of_mem _ List.mem_cons_self)) hini
  have hU' : vx_Zq Bundle.tN "UNASSIGNED_STACK" Bundle.steD A s' s'.heap := by rw [hhp]; exact vx_Zq.moved hW0.alike (hU.kept hS.2.1)
  have hN' : vx_Zq Bundle.tN "SUPPRESSED_SENTINEL" Bundle.listD A s' s'.heap := by rw [hhp]; exact vx_Zq.moved hW0.alike (hN.kept hS.2.1)
  have h : ∀ w ∈ Bundle.ownAtoms0 own ic cls names, w.before args s' = true := vx_own hat' (vx_isRefq hU'.1) (vx_isRefq hN'.1) hU'.2.word hN'.2.word
  have hown' : s'.vm.findClass own = some m.cls := by rw [hvm]; exact hown
  have hins : (Cond.instantiable cls 6).before args s' = true := h _ (by simp [Bundle.ownAtoms0])
  obtain ⟨vm₁, cX, kX, hfX, hkX, -, -, X₁, st1⟩ := Y.newCold hexec (own := own) (C := cls) (index := ik) (n := 6) hown' hk' hins hini'
    (g := F0 m pc ls rest) rfl (by rw [hb]; exact d0) (Nat.le_refl _) (Nat.le_refl _)
  generalize hT1 : (T.setVm vm₁).pushCell { cls := cX, slots := kX.instanceTypes.map defaultValue, vm := .none } = T1 at X₁ st1
  have hcat : (Value.ref T.heap.size).category = 1 := rfl
  have hcellA : T1.heap[T.heap.size]? = some (freshCell cX kX) := by rw [← hT1]; exact State.heap_pushCell_size _ _
  have d3' : decode c.code (pc + 3) = .ok (.dup, 1) := by rw [hb]; exact d3
  obtain ⟨U, hsteps, hrun, hend, hW, hsame, ce, hce, hO⟩ := X₁.ctorThrow0 hexec htr (own := own) (cls := cls) (names := names) (ic := ic) hown' hcls hnames h (fun x hx => nomatch hx) hfX hkX hcellA (by rw [hhp, hT]; exact Nat.le_refl _)
    (g := { method := m, pc := pc + 4, locals := ls, stack := .ref T.heap.size :: .ref T.heap.size :: rest, locked := none }) rfl hsize rfl rfl (rest := rest) rfl
    (by rw [hb]; exact d4) (by rw [hb]; exact d7) hout hRframes (by simp only [List.map_cons, List.sum_cons, hcat]; omega) hlocks
  obtain ⟨f1, f2⟩ := vx_frame hsame
  rw [hhp] at f1 f2
  have hWs : s.WarmedH U.vm := State.WarmedH.trans hW0 hW
  have hcl : s.vm.findClass cls = some ce.cls := by
    have h9 := hO.cls
    rw [hvm] at h9
    exact h9
  have hall : s.sameButNew ({ U with vm := s.vm } : State) locs mc ms := by
    subst hA
    obtain ⟨e1, e2⟩ := hsame
    rw [State.setFrames_setFrames] at e1
    have h2 : (T.setVm s.vm).sameButNew ({ U with vm := s.vm } : State) [] (0 + 1) (0 + 6) := ⟨e1, e2⟩
    have h3 := X.same.trans h2
    rw [List.append_nil] at h3
    exact h3.mono hc hs
  refine ⟨U, ?_, .threw T.heap.size, hrun, hend, Or.inr ⟨T.heap.size, rfl, cls, ce, locs, hx U hWs.alike f1 (fun q hq => f2 q hq (fun z hz => nomatch hz)), hce, hO.vm, hcl, hWs, hall, hf⟩⟩
  refine st1 _ ?_
  show Steps p.tables e below (T1.setTop { method := m, pc := pc + 3, locals := ls, stack := .ref T.heap.size :: rest, locked := none }) _
  jvm_step X₁.here [X₁.here.top, hexec, d3', Value.category]
  exact hsteps
/-- 'throw new E("text")': new; dup; ldc; invokespecial; athrow -/
theorem vx_throwS {cc : ByteArray} {pc : Nat} (hexec : p.tables.exec = Jvm.exec) (hb : c.code = cc) (hl : l.stackTraces = false) {own cls text : String} {names : List String} {ik is ic mc ms sa : Nat} {A : Nat → Prop}
    (hown : s.vm.findClass own = some m.cls) (hcls : Bundle.fit cls = true) (hnames : ∀ n ∈ names, Bundle.fit n = true)
    (hk : (Cond.classLink own ik cls).before args s = true) (hini : (Cond.initialized cls).before args s = true) (hstr : vk_R own is text sa s) (hat : ∀ w ∈ vx_atS own ic cls names, w.before args s = true)
    (hgood : ∀ w ∈ Cond.classLink own ik cls :: Cond.initialized cls :: vx_atS own ic cls names, vx_ot w = true)
    (hU : vx_Zq Bundle.tN "UNASSIGNED_STACK" Bundle.steD A s s.heap) (hN : vx_Zq Bundle.tN "SUPPRESSED_SENTINEL" Bundle.listD A s s.heap) (hS : va_S A s.heap H locs) (hsize : ls.size = c.maxLocals)
    (d0 : decode cc pc = .ok (.new ik, 3)) (d3 : decode cc (pc + 3) = .ok (.dup, 1)) (d4 : decode cc (pc + 4) = .ok (.ldc is, 2)) (d6 : decode cc (pc + 6) = .ok (.invokespecial ic, 3)) (d9 : decode cc (pc + 9) = .ok (.athrow, 1))
    (hout : ∀ x ∈ c.exceptionTable.toList, covers x (pc + 9) = false)
    (hRframes : names.length + 3 < R.frames) (hRlocals : (rest.map fun v => v.category).sum + (13 * (names.length + 1) + 43) ≤ R.locals) (hRcells : cells + 1 ≤ R.cells) (hRslots : slots + 6 ≤ R.slots) (hlocks : meth.locks = false)
    (hx : ∀ t : State, s.vm.Alike t.vm → H.size ≤ t.heap.size → (∀ q : Nat, q < H.size → t.heap[q]? = H[q]?) → XC cls s t)
    (hf : ∀ z ∈ locs, free z.base) (hc : cells + 1 ≤ mc) (hs : slots + 6 ≤ ms) :
    W p l e R s m args below meth c H locs cells slots (vx_MQ below Qc XC args s mc ms free) (F0 m pc ls rest) := by
  intro T hT X
  have htr : e.platform.stackTraces = false := (show e.platform.stackTraces = l.stackTraces by rw [X.admits.platform]).trans hl
  have Y := vx_rebase X (R' := { frames := R.frames, locals := R.locals, cells := 1, slots := 6 }) (Nat.le_refl _) (Nat.le_refl _) hRcells hRslots
  obtain ⟨s', hA⟩ : ∃ z, z = (T.setVm s.vm).setFrames (.invoking m args :: below) := ⟨_, rfl⟩
  rw [← hA] at Y
  have hvm : s'.vm = s.vm := by rw [hA]; rfl
  have hhp : s'.heap = H := by rw [hA]; exact hT
  have hW0 : s.WarmedH s'.vm := by rw [hvm]; exact State.WarmedH.refl s
  have hat' : ∀ w ∈ vx_atS own ic cls names, w.before args s' = true := fun w hw => vx_ot_at hW0 hvm.symm (hgood w (List.mem_cons_of_mem _ (List.mem_cons_of_mem _ hw))) (hat w hw)
  have hk' : (Cond.classLink own ik cls).before args s' = true := vx_ot_at hW0 hvm.symm (hgood _ List.mem_cons_self) hk
  have hini' : (Cond.initialized cls).before args s' = true := vx_ot_at hW0 hvm.symm (hgood _ (List.mem_cons_of_mem _ List.mem_cons_self)) hini
  have hU' : vx_Zq Bundle.tN "UNASSIGNED_STACK" Bundle.steD A s' s'.heap := by rw [hhp]; exact vx_Zq.moved hW0.alike (hU.kept hS.2.1)
  have hN' : vx_Zq Bundle.tN "SUPPRESSED_SENTINEL" Bundle.listD A s' s'.heap := by rw [hhp]; exact vx_Zq.moved hW0.alike (hN.kept hS.2.1)
  have h : ∀ w ∈ Bundle.ownAtoms own ic cls names, w.before args s' = true := vx_own hat' (vx_isRefq hU'.1) (vx_isRefq hN'.1) hU'.2.word hN'.2.word
  have hown' : s'.vm.findClass own = some m.cls := by rw [hvm]; exact hown
  have hins : (Cond.instantiable cls 6).before args s' = true := h _ (by simp [Bundle.ownAtoms])
  obtain ⟨vm₁, cX, kX, hfX, hkX, -, -, X₁, st1⟩ := Y.newCold hexec (own := own) (C := cls) (index := ik) (n := 6) hown' hk' hins hini'
    (g := F0 m pc ls rest) rfl (by rw [hb]; exact d0) (Nat.le_refl _) (Nat.le_refl _)
  generalize hT1 : (T.setVm vm₁).pushCell { cls := cX, slots := kX.instanceTypes.map defaultValue, vm := .none } = T1 at X₁ st1
  have hcat : (Value.ref T.heap.size).category = 1 := rfl
  have hcellA : T1.heap[T.heap.size]? = some (freshCell cX kX) := by rw [← hT1]; exact State.heap_pushCell_size _ _
  have d3' : decode c.code (pc + 3) = .ok (.dup, 1) := by rw [hb]; exact d3
  have d4' : decode c.code (pc + 4) = .ok (.ldc is, 2) := by rw [hb]; exact d4
  have hstr' : vk_R own is text sa s' := vk_R.warm hW0 hstr
  obtain ⟨U, hsteps, hrun, hend, hW, hsame, ce, hce, hO⟩ := X₁.ctorThrowS hexec htr (own := own) (cls := cls) (names := names) (ic := ic) hown' hcls hnames h (fun x hx => nomatch hx) hfX hkX hcellA (by rw [hhp, hT]; exact Nat.le_refl _) (msg := .ref sa) rfl
    (g := { method := m, pc := pc + 6, locals := ls, stack := .ref sa :: .ref T.heap.size :: .ref T.heap.size :: rest, locked := none }) rfl hsize rfl rfl (rest := rest) rfl
    (by rw [hb]; exact d6) (by rw [hb]; exact d9) hout hRframes (by simp only [List.map_cons, List.sum_cons, hcat]; omega) hlocks
  obtain ⟨f1, f2⟩ := vx_frame hsame
  rw [hhp] at f1 f2
  have hWs : s.WarmedH U.vm := State.WarmedH.trans hW0 hW
  have hcl : s.vm.findClass cls = some ce.cls := by
    have h9 := hO.cls
    rw [hvm] at h9
    exact h9
  have hall : s.sameButNew ({ U with vm := s.vm } : State) locs mc ms := by
    subst hA
    obtain ⟨e1, e2⟩ := hsame
    rw [State.setFrames_setFrames] at e1
    have h2 : (T.setVm s.vm).sameButNew ({ U with vm := s.vm } : State) [] (0 + 1) (0 + 6) := ⟨e1, e2⟩
    have h3 := X.same.trans h2
    rw [List.append_nil] at h3
    exact h3.mono hc hs
  refine ⟨U, ?_, .threw T.heap.size, hrun, hend, Or.inr ⟨T.heap.size, rfl, cls, ce, locs, hx U hWs.alike f1 (fun q hq => f2 q hq (fun z hz => nomatch hz)), hce, hO.vm, hcl, hWs, hall, hf⟩⟩
  refine st1 _ ?_
  show Steps p.tables e below (T1.setTop { method := m, pc := pc + 3, locals := ls, stack := .ref T.heap.size :: rest, locked := none }) _
  jvm_step X₁.here [X₁.here.top, hexec, d3', Value.category]
  exact X₁.ldcString hexec (own := own) (text := text) (index := is) (a := sa) hown' hstr'.1 hstr'.2
    (g := { method := m, pc := pc + 4, locals := ls, stack := .ref T.heap.size :: .ref T.heap.size :: rest, locked := none }) rfl d4' _ hsteps
/-- 'throw new E("text")', the text by a wide index -/
theorem vx_throwSW {cc : ByteArray} {pc : Nat} (hexec : p.tables.exec = Jvm.exec) (hb : c.code = cc) (hl : l.stackTraces = false) {own cls text : String} {names : List String} {ik is ic mc ms sa : Nat} {A : Nat → Prop}
    (hown : s.vm.findClass own = some m.cls) (hcls : Bundle.fit cls = true) (hnames : ∀ n ∈ names, Bundle.fit n = true)
    (hk : (Cond.classLink own ik cls).before args s = true) (hini : (Cond.initialized cls).before args s = true) (hstr : vk_R own is text sa s) (hat : ∀ w ∈ vx_atS own ic cls names, w.before args s = true)
    (hgood : ∀ w ∈ Cond.classLink own ik cls :: Cond.initialized cls :: vx_atS own ic cls names, vx_ot w = true)
    (hU : vx_Zq Bundle.tN "UNASSIGNED_STACK" Bundle.steD A s s.heap) (hN : vx_Zq Bundle.tN "SUPPRESSED_SENTINEL" Bundle.listD A s s.heap) (hS : va_S A s.heap H locs) (hsize : ls.size = c.maxLocals)
    (d0 : decode cc pc = .ok (.new ik, 3)) (d3 : decode cc (pc + 3) = .ok (.dup, 1)) (d4 : decode cc (pc + 4) = .ok (.ldc_w is, 3)) (d7 : decode cc (pc + 7) = .ok (.invokespecial ic, 3)) (d10 : decode cc (pc + 10) = .ok (.athrow, 1))
    (hout : ∀ x ∈ c.exceptionTable.toList, covers x (pc + 10) = false)
    (hRframes : names.length + 3 < R.frames) (hRlocals : (rest.map fun v => v.category).sum + (13 * (names.length + 1) + 43) ≤ R.locals) (hRcells : cells + 1 ≤ R.cells) (hRslots : slots + 6 ≤ R.slots) (hlocks : meth.locks = false)
    (hx : ∀ t : State, s.vm.Alike t.vm → H.size ≤ t.heap.size → (∀ q : Nat, q < H.size → t.heap[q]? = H[q]?) → XC cls s t)
    (hf : ∀ z ∈ locs, free z.base) (hc : cells + 1 ≤ mc) (hs : slots + 6 ≤ ms) :
    W p l e R s m args below meth c H locs cells slots (vx_MQ below Qc XC args s mc ms free) (F0 m pc ls rest) := by
  intro T hT X
  have htr : e.platform.stackTraces = false := (show e.platform.stackTraces = l.stackTraces by rw [X.admits.platform]).trans hl
  have Y := vx_rebase X (R' := { frames := R.frames, locals := R.locals, cells := 1, slots := 6 }) (Nat.le_refl _) (Nat.le_refl _) hRcells hRslots
  obtain ⟨s', hA⟩ : ∃ z, z = (T.setVm s.vm).setFrames (.invoking m args :: below) := ⟨_, rfl⟩
  rw [← hA] at Y
  have hvm : s'.vm = s.vm := by rw [hA]; rfl
  have hhp : s'.heap = H := by rw [hA]; exact hT
  have hW0 : s.WarmedH s'.vm := by rw [hvm]; exact State.WarmedH.refl s
  have hat' : ∀ w ∈ vx_atS own ic cls names, w.before args s' = true := fun w hw => vx_ot_at hW0 hvm.symm (hgood w (List.mem_cons_of_mem _ (List.mem_cons_of_mem _ hw))) (hat w hw)
  have hk' : (Cond.classLink own ik cls).before args s' = true := vx_ot_at hW0 hvm.symm (hgood _ List.mem_cons_self) hk
  have hini' : (Cond.initialized cls).before args s' = true := vx_ot_at hW0 hvm.symm (hgood _ (List.mem_cons_of_mem _ List.mem_cons_self)) hini
  have hU' : vx_Zq Bundle.tN "UNASSIGNED_STACK" Bundle.steD A s' s'.heap := by rw [hhp]; exact vx_Zq.moved hW0.alike (hU.kept hS.2.1)
  have hN' : vx_Zq Bundle.tN "SUPPRESSED_SENTINEL" Bundle.listD A s' s'.heap := by rw [hhp]; exact vx_Zq.moved hW0.alike (hN.kept hS.2.1)
  have h : ∀ w ∈ Bundle.ownAtoms own ic cls names, w.before args s' = true := vx_own hat' (vx_isRefq hU'.1) (vx_isRefq hN'.1) hU'.2.word hN'.2.word
  have hown' : s'.vm.findClass own = some m.cls := by rw [hvm]; exact hown
  have hins : (Cond.instantiable cls 6).before args s' = true := h _ (by simp [Bundle.ownAtoms])
  obtain ⟨vm₁, cX, kX, hfX, hkX, -, -, X₁, st1⟩ := Y.newCold hexec (own := own) (C := cls) (index := ik) (n := 6) hown' hk' hins hini'
    (g := F0 m pc ls rest) rfl (by rw [hb]; exact d0) (Nat.le_refl _) (Nat.le_refl _)
  generalize hT1 : (T.setVm vm₁).pushCell { cls := cX, slots := kX.instanceTypes.map defaultValue, vm := .none } = T1 at X₁ st1
  have hcat : (Value.ref T.heap.size).category = 1 := rfl
  have hcellA : T1.heap[T.heap.size]? = some (freshCell cX kX) := by rw [← hT1]; exact State.heap_pushCell_size _ _
  have d3' : decode c.code (pc + 3) = .ok (.dup, 1) := by rw [hb]; exact d3
  have d4' : decode c.code (pc + 4) = .ok (.ldc_w is, 3) := by rw [hb]; exact d4
  have hstr' : vk_R own is text sa s' := vk_R.warm hW0 hstr
  obtain ⟨U, hsteps, hrun, hend, hW, hsame, ce, hce, hO⟩ := X₁.ctorThrowS hexec htr (own := own) (cls := cls) (names := names) (ic := ic) hown' hcls hnames h (fun x hx => nomatch hx) hfX hkX hcellA (by rw [hhp, hT]; exact Nat.le_refl _) (msg := .ref sa) rfl
    (g := { method := m, pc := pc + 7, locals := ls, stack := .ref sa :: .ref T.heap.size :: .ref T.heap.size :: rest, locked := none }) rfl hsize rfl rfl (rest := rest) rfl
    (by rw [hb]; exact d7) (by rw [hb]; exact d10) hout hRframes (by simp only [List.map_cons, List.sum_cons, hcat]; omega) hlocks
  obtain ⟨f1, f2⟩ := vx_frame hsame
  rw [hhp] at f1 f2
  have hWs : s.WarmedH U.vm := State.WarmedH.trans hW0 hW
  have hcl : s.vm.findClass cls = some ce.cls := by
    have h9 := hO.cls
    rw [hvm] at h9
    exact h9
  have hall : s.sameButNew ({ U with vm := s.vm } : State) locs mc ms := by
    subst hA
    obtain ⟨e1, e2⟩ := hsame
    rw [State.setFrames_setFrames] at e1
    have h2 : (T.setVm s.vm).sameButNew ({ U with vm := s.vm } : State) [] (0 + 1) (0 + 6) := ⟨e1, e2⟩
    have h3 := X.same.trans h2
    rw [List.append_nil] at h3
    exact h3.mono hc hs
  refine ⟨U, ?_, .threw T.heap.size, hrun, hend, Or.inr ⟨T.heap.size, rfl, cls, ce, locs, hx U hWs.alike f1 (fun q hq => f2 q hq (fun z hz => nomatch hz)), hce, hO.vm, hcl, hWs, hall, hf⟩⟩
  refine st1 _ ?_
  show Steps p.tables e below (T1.setTop { method := m, pc := pc + 3, locals := ls, stack := .ref T.heap.size :: rest, locked := none }) _
  jvm_step X₁.here [X₁.here.top, hexec, d3', Value.category]
  exact X₁.ldcStringW hexec (own := own) (text := text) (index := is) (a := sa) hown' hstr'.1 hstr'.2
    (g := { method := m, pc := pc + 4, locals := ls, stack := .ref T.heap.size :: .ref T.heap.size :: rest, locked := none }) rfl d4' _ hsteps
end Ends
section Bodies
variable {l : Launch}
theorem vx_ofW {y : MethodName} {ws ws' : List Cond} {rm : Room} {Pc : Array Value → State → Prop} {Qc : Array Value → State → Outcome → State → Prop} {XC : String → State → State → Prop} {mc ms : Nat} {free : Addr → Prop} {cc : ByteArray} {maxL : Nat} {ret : Option FieldType}
    (hy : plainName y.cls = true) (hw : ws = Cond.code y cc maxL ret :: ws')
    (body : ∀ p e s m args below meth c s₁, BodyLoose p l y (headSpec ws rm) cc maxL ret e s m args below meth c s₁ → c.maxLocals = maxL → (∀ x ∈ c.exceptionTable.toList, False) → Pc args s →
      W p l e (headSpec ws rm).room s m args below meth c s.heap [] 0 0 (vx_MQ below Qc XC args s mc ms free) (entryFrame m args maxL)) : vx_Met l y ws rm Pc Qc XC mc ms free := by
  refine MetFree.of_bodyS (code := cc) (maxLocals := maxL) (ret := ret) hy ?_ ?_
  · intro args s m h hn
    obtain ⟨meth, c, h1, h2, h3, h4, h5, h6, -, -⟩ := Cond.code_spec hn (atoms_spec (ws := ws) h _ (by rw [hw]; exact List.mem_cons_self))
    exact ⟨meth, c, h1, h2, h3, h4, h5, h6⟩
  · intro p e s m args below meth c s₁ B hml hP _
    have hh0 : s₁.heap = s.heap := by rw [B.state]; rfl
    have ht : ∀ x ∈ c.exceptionTable.toList, False := by
      obtain ⟨meth9, c9, h1, h2, -, -, -, -, h7, -⟩ := Cond.code_spec B.named (atoms_spec (ws := ws) B.pre _ (by rw [hw]; exact List.mem_cons_self))
      cases Option.some.inj (h1.symm.trans B.method)
      cases Option.some.inj (h2.symm.trans (Stand.of_body B).code)
      intro x hx
      rw [Array.isEmpty_iff.mp h7] at hx
      cases hx
    obtain ⟨t, a1, o, b1, b2, b3⟩ := body p e s m args below meth c s₁ B hml ht hP s₁ hh0 (Stand.of_body B)
    exact ⟨t, o, a1, b1, b2, b3⟩
/-- the table of a body with handlers -/
theorem vx_table {p : Program} {x y : MethodName} {S : Spec} {cc bytes : ByteArray} {maxL maxL' : Nat} {ret ret' : Option FieldType} {e : Env} {s s₁ : State} {m : MethodId} {args : Array Value} {below : List Frame} {meth : Method} {c : Code} {hh : List (Nat × Nat × Nat × Nat)}
    (B : BodyLoose p l y S cc maxL ret e s m args below meth c s₁) (h : (Cond.codeWith y bytes maxL' ret' hh).before args s = true) : c.exceptionTable.toList = tableOf hh := by
  obtain ⟨m9, meth9, c9, hn9, h1, h2, -, -, h6, -⟩ := Cond.codeWith_spec h
  cases Option.some.inj (hn9.symm.trans B.named)
  cases Option.some.inj (h1.symm.trans B.method)
  cases Option.some.inj (h2.symm.trans (Stand.of_body B).code)
  rw [← h6, table_eq]
end Bodies
end VXA
/-! ===== END ===== -/
/-! ===== BEGIN a static call of a method with an exception table ===== -/
section VXS
variable {p : Program} {l : Launch} {e : Env} {R : Room} {s : State} {m : MethodId} {args : Array Value} {below : List Frame} {meth : Method} {c : Code} {T : State} {H : Heap} {locs : List Loc} {cells slots : Nat}
abbrev vx_CSW (R : Room) (s : State) (args : Array Value) (own : String) (index : Nat) (y : MethodName) (bytes : ByteArray) (maxL : Nat) (ret : Option FieldType) (hh : List (Nat × Nat × Nat × Nat)) (ws : List Cond) (rm : Room) (mc ms n : Nat) : Prop :=
  (rm.cells = mc ∧ rm.slots = ms ∧ rm.frames + 1 ≤ R.frames ∧ 8 + (maxL + 11) + rm.locals ≤ R.locals ∧ (∀ w ∈ ws, ∀ (a' : Array Value) (U : State), s.WarmedH U.vm → w.before a' U = true) ∧ Cond.codeWith y bytes maxL ret hh ∈ ws) ∧
  (Cond.codeWith y bytes maxL ret hh).before args s = true ∧ (Cond.initialized y.cls).before args s = true ∧ (y.cls ≠ "java/lang/invoke/MethodHandle" ∧ y.cls ≠ "java/lang/invoke/VarHandle") ∧
  (∀ sig, parseMethodDescriptor y.desc = some sig → n = sig.parameters.length) ∧ (Cond.methodLink own index y).before args s = true ∧ (Cond.static y).before args s = true
theorem vx_cwSW {own : String} {index maxL mc ms : Nat} {y : MethodName} {bytes : ByteArray} {ret : Option FieldType} {hh : List (Nat × Nat × Nat × Nat)} {Ts ws ws' : List Cond} {rm : Room} (n : Nat) (ht : ∀ w ∈ Ts, w.before args s = true) (hT : GoodIn Ts (va_wsS own index y ws)) (hw : ws = Cond.codeWith y bytes maxL ret hh :: ws') (hrc : rm.cells = mc) (hrs : rm.slots = ms)
    (hd : y.cls ≠ "java/lang/invoke/MethodHandle" ∧ y.cls ≠ "java/lang/invoke/VarHandle" ∧ (parseMethodDescriptor y.desc).map (fun d => d.parameters.length) = some n) (hR : rm.frames + 1 ≤ R.frames ∧ 8 + (maxL + 11) + rm.locals ≤ R.locals) :
    vx_CSW R s args own index y bytes maxL ret hh ws rm mc ms n := by
  have ok : ∀ w ∈ va_wsS own index y ws, w.before args s = true := fun w h => ht w (hT w h).1
  have hG : GoodIn Ts ws := fun w h => hT w (by unfold va_wsS; exact List.mem_append_right _ h)
  have hc : Cond.codeWith y bytes maxL ret hh ∈ ws := by rw [hw]; exact List.mem_cons_self
  refine ⟨⟨hrc, hrs, hR.1, hR.2, pay_in ht hG, hc⟩, ht _ (hG _ hc).1, ok _ (by simp [va_wsS]), ⟨hd.1, hd.2.1⟩, fun sig h => ?_, ok _ (by simp [va_wsS]), ok _ (by simp [va_wsS])⟩
  have h2 := hd.2.2
  rw [h] at h2
  exact (Option.some.inj h2).symm
theorem vx_callSW (X : Stand p l e R s m args below meth c T locs cells slots) (hexec : p.tables.exec = Jvm.exec) {own : String} {index : Nat} {y : MethodName} {bytes : ByteArray} {maxL : Nat} {ret : Option FieldType} {hh : List (Nat × Nat × Nat × Nat)}
    (hown : s.vm.findClass own = some m.cls) (hlink : (Cond.methodLink own index y).before args s = true) (hstat : (Cond.static y).before args s = true) (hinit : (Cond.initialized y.cls).before args s = true)
    (hcode : (Cond.codeWith y bytes maxL ret hh).before args s = true) (hy : y.cls ≠ "java/lang/invoke/MethodHandle" ∧ y.cls ≠ "java/lang/invoke/VarHandle")
    {W9 : Nat} {Pre : Pt → Array Value → Prop} {Post : Pt → Array Value → Option Value → Pt → Prop} (hK : Back l R p e below s args y 3 W9 Pre Post)
    {g : JFrame} (hg : g.method = m) (hsize : g.locals.size = c.maxLocals) {argsL rest : List Value} (hlen : ∀ sig, parseMethodDescriptor y.desc = some sig → argsL.length = sig.parameters.length)
    (hstack : g.stack = argsL.reverse ++ rest) (hW : 2 * g.monitorRoom + (rest.map fun v => v.category).sum ≤ W9) (hdg : decode c.code g.pc = .ok (.invokestatic index, 3))
    (hpre : ∀ vm₁, s.WarmedH vm₁ → Pre ⟨T.setVm vm₁, locs, cells, slots⟩ argsL.toArray) :
    ∃ (v : Option Value) (vm₁ : Vm) (B : Pt), s.WarmedH vm₁ ∧ Stand p l e R s m args below meth c B.U B.locs B.cells B.slots ∧ Post ⟨T.setVm vm₁, locs, cells, slots⟩ argsL.toArray v B ∧
      ∀ target, Steps p.tables e below (B.U.setTop { g with pc := g.pc + 3, stack := v.toList ++ rest }) target → Steps p.tables e below (T.setTop g) target := by
  obtain ⟨mk, methM, cM, hnamed, hmethM, -, -, -, -, -, -, hsigM⟩ := Cond.codeWith_spec hcode
  have hstatic : methM.isStatic = true := Cond.static_spec hnamed hmethM hstat
  obtain ⟨kP, hkP, -⟩ := className_of_methodNamed hnamed
  have hinitP : kP.init = .initialized := Cond.initialized_spec (findClass_of_methodNamed hnamed) hkP hinit
  obtain ⟨vm₁, X₁, hstep₁⟩ := X.invokestatic hexec hown hlink hnamed hmethM hstatic hkP hinitP hy (g := g) hg (argsL := argsL) (rest := rest) (hlen _ hsigM) hstack hdg
  obtain ⟨v, B, X', hpost, hsteps⟩ := hK m meth c ⟨T.setVm vm₁, locs, cells, slots⟩ { g with stack := rest } (.invokestatic index) mk argsL.toArray X₁ hg hsize hdg hW (X₁.named hnamed) (hpre vm₁ X₁.warmed)
  exact ⟨v, vm₁, B, X₁.warmed, X', hpost, fun target h => hstep₁ _ fun acts => by rw [doInvoke_state]; exact hsteps.trans h⟩
theorem vx_runSW {y : MethodName} {bytes cc : ByteArray} {maxL nL mc ms n index : Nat} {ret : Option FieldType} {hh : List (Nat × Nat × Nat × Nat)} {ws : List Cond} {rm : Room} {Pc : Array Value → State → Prop} {Qc : Array Value → State → Outcome → State → Prop} {free : Addr → Prop} {Ts : List Cond} {own : String} {As rest : List Value} {g : JFrame}
    (S : CallFix p m c cc nL s args Ts own) (hM : Met l y ws rm Pc Qc mc ms free) (cw : vx_CSW R s args own index y bytes maxL ret hh ws rm mc ms n) (hp : PreS s H Pc As)
    (hg : g.method = m) (hn : As.length = n) (hsize : g.locals.size = nL) (hstack : g.stack = As.reverse ++ rest) (hW : 2 * g.monitorRoom + (rest.map fun v => v.category).sum ≤ 8) (hdg : decode cc g.pc = .ok (.invokestatic index, 3)) (hf : cells + mc ≤ R.cells ∧ slots + ms ≤ R.slots) :
    va_Run p l e R s m args below meth c H locs cells slots mc ms g rest (Qc As.toArray) (free) := by
  obtain ⟨⟨hrc, hrs, hfr, hlo, hws, hcw⟩, hcode, hini, hy, hlen, hl, hstt⟩ := cw
  have hK : Back l R p e below s args y 3 8 (PreOf R mc ms Pc) (PostOf Qc mc ms free) := va_backW (hh := hh) (bytes := bytes) (maxL := maxL) (ret := ret) hM hp.1 hrc hrs hfr hlo hws hcw (fun a' U hW => word_at hW (Or.inl (by first | rfl | simp [Cond.onTables, Cond.keeps, Cond.steady])) hini)
  obtain ⟨hx, hb, hml, ho, -⟩ := S
  intro T hT X
  obtain ⟨v, vm₁, ⟨U', l2, c2, s2⟩, hW₁, X', ⟨g', mk, t, L, e1, e2, hq, h1, hL, h2, h3⟩, st⟩ := vx_callSW X hx (hh := hh) (bytes := bytes) (maxL := maxL) (ret := ret) ho hl hstt hini hcode hy hK hg (hsize.trans hml.symm) (argsL := As) (rest := rest) (fun sig h => hn.trans (hlen sig h)) hstack hW (by rw [hb]; exact hdg)
    (fun vm₁ hW₁ => ⟨hf.1, hf.2, hp.2 (T.setVm vm₁) hT hW₁⟩)
  dsimp only [Pt.U, Pt.locs, Pt.cells, Pt.slots] at X' e1 e2 h1 h2 h3 st
  subst h1; subst h2; subst h3
  exact ⟨v, (T.setVm vm₁).calling g' mk As.toArray, t, U', L, hT, X', hL, e1, e2, hq, st⟩
/-- not caught here, past rows that name other classes: it goes on to the caller -/
theorem vx_outP {p : Program} {l : Launch} {e : Env} {R : Room} {s : State} {m : MethodId} {args : Array Value} {below : List Frame} {meth : Method} {c : Code} {H : Heap} {locs : List Loc} {cells slots : Nat} {free : Addr → Prop} {ls : Array Slot} {rest : List Value} {Qc : Array Value → State → Outcome → State → Prop} {XC : String → State → State → Prop}
    {pc : Nat} {own E : String} {ce : Cell} {q : Addr} {mc ms : Nat} (hown : s.vm.findClass own = some m.cls) (hlocks : meth.locks = false)
    (hpass : ∀ z ∈ c.exceptionTable.toList, covers z pc = false ∨ (z.catchType ≠ 0 ∧ ∃ nm : String, (Cond.classLink own z.catchType nm).before args s = true ∧ va_Nc E nm s)) (hcell : H[q]? = some ce) (hv : ce.vm = .none) (hcl : s.vm.findClass E = some ce.cls)
    (hx : ∀ t : State, t.heap = H → s.vm.Alike t.vm → XC E s t) (hf : ∀ z ∈ locs, free z.base) (hc : cells ≤ mc) (hs : slots ≤ ms) :
    vx_W p l e R s m args below meth c H locs cells slots (vx_MQ below Qc XC args s mc ms free) (F0 m pc ls rest) q := by
  intro T hT X
  have hpl : e.platform.magicAccessors = ({} : Platform).magicAccessors := by rw [X.admits.platform]
  obtain ⟨vm', hW', X', st⟩ := X.outThrough hlocks q (g := F0 m pc ls rest) rfl rfl rfl (cell := ce) (by rw [hT]; exact hcell) (by rw [hv]; rfl)
    (by obtain ⟨k9, h9, -⟩ := Vm.findClass_spec hcl; exact ⟨k9, h9⟩) (fun z hz => by
      rcases hpass z hz with h | ⟨hz0, nm, hl1, hn1⟩
      · exact Or.inl h
      · obtain ⟨c6, hc6, hcl6⟩ := Cond.classLink_spec hown hl1 e.platform hpl
        obtain ⟨a8, b8, h1, h2, h3⟩ := hn1
        cases Option.some.inj (h1.symm.trans hcl)
        cases Option.some.inj (h2.symm.trans hc6)
        exact Or.inr ⟨hz0, _, hcl6, h3⟩)
  obtain ⟨g₀, hfr⟩ := X'.frames_eq
  have hcell9 : ((T.setVm vm').setFrames (.throwing q :: below)).heap[q]? = some ce := by
    show T.heap[q]? = some ce
    rw [hT]; exact hcell
  have hend : Ended ((T.setVm vm').setFrames (.throwing q :: below)) below (.threw q) := State.frames_setFrames _ (State.cur_lt_of_frames hfr)
  refine ⟨(T.setVm vm').setFrames (.throwing q :: below), ?_, .threw q, X'.here.running, hend, Or.inr ⟨q, rfl, E, ce, locs, hx _ hT (X'.ends _).1.alike, hcell9, hv, hcl, (X'.ends _).1, (X'.ends _).2.mono hc hs, hf⟩⟩
  rw [X.pushThrowing_eq]
  exact st
/-- a thing of a world lies in the heap -/
theorem vx_lt {D : va_G} {cl : List vw_C} {ws : va_W} {H1 : Heap} (h : va_P D cl ws H1) {k : Nat} {q : Nat × va_E} (hk : ws[k]? = some q) : q.1 < H1.size := (h k q hk).lt
end VXS
/-! ===== END ===== -/
/-! ===== BEGIN methods with a table of their own: called by a name, returning or throwing ===== -/
section VXH
/-! vx_backW, vx_callVX, vx_callSX, vx_callVW, vx_runVW, vx_runVX, vx_runSX, vx_ofWH follow the same proofs as their sisters above (Free/Laws.lean, Shelf42/LK1.lean); vx_outP calls Shelf42/NT130.lean (outThrough). -/
section
variable {l : Launch} {R : Room} {p : Program} {e : Env} {below : List Frame} {s : State} {sargs : Array Value} {y : MethodName} {len W9 : Nat}
theorem vx_backW {ws : List Cond} {rm : Room} {Pc : Array Value → State → Prop} {Qc : Array Value → State → Outcome → State → Prop} {XC : String → State → State → Prop} {mc ms : Nat} {free : Addr → Prop} {bytes : ByteArray} {maxL : Nat} {ret : Option FieldType} {hh : List (Nat × Nat × Nat × Nat)}
    (hM : vx_Met l y ws rm Pc Qc XC mc ms free) (hblind : FrameBlind Pc) (hrc : rm.cells = mc) (hrs : rm.slots = ms)
    (hframes : rm.frames + 1 ≤ R.frames) (hlocals : W9 + (maxL + 11) + rm.locals ≤ R.locals)
    (hws : ∀ w ∈ ws, ∀ a' U, s.WarmedH U.vm → w.before a' U = true) (hcode : Cond.codeWith y bytes maxL ret hh ∈ ws) (hinit : ∀ a' U, s.WarmedH U.vm → (Cond.initialized y.cls).before a' U = true) :
    vx_Back l R p e below s sargs y len W9 (PreOf R mc ms Pc) (PostOf Qc mc ms free) (vx_Post XC mc ms free) := by
  intro m meth c A g ig mk a X hg hsize hdg hW hn hp
  have h1 : (headSpec ws rm).pre.before a A.U = true := atoms_intro fun w hw => hws w hw _ _ X.warmed
  have h2 : (Cond.codeWith y bytes maxL ret hh).before a A.U = true := hws _ hcode _ _ X.warmed
  have h3 : (Cond.initialized y.cls).before a A.U = true := hinit _ _ X.warmed
  have h4 : A.cells + (headSpec ws rm).room.cells ≤ R.cells := by rw [show (headSpec ws rm).room.cells = mc from hrc]; exact hp.1
  have h5 : A.slots + (headSpec ws rm).room.slots ≤ R.slots := by rw [show (headSpec ws rm).room.slots = ms from hrs]; exact hp.2.1
  have hPc : Pc a (A.U.calling g mk a) := hblind _ _ _ _ hp.2.2
  obtain ⟨U, Ls, c0, s0⟩ := A
  dsimp only [Pt.U, Pt.locs, Pt.cells, Pt.slots] at h1 h2 h3 h4 h5 X hn hPc ⊢
  obtain ⟨m9, methY, cY, hn9, hmY, hcY, -, hlY, -⟩ := Cond.codeWith_spec h2
  cases Option.some.inj (hn9.symm.trans hn)
  obtain ⟨kY, hkY, -⟩ := className_of_methodNamed hn
  have hinitY : kY.init = .initialized := Cond.initialized_spec (findClass_of_methodNamed hn) hkY h3
  have h : At U g.method c below := by rw [hg]; exact X.here
  have hlocals9 : W9 + (maxL + 11) + (headSpec ws rm).room.locals ≤ R.locals := hlocals
  have happ : (headSpec ws rm).appliesLoose y e.platform (U.calling g mk a) = true :=
    Spec.appliesLoose_calling (g := g) h hdg hn hkY hinitY
      (X.room_calling (g := g) (R' := (headSpec ws rm).room) hsize hmY hcY hframes (by rw [hlY]; omega) h4 h5) h1
  obtain ⟨mid, hmid⟩ := h.above
  have hfr : (U.setTop g).frames = (.java g :: mid) ++ below := by rw [State.frames_setTop' g h.top, hmid]; rfl
  obtain ⟨o, s₂, hsteps, -, hend, hq⟩ := Steps.callFree hM p X.admits X.cas X.clock (acts := []) hfr happ hPc trivial
  have hq' : vx_Q Qc XC mc ms free a (U.calling g mk a) o s₂ := hq
  rw [State.frames_setTop' g h.top] at hend
  obtain ⟨g₀, hg0⟩ := Option.isSome_iff_exists.mp h.top
  obtain ⟨r, hr⟩ := State.topJava?_eq_some.mp hg0
  have hr' : (({ U with heap := s₂.heap, slotsUsed := s₂.slotsUsed } : State).setVm s₂.vm).frames = .java g₀ :: r := hr
  rcases hq' with ⟨hqc, L, hfe, hL⟩ | ⟨q, rfl, E, ce, L, hx, hce, hcv, hcl, hW₂, hsm, hL⟩
  · obtain ⟨⟨v, rfl⟩, hW₂, e2, q2, q3, q4, q5, q6⟩ := id hfe
    have e3 : s₂ = ({ (U.calling g mk a).setFrames s₂.frames with heap := s₂.heap, slotsUsed := s₂.slotsUsed } : State).setVm s₂.vm := by
      have : s₂ = ({ s₂ with vm := (U.calling g mk a).vm } : State).setVm s₂.vm := rfl
      rw [e2] at this
      exact this
    obtain ⟨c₂, i₂, len₂, hc₂, hd₂, hf₂⟩ := hend
    have hW' : U.WarmedH s₂.vm := hW₂
    have hcc : c₂ = c := by
      have h1 : s₂.code? g.method = U.code? g.method := by
        rw [State.code?_eq, State.code?_eq, hW'.alike.method?]
      exact Option.some.inj (hc₂.symm.trans (h1.trans h.code))
    subst hcc
    have hlen : len₂ = len := by rw [hdg] at hd₂; cases hd₂; rfl
    subst hlen
    have hs₂ : s₂ = (({ U with heap := s₂.heap, slotsUsed := s₂.slotsUsed } : State).setVm s₂.vm).setTop { g with pc := g.pc + len₂, stack := v.toList ++ g.stack } := by
      refine e3.trans ?_
      rw [hf₂, State.calling_eq h.top, State.setFrames_setFrames, State.setTop_of_frames _ hr', hr]
      rfl
    have hsame : U.sameButNew ({ U with heap := s₂.heap, slotsUsed := s₂.slotsUsed } : State) L mc ms := by
      refine ⟨?_, q2, q3, q4, q5, q6⟩
      obtain ⟨t, ht, -⟩ := State.frames_cons hr
      show ({ U with heap := s₂.heap, slotsUsed := s₂.slotsUsed } : State) = { U.setFrames U.frames with heap := s₂.heap, slotsUsed := s₂.slotsUsed }
      rw [State.setFrames_self ht]
    subst hg
    refine Or.inl ⟨v, ⟨(({ U with heap := s₂.heap, slotsUsed := s₂.slotsUsed } : State).setVm s₂.vm), Ls ++ L, c0 + mc, s0 + ms⟩,
      ⟨X.admits, X.cas, X.clock, X.frames, X.room, X.hears, X.method, X.code, (X.here.setHeapUsed s₂.heap s₂.slotsUsed).setVm hW'.alike, X.tail, State.WarmedH.trans X.warmed hW', X.limits, X.bytes, X.same.trans (hsame.setVm s.vm)⟩,
      ⟨g, mk, s₂, L, rfl, rfl, hqc, rfl, hL, rfl, rfl⟩, ?_⟩
    show Steps p.tables e below _ ((({ U with heap := s₂.heap, slotsUsed := s₂.slotsUsed } : State).setVm s₂.vm).setTop { g with pc := g.pc + len₂, stack := v.toList ++ g.stack })
    rw [← hs₂]
    exact hsteps
  · obtain ⟨e2, q2, q3, q4, q5, q6⟩ := id hsm
    have e3 : s₂ = ({ (U.calling g mk a).setFrames s₂.frames with heap := s₂.heap, slotsUsed := s₂.slotsUsed } : State).setVm s₂.vm := by
      have : s₂ = ({ s₂ with vm := (U.calling g mk a).vm } : State).setVm s₂.vm := rfl
      rw [e2] at this
      exact this
    have hf₂ : s₂.frames = .throwing q :: .java g :: U.frames.tail := hend
    have hW' : U.WarmedH s₂.vm := hW₂
    have hs₂ : s₂ = ((({ U with heap := s₂.heap, slotsUsed := s₂.slotsUsed } : State).setVm s₂.vm).setTop g).pushFrame (.throwing q) := by
      refine e3.trans ?_
      rw [hf₂, State.calling_eq h.top, State.setFrames_setFrames, State.pushFrame, State.frames_setTop _ hr', State.setTop_of_frames _ hr', State.setFrames_setFrames, hr]
      rfl
    have hsame : U.sameButNew ({ U with heap := s₂.heap, slotsUsed := s₂.slotsUsed } : State) L mc ms := by
      refine ⟨?_, q2, q3, q4, q5, q6⟩
      obtain ⟨t, ht, -⟩ := State.frames_cons hr
      show ({ U with heap := s₂.heap, slotsUsed := s₂.slotsUsed } : State) = { U.setFrames U.frames with heap := s₂.heap, slotsUsed := s₂.slotsUsed }
      rw [State.setFrames_self ht]
    subst hg
    refine Or.inr ⟨q, ⟨(({ U with heap := s₂.heap, slotsUsed := s₂.slotsUsed } : State).setVm s₂.vm), Ls ++ L, c0 + mc, s0 + ms⟩,
      ⟨X.admits, X.cas, X.clock, X.frames, X.room, X.hears, X.method, X.code, (X.here.setHeapUsed s₂.heap s₂.slotsUsed).setVm hW'.alike, X.tail, State.WarmedH.trans X.warmed hW', X.limits, X.bytes, X.same.trans (hsame.setVm s.vm)⟩,
      ⟨g, mk, s₂, L, E, ce, rfl, rfl, hx, hce, hcv, hcl, rfl, hL, rfl, rfl⟩, ?_⟩
    show Steps p.tables e below _ (((({ U with heap := s₂.heap, slotsUsed := s₂.slotsUsed } : State).setVm s₂.vm).setTop g).pushFrame (.throwing q))
    rw [← hs₂]
    exact hsteps
end
variable {p : Program} {l : Launch} {e : Env} {R : Room} {s : State} {m : MethodId} {args : Array Value} {below : List Frame} {meth : Method} {c : Code} {T : State} {H : Heap} {locs : List Loc} {cells slots : Nat}
theorem vx_callVX (X : Stand p l e R s m args below meth c T locs cells slots) (hexec : p.tables.exec = Jvm.exec) {own C : String} {index : Nat} {y : MethodName} {bytes : ByteArray} {maxL : Nat} {ret : Option FieldType} {hh : List (Nat × Nat × Nat × Nat)}
    (hown : s.vm.findClass own = some m.cls) (hlink : (Cond.methodLink own index y).before args s = true) (hinst : (Cond.instanceMethod y).before args s = true) (hsel : (Cond.selects C y y).before args s = true)
    (hcode : (Cond.codeWith y bytes maxL ret hh).before args s = true) (hy : y.cls ≠ "java/lang/invoke/MethodHandle" ∧ y.cls ≠ "java/lang/invoke/VarHandle")
    {W9 : Nat} {Pre : Pt → Array Value → Prop} {Post : Pt → Array Value → Option Value → Pt → Prop} {PostX : Pt → Array Value → Addr → Pt → Prop} (hK : vx_Back l R p e below s args y 3 W9 Pre Post PostX)
    {b : Addr} {cellB : Cell} (hcell : T.heap[b]? = some cellB) (hobj : cellB.vm.isStatics = false) (hcls : s.vm.findClass C = some cellB.cls)
    {g : JFrame} (hg : g.method = m) (hsize : g.locals.size = c.maxLocals) {argsL rest : List Value} (hlen : ∀ sig, parseMethodDescriptor y.desc = some sig → argsL.length = sig.parameters.length)
    (hstack : g.stack = argsL.reverse ++ .ref b :: rest) (hW : 2 * g.monitorRoom + (rest.map fun v => v.category).sum ≤ W9) (hdg : decode c.code g.pc = .ok (.invokevirtual index, 3))
    (hpre : ∀ vm₁, s.WarmedH vm₁ → Pre ⟨T.setVm vm₁, locs, cells, slots⟩ (Value.ref b :: argsL).toArray) :
    (∃ (v : Option Value) (vm₁ : Vm) (B : Pt), s.WarmedH vm₁ ∧ Stand p l e R s m args below meth c B.U B.locs B.cells B.slots ∧ Post ⟨T.setVm vm₁, locs, cells, slots⟩ (Value.ref b :: argsL).toArray v B ∧
      ∀ target, Steps p.tables e below (B.U.setTop { g with pc := g.pc + 3, stack := v.toList ++ rest }) target → Steps p.tables e below (T.setTop g) target) ∨
    (∃ (q : Addr) (vm₁ : Vm) (B : Pt), s.WarmedH vm₁ ∧ Stand p l e R s m args below meth c B.U B.locs B.cells B.slots ∧ PostX ⟨T.setVm vm₁, locs, cells, slots⟩ (Value.ref b :: argsL).toArray q B ∧
      Steps p.tables e below (T.setTop g) ((B.U.setTop { g with stack := rest }).pushFrame (.throwing q))) := by
  obtain ⟨mk, methM, hnamed, hmethM, hstM, habM⟩ := Cond.instanceMethod_spec hinst
  obtain ⟨m8, methM', cM, hn8, hmethM', -, -, -, -, -, -, hsigM⟩ := Cond.codeWith_spec hcode
  cases Option.some.inj (hn8.symm.trans hnamed)
  cases hmethM.symm.trans hmethM'
  obtain ⟨c2, r2, m2, q1, q2, q3, q4, kP, hkP, hkPi⟩ := Cond.selects_spec hsel
  cases hcls.symm.trans q1
  cases (State.methodFound?_of_named hnamed hy).symm.trans q2
  cases hnamed.symm.trans q3
  have hselP : selectMethod e.platform s.vm cellB.cls mk = .method mk := by rw [Launch.admits_selectMethod X.admits]; exact q4
  obtain ⟨vm₁, X₁, hstep₁⟩ := X.invokevirtual hexec hown hlink hnamed hmethM hstM hkP hkPi hy (a := b) (cell := cellB) hcell
    (fun z h => by rw [h] at hobj; cases hobj) hselP hmethM habM hkP hkPi (g := g) hg (argsL := argsL) (rest := rest) (hlen _ hsigM) hstack hdg
  rcases hK m meth c ⟨T.setVm vm₁, locs, cells, slots⟩ { g with stack := rest } (.invokevirtual index) mk (Value.ref b :: argsL).toArray X₁ hg hsize hdg hW (X₁.named hnamed) (hpre vm₁ X₁.warmed) with ⟨v, B, X', hpost, hsteps⟩ | ⟨q, B, X', hpost, hsteps⟩
  · exact Or.inl ⟨v, vm₁, B, X₁.warmed, X', hpost, fun target h => hstep₁ _ fun acts => by rw [doInvoke_state]; exact hsteps.trans h⟩
  · exact Or.inr ⟨q, vm₁, B, X₁.warmed, X', hpost, hstep₁ _ fun acts => by rw [doInvoke_state]; exact hsteps⟩
theorem vx_callSX (X : Stand p l e R s m args below meth c T locs cells slots) (hexec : p.tables.exec = Jvm.exec) {own : String} {index : Nat} {y : MethodName} {bytes : ByteArray} {maxL : Nat} {ret : Option FieldType} {hh : List (Nat × Nat × Nat × Nat)}
    (hown : s.vm.findClass own = some m.cls) (hlink : (Cond.methodLink own index y).before args s = true) (hstat : (Cond.static y).before args s = true) (hinit : (Cond.initialized y.cls).before args s = true)
    (hcode : (Cond.codeWith y bytes maxL ret hh).before args s = true) (hy : y.cls ≠ "java/lang/invoke/MethodHandle" ∧ y.cls ≠ "java/lang/invoke/VarHandle")
    {W9 : Nat} {Pre : Pt → Array Value → Prop} {Post : Pt → Array Value → Option Value → Pt → Prop} {PostX : Pt → Array Value → Addr → Pt → Prop} (hK : vx_Back l R p e below s args y 3 W9 Pre Post PostX)
    {g : JFrame} (hg : g.method = m) (hsize : g.locals.size = c.maxLocals) {argsL rest : List Value} (hlen : ∀ sig, parseMethodDescriptor y.desc = some sig → argsL.length = sig.parameters.length)
    (hstack : g.stack = argsL.reverse ++ rest) (hW : 2 * g.monitorRoom + (rest.map fun v => v.category).sum ≤ W9) (hdg : decode c.code g.pc = .ok (.invokestatic index, 3))
    (hpre : ∀ vm₁, s.WarmedH vm₁ → Pre ⟨T.setVm vm₁, locs, cells, slots⟩ argsL.toArray) :
    (∃ (v : Option Value) (vm₁ : Vm) (B : Pt), s.WarmedH vm₁ ∧ Stand p l e R s m args below meth c B.U B.locs B.cells B.slots ∧ Post ⟨T.setVm vm₁, locs, cells, slots⟩ argsL.toArray v B ∧
      ∀ target, Steps p.tables e below (B.U.setTop { g with pc := g.pc + 3, stack := v.toList ++ rest }) target → Steps p.tables e below (T.setTop g) target) ∨
    (∃ (q : Addr) (vm₁ : Vm) (B : Pt), s.WarmedH vm₁ ∧ Stand p l e R s m args below meth c B.U B.locs B.cells B.slots ∧ PostX ⟨T.setVm vm₁, locs, cells, slots⟩ argsL.toArray q B ∧
      Steps p.tables e below (T.setTop g) ((B.U.setTop { g with stack := rest }).pushFrame (.throwing q))) := by
  obtain ⟨mk, methM, cM, hnamed, hmethM, -, -, -, -, -, -, hsigM⟩ := Cond.codeWith_spec hcode
  have hstatic : methM.isStatic = true := Cond.static_spec hnamed hmethM hstat
  obtain ⟨kP, hkP, -⟩ := className_of_methodNamed hnamed
  have hinitP : kP.init = .initialized := Cond.initialized_spec (findClass_of_methodNamed hnamed) hkP hinit
  obtain ⟨vm₁, X₁, hstep₁⟩ := X.invokestatic hexec hown hlink hnamed hmethM hstatic hkP hinitP hy (g := g) hg (argsL := argsL) (rest := rest) (hlen _ hsigM) hstack hdg
  rcases hK m meth c ⟨T.setVm vm₁, locs, cells, slots⟩ { g with stack := rest } (.invokestatic index) mk argsL.toArray X₁ hg hsize hdg hW (X₁.named hnamed) (hpre vm₁ X₁.warmed) with ⟨v, B, X', hpost, hsteps⟩ | ⟨q, B, X', hpost, hsteps⟩
  · exact Or.inl ⟨v, vm₁, B, X₁.warmed, X', hpost, fun target h => hstep₁ _ fun acts => by rw [doInvoke_state]; exact hsteps.trans h⟩
  · exact Or.inr ⟨q, vm₁, B, X₁.warmed, X', hpost, hstep₁ _ fun acts => by rw [doInvoke_state]; exact hsteps⟩
theorem vx_callVW (X : Stand p l e R s m args below meth c T locs cells slots) (hexec : p.tables.exec = Jvm.exec) {own C : String} {index : Nat} {y : MethodName} {bytes : ByteArray} {maxL : Nat} {ret : Option FieldType} {hh : List (Nat × Nat × Nat × Nat)}
    (hown : s.vm.findClass own = some m.cls) (hlink : (Cond.methodLink own index y).before args s = true) (hinst : (Cond.instanceMethod y).before args s = true) (hsel : (Cond.selects C y y).before args s = true)
    (hcode : (Cond.codeWith y bytes maxL ret hh).before args s = true) (hy : y.cls ≠ "java/lang/invoke/MethodHandle" ∧ y.cls ≠ "java/lang/invoke/VarHandle")
    {W9 : Nat} {Pre : Pt → Array Value → Prop} {Post : Pt → Array Value → Option Value → Pt → Prop} (hK : Back l R p e below s args y 3 W9 Pre Post)
    {b : Addr} {cellB : Cell} (hcell : T.heap[b]? = some cellB) (hobj : cellB.vm.isStatics = false) (hcls : s.vm.findClass C = some cellB.cls)
    {g : JFrame} (hg : g.method = m) (hsize : g.locals.size = c.maxLocals) {argsL rest : List Value} (hlen : ∀ sig, parseMethodDescriptor y.desc = some sig → argsL.length = sig.parameters.length)
    (hstack : g.stack = argsL.reverse ++ .ref b :: rest) (hW : 2 * g.monitorRoom + (rest.map fun v => v.category).sum ≤ W9) (hdg : decode c.code g.pc = .ok (.invokevirtual index, 3))
    (hpre : ∀ vm₁, s.WarmedH vm₁ → Pre ⟨T.setVm vm₁, locs, cells, slots⟩ (Value.ref b :: argsL).toArray) :
    ∃ (v : Option Value) (vm₁ : Vm) (B : Pt), s.WarmedH vm₁ ∧ Stand p l e R s m args below meth c B.U B.locs B.cells B.slots ∧ Post ⟨T.setVm vm₁, locs, cells, slots⟩ (Value.ref b :: argsL).toArray v B ∧
      ∀ target, Steps p.tables e below (B.U.setTop { g with pc := g.pc + 3, stack := v.toList ++ rest }) target → Steps p.tables e below (T.setTop g) target := by
  obtain ⟨mk, methM, hnamed, hmethM, hstM, habM⟩ := Cond.instanceMethod_spec hinst
  obtain ⟨m8, methM', cM, hn8, hmethM', -, -, -, -, -, -, hsigM⟩ := Cond.codeWith_spec hcode
  cases Option.some.inj (hn8.symm.trans hnamed)
  cases hmethM.symm.trans hmethM'
  obtain ⟨c2, r2, m2, q1, q2, q3, q4, kP, hkP, hkPi⟩ := Cond.selects_spec hsel
  cases hcls.symm.trans q1
  cases (State.methodFound?_of_named hnamed hy).symm.trans q2
  cases hnamed.symm.trans q3
  have hselP : selectMethod e.platform s.vm cellB.cls mk = .method mk := by rw [Launch.admits_selectMethod X.admits]; exact q4
  obtain ⟨vm₁, X₁, hstep₁⟩ := X.invokevirtual hexec hown hlink hnamed hmethM hstM hkP hkPi hy (a := b) (cell := cellB) hcell
    (fun z h => by rw [h] at hobj; cases hobj) hselP hmethM habM hkP hkPi (g := g) hg (argsL := argsL) (rest := rest) (hlen _ hsigM) hstack hdg
  obtain ⟨v, B, X', hpost, hsteps⟩ := hK m meth c ⟨T.setVm vm₁, locs, cells, slots⟩ { g with stack := rest } (.invokevirtual index) mk (Value.ref b :: argsL).toArray X₁ hg hsize hdg hW (X₁.named hnamed) (hpre vm₁ X₁.warmed)
  exact ⟨v, vm₁, B, X₁.warmed, X', hpost, fun target h => hstep₁ _ fun acts => by rw [doInvoke_state]; exact hsteps.trans h⟩
abbrev vx_CVW (R : Room) (s : State) (args : Array Value) (own C : String) (index : Nat) (y : MethodName) (bytes : ByteArray) (maxL : Nat) (ret : Option FieldType) (hh : List (Nat × Nat × Nat × Nat)) (ws : List Cond) (rm : Room) (mc ms n : Nat) : Prop :=
  (rm.cells = mc ∧ rm.slots = ms ∧ rm.frames + 1 ≤ R.frames ∧ 8 + (maxL + 11) + rm.locals ≤ R.locals ∧ (∀ w ∈ ws, ∀ (a' : Array Value) (U : State), s.WarmedH U.vm → w.before a' U = true) ∧ Cond.codeWith y bytes maxL ret hh ∈ ws) ∧
  (Cond.codeWith y bytes maxL ret hh).before args s = true ∧ (Cond.initialized y.cls).before args s = true ∧ (y.cls ≠ "java/lang/invoke/MethodHandle" ∧ y.cls ≠ "java/lang/invoke/VarHandle") ∧
  (∀ sig, parseMethodDescriptor y.desc = some sig → n = sig.parameters.length) ∧ (Cond.methodLink own index y).before args s = true ∧ (Cond.instanceMethod y).before args s = true ∧ (Cond.selects C y y).before args s = true
theorem vx_cwVW {own C : String} {index maxL mc ms : Nat} {y : MethodName} {bytes : ByteArray} {ret : Option FieldType} {hh : List (Nat × Nat × Nat × Nat)} {Ts ws ws' : List Cond} {rm : Room} (n : Nat) (ht : ∀ w ∈ Ts, w.before args s = true) (hT : GoodIn Ts (wsV own index C y ws)) (hw : ws = Cond.codeWith y bytes maxL ret hh :: ws') (hrc : rm.cells = mc) (hrs : rm.slots = ms)
    (hd : y.cls = C ∧ y.cls ≠ "java/lang/invoke/MethodHandle" ∧ y.cls ≠ "java/lang/invoke/VarHandle" ∧ (parseMethodDescriptor y.desc).map (fun d => d.parameters.length) = some n) (hR : rm.frames + 1 ≤ R.frames ∧ 8 + (maxL + 11) + rm.locals ≤ R.locals) :
    vx_CVW R s args own C index y bytes maxL ret hh ws rm mc ms n := by
  obtain ⟨hC, hd⟩ := hd
  subst hC
  have ok : ∀ w ∈ wsV own index y.cls y ws, w.before args s = true := fun w h => ht w (hT w h).1
  have hG : GoodIn Ts ws := fun w h => hT w (by unfold wsV; exact List.mem_append_right _ h)
  have hc : Cond.codeWith y bytes maxL ret hh ∈ ws := by rw [hw]; exact List.mem_cons_self
  refine ⟨⟨hrc, hrs, hR.1, hR.2, pay_in ht hG, hc⟩, ht _ (hG _ hc).1, ok _ (by simp [wsV]), ⟨hd.1, hd.2.1⟩, fun sig h => ?_, ok _ (by simp [wsV]), ok _ (by simp [wsV]), ok _ (by simp [wsV])⟩
  have h2 := hd.2.2
  rw [h] at h2
  exact (Option.some.inj h2).symm
theorem vx_runVW {y : MethodName} {bytes cc : ByteArray} {maxL nL mc ms n index : Nat} {ret : Option FieldType} {hh : List (Nat × Nat × Nat × Nat)} {ws : List Cond} {rm : Room} {Pc : Array Value → State → Prop} {Qc : Array Value → State → Outcome → State → Prop} {free : Addr → Prop} {Ts : List Cond} {own C : String} {b : Addr} {As rest : List Value} {g : JFrame}
    (S : CallFix p m c cc nL s args Ts own) (hM : Met l y ws rm Pc Qc mc ms free) (cw : vx_CVW R s args own C index y bytes maxL ret hh ws rm mc ms n) (hp : PreV s H C b Pc As)
    (hg : g.method = m) (hn : As.length = n) (hsize : g.locals.size = nL) (hstack : g.stack = As.reverse ++ .ref b :: rest) (hW : 2 * g.monitorRoom + (rest.map fun v => v.category).sum ≤ 8) (hdg : decode cc g.pc = .ok (.invokevirtual index, 3)) (hf : cells + mc ≤ R.cells ∧ slots + ms ≤ R.slots) :
    va_Run p l e R s m args below meth c H locs cells slots mc ms g rest (Qc (Value.ref b :: As).toArray) free := by
  obtain ⟨⟨hrc, hrs, hfr, hlo, hws, hcw⟩, hcode, hini, hy, hlen, hl, hin, hse⟩ := cw
  have hK : Back l R p e below s args y 3 8 (PreOf R mc ms Pc) (PostOf Qc mc ms free) := va_backW (hh := hh) (bytes := bytes) (maxL := maxL) (ret := ret) hM hp.1 hrc hrs hfr hlo hws hcw (fun a' U hW => word_at hW (Or.inl (by first | rfl | simp [Cond.onTables, Cond.keeps, Cond.steady])) hini)
  obtain ⟨hx, hb, hml, ho, -⟩ := S
  obtain ⟨-, ⟨cellB, hcB, hoB, hclB⟩, hPc⟩ := hp
  intro T hT X
  obtain ⟨v, vm₁, ⟨U', l2, c2, s2⟩, hW₁, X', ⟨g', mk, t, L, e1, e2, hq, h1, hL, h2, h3⟩, st⟩ := vx_callVW X hx (C := C) (hh := hh) (bytes := bytes) (maxL := maxL) (ret := ret) ho hl hin hse hcode hy hK (by rw [hT]; exact hcB) hoB hclB hg (hsize.trans hml.symm) (argsL := As) (rest := rest) (fun sig h => hn.trans (hlen sig h)) hstack hW (by rw [hb]; exact hdg)
    (fun vm₁ hW₁ => ⟨hf.1, hf.2, hPc (T.setVm vm₁) hT hW₁⟩)
  dsimp only [Pt.U, Pt.locs, Pt.cells, Pt.slots] at X' e1 e2 h1 h2 h3 st
  subst h1; subst h2; subst h3
  exact ⟨v, (T.setVm vm₁).calling g' mk (Value.ref b :: As).toArray, t, U', L, hT, X', hL, e1, e2, hq, st⟩
section
variable {y : MethodName} {bytes cc : ByteArray} {maxL nL mc ms n index : Nat} {ret : Option FieldType} {ws : List Cond} {rm : Room} {Pc : Array Value → State → Prop} {Qc : Array Value → State → Outcome → State → Prop} {XC : String → State → State → Prop} {free : Addr → Prop} {Ts : List Cond} {own C : String} {b : Addr} {As rest : List Value} {g : JFrame}
theorem vx_runVX {hh : List (Nat × Nat × Nat × Nat)} (S : CallFix p m c cc nL s args Ts own) (hM : vx_Met l y ws rm Pc Qc XC mc ms free) (cw : vx_CVW R s args own C index y bytes maxL ret hh ws rm mc ms n) (hp : PreV s H C b Pc As)
    (hg : g.method = m) (hn : As.length = n) (hsize : g.locals.size = nL) (hstack : g.stack = As.reverse ++ .ref b :: rest) (hW : 2 * g.monitorRoom + (rest.map fun v => v.category).sum ≤ 8) (hdg : decode cc g.pc = .ok (.invokevirtual index, 3)) (hf : cells + mc ≤ R.cells ∧ slots + ms ≤ R.slots) :
    vx_Run p l e R s m args below meth c H locs cells slots mc ms g rest (Qc (Value.ref b :: As).toArray) XC free := by
  obtain ⟨⟨hrc, hrs, hfr, hlo, hws, hcw⟩, hcode, hini, hy, hlen, hl, hin, hse⟩ := cw
  have hK : vx_Back l R p e below s args y 3 8 (PreOf R mc ms Pc) (PostOf Qc mc ms free) (vx_Post XC mc ms free) := vx_backW (hh := hh) (bytes := bytes) (maxL := maxL) (ret := ret) hM hp.1 hrc hrs hfr hlo hws hcw (fun a' U hW => word_at hW (Or.inl (by first | rfl | simp [Cond.onTables, Cond.keeps, Cond.steady])) hini)
  obtain ⟨hx, hb, hml, ho, -⟩ := S
  obtain ⟨-, ⟨cellB, hcB, hoB, hclB⟩, hPc⟩ := hp
  intro T hT X
  rcases vx_callVX X hx (C := C) (hh := hh) (bytes := bytes) (maxL := maxL) (ret := ret) ho hl hin hse hcode hy hK (by rw [hT]; exact hcB) hoB hclB hg (hsize.trans hml.symm) (argsL := As) (rest := rest) (fun sig h => hn.trans (hlen sig h)) hstack hW (by rw [hb]; exact hdg)
    (fun vm₁ hW₁ => ⟨hf.1, hf.2, hPc (T.setVm vm₁) hT hW₁⟩) with ⟨v, vm₁, ⟨U', l2, c2, s2⟩, hW₁, X', ⟨g', mk, t, L, e1, e2, hq, h1, hL, h2, h3⟩, st⟩ | ⟨q, vm₁, ⟨U', l2, c2, s2⟩, hW₁, X', ⟨g', mk, t, L, E, ce, e1, e2, hq, hce, hcv, hcl, h1, hL, h2, h3⟩, st⟩
  · dsimp only [Pt.U, Pt.locs, Pt.cells, Pt.slots] at X' e1 e2 h1 h2 h3 st
    subst h1; subst h2; subst h3
    exact Or.inl ⟨v, (T.setVm vm₁).calling g' mk (Value.ref b :: As).toArray, t, U', L, hT, X', hL, e1, e2, hq, st⟩
  · dsimp only [Pt.U, Pt.locs, Pt.cells, Pt.slots] at X' e1 e2 h1 h2 h3 st hcl
    subst h1; subst h2; subst h3
    exact Or.inr ⟨q, (T.setVm vm₁).calling g' mk (Value.ref b :: As).toArray, t, U', L, E, ce, hT, X', hL, e1, e2, hq, hce, hcv, vx_cls hW₁ hcl, st⟩
theorem vx_runSX {hh : List (Nat × Nat × Nat × Nat)} (S : CallFix p m c cc nL s args Ts own) (hM : vx_Met l y ws rm Pc Qc XC mc ms free) (cw : vx_CSW R s args own index y bytes maxL ret hh ws rm mc ms n) (hp : PreS s H Pc As)
    (hg : g.method = m) (hn : As.length = n) (hsize : g.locals.size = nL) (hstack : g.stack = As.reverse ++ rest) (hW : 2 * g.monitorRoom + (rest.map fun v => v.category).sum ≤ 8) (hdg : decode cc g.pc = .ok (.invokestatic index, 3)) (hf : cells + mc ≤ R.cells ∧ slots + ms ≤ R.slots) :
    vx_Run p l e R s m args below meth c H locs cells slots mc ms g rest (Qc As.toArray) XC free := by
  obtain ⟨⟨hrc, hrs, hfr, hlo, hws, hcw⟩, hcode, hini, hy, hlen, hl, hstt⟩ := cw
  have hK : vx_Back l R p e below s args y 3 8 (PreOf R mc ms Pc) (PostOf Qc mc ms free) (vx_Post XC mc ms free) := vx_backW (hh := hh) (bytes := bytes) (maxL := maxL) (ret := ret) hM hp.1 hrc hrs hfr hlo hws hcw (fun a' U hW => word_at hW (Or.inl (by first | rfl | simp [Cond.onTables, Cond.keeps, Cond.steady])) hini)
  obtain ⟨hx, hb, hml, ho, -⟩ := S
  intro T hT X
  rcases vx_callSX X hx (hh := hh) (bytes := bytes) (maxL := maxL) (ret := ret) ho hl hstt hini hcode hy hK hg (hsize.trans hml.symm) (argsL := As) (rest := rest) (fun sig h => hn.trans (hlen sig h)) hstack hW (by rw [hb]; exact hdg)
    (fun vm₁ hW₁ => ⟨hf.1, hf.2, hp.2 (T.setVm vm₁) hT hW₁⟩) with ⟨v, vm₁, ⟨U', l2, c2, s2⟩, hW₁, X', ⟨g', mk, t, L, e1, e2, hq, h1, hL, h2, h3⟩, st⟩ | ⟨q, vm₁, ⟨U', l2, c2, s2⟩, hW₁, X', ⟨g', mk, t, L, E, ce, e1, e2, hq, hce, hcv, hcl, h1, hL, h2, h3⟩, st⟩
  · dsimp only [Pt.U, Pt.locs, Pt.cells, Pt.slots] at X' e1 e2 h1 h2 h3 st
    subst h1; subst h2; subst h3
    exact Or.inl ⟨v, (T.setVm vm₁).calling g' mk As.toArray, t, U', L, hT, X', hL, e1, e2, hq, st⟩
  · dsimp only [Pt.U, Pt.locs, Pt.cells, Pt.slots] at X' e1 e2 h1 h2 h3 st hcl
    subst h1; subst h2; subst h3
    exact Or.inr ⟨q, (T.setVm vm₁).calling g' mk As.toArray, t, U', L, E, ce, hT, X', hL, e1, e2, hq, hce, hcv, vx_cls hW₁ hcl, st⟩
end
end VXH
theorem vx_ofWH {l : Launch} {y : MethodName} {ws ws' : List Cond} {rm : Room} {Pc : Array Value → State → Prop} {Qc : Array Value → State → Outcome → State → Prop} {XC : String → State → State → Prop} {mc ms : Nat} {free : Addr → Prop} {cc : ByteArray} {maxL : Nat} {ret : Option FieldType} {hh : List (Nat × Nat × Nat × Nat)}
    (hy : plainName y.cls = true) (hw : ws = Cond.codeWith y cc maxL ret hh :: ws')
    (body : ∀ p e s m args below meth c s₁, BodyLoose p l y (headSpec ws rm) cc maxL ret e s m args below meth c s₁ → c.maxLocals = maxL → Pc args s →
      W p l e (headSpec ws rm).room s m args below meth c s.heap [] 0 0 (vx_MQ below Qc XC args s mc ms free) (entryFrame m args maxL)) : vx_Met l y ws rm Pc Qc XC mc ms free := by
  refine MetFree.of_bodyS (code := cc) (maxLocals := maxL) (ret := ret) hy ?_ ?_
  · intro args s m h hn
    obtain ⟨m9, meth, c, hn9, h1, h2, h3, h4, -, h5, h6, -⟩ := Cond.codeWith_spec (atoms_spec (ws := ws) h _ (by rw [hw]; exact List.mem_cons_self))
    cases hn.symm.trans hn9
    exact ⟨meth, c, h1, h2, h3, h4, h5, h6⟩
  · intro p e s m args below meth c s₁ B hml hP _
    have hh0 : s₁.heap = s.heap := by rw [B.state]; rfl
    obtain ⟨t, a1, o, b1, b2, b3⟩ := body p e s m args below meth c s₁ B hml hP s₁ hh0 (Stand.of_body B)
    exact ⟨t, o, a1, b1, b2, b3⟩
/-! ===== END ===== -/

def RX0 : String := "HeadYear$Buyings"
def TX0 : u_T := fun k => match k with
  | 0 => ("HeadYear$Buyings", "family", "[I", true)
  | 1 => ("HeadYear$Buyings", "levels", "[I", true)
  | 2 => ("HeadYear$Buyings", "cost", "[I", true)
  | 3 => ("HeadYear$Buyings", "count", "I", false)
  | _ => ("HeadYear$Buyings", "price", "I", false)
def tyX0 : Nat → FieldType := fun k => match k with
  | 0 => .array .int
  | 1 => .array .int
  | 2 => .array .int
  | 3 => .int
  | _ => .int
theorem nmX0 : ∀ a, a < 5 → ∀ b, b < 5 → a ≠ b → (TX0 a).2.1 ≠ (TX0 b).2.1 := by decide +kernel
theorem tyX0_ok : ∀ k, k < 5 → parseFieldDescriptor (TX0 k).2.2.1 = some (tyX0 k) := by decide +kernel
abbrev cX0_init : ByteArray := prog_2_method_1_code
def yX0_init : MethodName := ⟨RX0, "<init>", "()V"⟩
def RX1 : String := "HeadYear$Diary"
def TX1 : u_T := fun k => match k with
  | 0 => ("HeadYear$Diary", "level", "[I", true)
  | 1 => ("HeadYear$Diary", "heads", "[I", true)
  | _ => ("HeadYear$Diary", "years", "I", false)
def tyX1 : Nat → FieldType := fun k => match k with
  | 0 => .array .int
  | 1 => .array .int
  | _ => .int
theorem nmX1 : ∀ a, a < 3 → ∀ b, b < 3 → a ≠ b → (TX1 a).2.1 ≠ (TX1 b).2.1 := by decide +kernel
theorem tyX1_ok : ∀ k, k < 3 → parseFieldDescriptor (TX1 k).2.2.1 = some (tyX1 k) := by decide +kernel
abbrev cX1_init : ByteArray := prog_3_method_1_code
def yX1_init : MethodName := ⟨RX1, "<init>", "()V"⟩
def RX2 : String := "HeadYear$Folk"
def TX2 : u_T := fun k => match k with
  | 0 => ("HeadYear$Folk", "heads", "[I", true)
  | 1 => ("HeadYear$Folk", "level", "[I", true)
  | 2 => ("HeadYear$Folk", "hut", "[I", true)
  | 3 => ("HeadYear$Folk", "debt", "[I", true)
  | 4 => ("HeadYear$Folk", "born", "[I", true)
  | 5 => ("HeadYear$Folk", "dead", "[I", true)
  | 6 => ("HeadYear$Folk", "bought", "[I", true)
  | 7 => ("HeadYear$Folk", "spent", "[I", true)
  | 8 => ("HeadYear$Folk", "hushed", "[Z", true)
  | 9 => ("HeadYear$Folk", "valley", "LHeadYear$Valley;", false)
  | 10 => ("HeadYear$Folk", "x", "J", false)
  | _ => ("HeadYear$Folk", "years", "I", false)
def tyX2 : Nat → FieldType := fun k => match k with
  | 0 => .array .int
  | 1 => .array .int
  | 2 => .array .int
  | 3 => .array .int
  | 4 => .array .int
  | 5 => .array .int
  | 6 => .array .int
  | 7 => .array .int
  | 8 => .array .boolean
  | 9 => .object "HeadYear$Valley"
  | 10 => .long
  | _ => .int
theorem nmX2 : ∀ a, a < 12 → ∀ b, b < 12 → a ≠ b → (TX2 a).2.1 ≠ (TX2 b).2.1 := by decide +kernel
theorem tyX2_ok : ∀ k, k < 12 → parseFieldDescriptor (TX2 k).2.2.1 = some (tyX2 k) := by decide +kernel
abbrev cX2_init : ByteArray := prog_4_method_1_code
def yX2_init : MethodName := ⟨RX2, "<init>", "()V"⟩
abbrev cX2_familiesAt : ByteArray := prog_4_method_8_code
def yX2_familiesAt : MethodName := ⟨RX2, "familiesAt", "(I)I"⟩
abbrev cX2_goneFamilies : ByteArray := prog_4_method_11_code
def yX2_goneFamilies : MethodName := ⟨RX2, "goneFamilies", "()I"⟩
def RX3 : String := "HeadYear$Law"
def TX3 : u_T := fun k => match k with
  | 0 => ("HeadYear$Law", "code", "[I", true)
  | 1 => ("HeadYear$Law", "stack", "[I", true)
  | _ => ("HeadYear$Law", "length", "I", false)
def tyX3 : Nat → FieldType := fun k => match k with
  | 0 => .array .int
  | 1 => .array .int
  | _ => .int
theorem nmX3 : ∀ a, a < 3 → ∀ b, b < 3 → a ≠ b → (TX3 a).2.1 ≠ (TX3 b).2.1 := by decide +kernel
theorem tyX3_ok : ∀ k, k < 3 → parseFieldDescriptor (TX3 k).2.2.1 = some (tyX3 k) := by decide +kernel
abbrev cX3_init : ByteArray := prog_5_method_1_code
def yX3_init : MethodName := ⟨RX3, "<init>", "()V"⟩
abbrev cX3_bornLessDead : ByteArray := prog_5_method_2_code
def yX3_bornLessDead : MethodName := ⟨RX3, "bornLessDead", "()LHeadYear$Law;"⟩
abbrev cX3_add : ByteArray := prog_5_method_3_code
def yX3_add : MethodName := ⟨RX3, "add", "(II)V"⟩
def RX4 : String := "HeadYear$LawReader"
def TX4 : u_T := fun k => match k with
  | _ => ("HeadYear$LawReader", "draft", "LHeadYear$Law;", false)
def tyX4 : Nat → FieldType := fun k => match k with
  | _ => .object "HeadYear$Law"
theorem nmX4 : ∀ a, a < 1 → ∀ b, b < 1 → a ≠ b → (TX4 a).2.1 ≠ (TX4 b).2.1 := by decide +kernel
theorem tyX4_ok : ∀ k, k < 1 → parseFieldDescriptor (TX4 k).2.2.1 = some (tyX4 k) := by decide +kernel
abbrev cX4_init : ByteArray := prog_6_method_1_code
def yX4_init : MethodName := ⟨RX4, "<init>", "()V"⟩
abbrev cX4_faultOf : ByteArray := prog_6_method_2_code
def yX4_faultOf : MethodName := ⟨RX4, "faultOf", "(LHeadYear$Tape;)I"⟩
abbrev cX4_readClause : ByteArray := prog_6_method_3_code
def yX4_readClause : MethodName := ⟨RX4, "readClause", "(LHeadYear$Tape;)Z"⟩
def RX5 : String := "HeadYear$Moves"
def TX5 : u_T := fun k => match k with
  | _ => ("HeadYear$Moves", "there", "[I", true)
def tyX5 : Nat → FieldType := fun k => match k with
  | _ => .array .int
theorem nmX5 : ∀ a, a < 1 → ∀ b, b < 1 → a ≠ b → (TX5 a).2.1 ≠ (TX5 b).2.1 := by decide +kernel
theorem tyX5_ok : ∀ k, k < 1 → parseFieldDescriptor (TX5 k).2.2.1 = some (tyX5 k) := by decide +kernel
abbrev cX5_init : ByteArray := prog_7_method_1_code
def yX5_init : MethodName := ⟨RX5, "<init>", "()V"⟩
def RX6 : String := "HeadYear$Odds"
def TX6 : u_T := fun k => match k with
  | 0 => ("HeadYear$Odds", "letters", "[I", true)
  | 1 => ("HeadYear$Odds", "dying", "[J", true)
  | 2 => ("HeadYear$Odds", "folk", "LHeadYear$Folk;", true)
  | 3 => ("HeadYear$Odds", "parts", "[J", false)
  | 4 => ("HeadYear$Odds", "after", "[J", false)
  | 5 => ("HeadYear$Odds", "law", "LHeadYear$Law;", false)
  | _ => ("HeadYear$Odds", "gone", "J", false)
def tyX6 : Nat → FieldType := fun k => match k with
  | 0 => .array .int
  | 1 => .array .long
  | 2 => .object "HeadYear$Folk"
  | 3 => .array .long
  | 4 => .array .long
  | 5 => .object "HeadYear$Law"
  | _ => .long
theorem nmX6 : ∀ a, a < 7 → ∀ b, b < 7 → a ≠ b → (TX6 a).2.1 ≠ (TX6 b).2.1 := by decide +kernel
theorem tyX6_ok : ∀ k, k < 7 → parseFieldDescriptor (TX6 k).2.2.1 = some (tyX6 k) := by decide +kernel
abbrev cX6_init : ByteArray := prog_8_method_1_code
def yX6_init : MethodName := ⟨RX6, "<init>", "(LHeadYear$Folk;LHeadYear$Law;)V"⟩
def RX7 : String := "HeadYear$Seasons"
def TX7 : u_T := fun k => match k with
  | 0 => ("HeadYear$Seasons", "lacks", "[I", true)
  | 1 => ("HeadYear$Seasons", "letters", "[I", true)
  | 2 => ("HeadYear$Seasons", "ring", "[I", true)
  | 3 => ("HeadYear$Seasons", "find", "I", false)
  | _ => ("HeadYear$Seasons", "luck", "Z", false)
def tyX7 : Nat → FieldType := fun k => match k with
  | 0 => .array .int
  | 1 => .array .int
  | 2 => .array .int
  | 3 => .int
  | _ => .boolean
theorem nmX7 : ∀ a, a < 5 → ∀ b, b < 5 → a ≠ b → (TX7 a).2.1 ≠ (TX7 b).2.1 := by decide +kernel
theorem tyX7_ok : ∀ k, k < 5 → parseFieldDescriptor (TX7 k).2.2.1 = some (tyX7 k) := by decide +kernel
abbrev cX7_init : ByteArray := prog_9_method_1_code
def yX7_init : MethodName := ⟨RX7, "<init>", "()V"⟩
def RX8 : String := "HeadYear$Tape"
def TX8 : u_T := fun k => match k with
  | 0 => ("HeadYear$Tape", "bytes", "[I", true)
  | 1 => ("HeadYear$Tape", "length", "I", false)
  | 2 => ("HeadYear$Tape", "at", "I", false)
  | _ => ("HeadYear$Tape", "number", "I", false)
def tyX8 : Nat → FieldType := fun k => match k with
  | 0 => .array .int
  | 1 => .int
  | 2 => .int
  | _ => .int
theorem nmX8 : ∀ a, a < 4 → ∀ b, b < 4 → a ≠ b → (TX8 a).2.1 ≠ (TX8 b).2.1 := by decide +kernel
theorem tyX8_ok : ∀ k, k < 4 → parseFieldDescriptor (TX8 k).2.2.1 = some (tyX8 k) := by decide +kernel
abbrev cX8_init : ByteArray := prog_10_method_1_code
def yX8_init : MethodName := ⟨RX8, "<init>", "()V"⟩
abbrev cX8_bytesOf : ByteArray := prog_10_method_2_code
def yX8_bytesOf : MethodName := ⟨RX8, "bytesOf", "(I)I"⟩
abbrev cX8_append : ByteArray := prog_10_method_3_code
def yX8_append : MethodName := ⟨RX8, "append", "(I)V"⟩
abbrev cX8_next : ByteArray := prog_10_method_4_code
def yX8_next : MethodName := ⟨RX8, "next", "()I"⟩
abbrev cX8_take : ByteArray := prog_10_method_5_code
def yX8_take : MethodName := ⟨RX8, "take", "(I)Z"⟩
def RX9 : String := "HeadYear$Valley"
def TX9 : u_T := fun k => match k with
  | 0 => ("HeadYear$Valley", "huts", "[I", true)
  | 1 => ("HeadYear$Valley", "food", "[I", true)
  | 2 => ("HeadYear$Valley", "danger", "[I", true)
  | 3 => ("HeadYear$Valley", "brow", "[I", true)
  | 4 => ("HeadYear$Valley", "firstHeads", "[I", true)
  | 5 => ("HeadYear$Valley", "firstLevel", "[I", true)
  | 6 => ("HeadYear$Valley", "birth", "[I", true)
  | 7 => ("HeadYear$Valley", "twin", "[I", true)
  | 8 => ("HeadYear$Valley", "levels", "I", false)
  | _ => ("HeadYear$Valley", "families", "I", false)
def tyX9 : Nat → FieldType := fun k => match k with
  | 0 => .array .int
  | 1 => .array .int
  | 2 => .array .int
  | 3 => .array .int
  | 4 => .array .int
  | 5 => .array .int
  | 6 => .array .int
  | 7 => .array .int
  | 8 => .int
  | _ => .int
theorem nmX9 : ∀ a, a < 10 → ∀ b, b < 10 → a ≠ b → (TX9 a).2.1 ≠ (TX9 b).2.1 := by decide +kernel
theorem tyX9_ok : ∀ k, k < 10 → parseFieldDescriptor (TX9 k).2.2.1 = some (tyX9 k) := by decide +kernel
abbrev cX9_init : ByteArray := prog_11_method_1_code
def yX9_init : MethodName := ⟨RX9, "<init>", "()V"⟩
abbrev cX9_clear : ByteArray := prog_11_method_2_code
def yX9_clear : MethodName := ⟨RX9, "clear", "()V"⟩
def RX10 : String := "HeadYear$ValleyReader"
def TX10 : u_T := fun k => match k with
  | 0 => ("HeadYear$ValleyReader", "items", "[I", true)
  | _ => ("HeadYear$ValleyReader", "draft", "LHeadYear$Valley;", false)
def tyX10 : Nat → FieldType := fun k => match k with
  | 0 => .array .int
  | _ => .object "HeadYear$Valley"
theorem nmX10 : ∀ a, a < 2 → ∀ b, b < 2 → a ≠ b → (TX10 a).2.1 ≠ (TX10 b).2.1 := by decide +kernel
theorem tyX10_ok : ∀ k, k < 2 → parseFieldDescriptor (TX10 k).2.2.1 = some (tyX10 k) := by decide +kernel
abbrev cX10_init : ByteArray := prog_12_method_1_code
def yX10_init : MethodName := ⟨RX10, "<init>", "()V"⟩
abbrev cX10_faultOf : ByteArray := prog_12_method_2_code
def yX10_faultOf : MethodName := ⟨RX10, "faultOf", "(LHeadYear$Tape;)I"⟩
abbrev cX10_readClause : ByteArray := prog_12_method_3_code
def yX10_readClause : MethodName := ⟨RX10, "readClause", "(LHeadYear$Tape;)Z"⟩
def RX11 : String := "HeadYear"
def TX11 : u_T := fun k => match k with
  | 0 => ("HeadYear", "tape", "LHeadYear$Tape;", true)
  | 1 => ("HeadYear", "valleyReader", "LHeadYear$ValleyReader;", true)
  | 2 => ("HeadYear", "lawReader", "LHeadYear$LawReader;", true)
  | 3 => ("HeadYear", "laws", "[LHeadYear$Law;", true)
  | 4 => ("HeadYear", "noLaw", "LHeadYear$Law;", true)
  | 5 => ("HeadYear", "folk", "LHeadYear$Folk;", true)
  | 6 => ("HeadYear", "trial", "LHeadYear$Folk;", true)
  | 7 => ("HeadYear", "imageFolk", "LHeadYear$Folk;", true)
  | 8 => ("HeadYear", "diary", "LHeadYear$Diary;", true)
  | 9 => ("HeadYear", "buyings", "LHeadYear$Buyings;", true)
  | 10 => ("HeadYear", "seasons", "LHeadYear$Seasons;", true)
  | 11 => ("HeadYear", "moves", "LHeadYear$Moves;", true)
  | 12 => ("HeadYear", "chances", "LHeadYear$Odds;", true)
  | 13 => ("HeadYear", "lawCount", "I", false)
  | 14 => ("HeadYear", "heldLaw", "I", false)
  | _ => ("HeadYear", "imaged", "Z", false)
def tyX11 : Nat → FieldType := fun k => match k with
  | 0 => .object "HeadYear$Tape"
  | 1 => .object "HeadYear$ValleyReader"
  | 2 => .object "HeadYear$LawReader"
  | 3 => .array (.object "HeadYear$Law")
  | 4 => .object "HeadYear$Law"
  | 5 => .object "HeadYear$Folk"
  | 6 => .object "HeadYear$Folk"
  | 7 => .object "HeadYear$Folk"
  | 8 => .object "HeadYear$Diary"
  | 9 => .object "HeadYear$Buyings"
  | 10 => .object "HeadYear$Seasons"
  | 11 => .object "HeadYear$Moves"
  | 12 => .object "HeadYear$Odds"
  | 13 => .int
  | 14 => .int
  | _ => .boolean
theorem nmX11 : ∀ a, a < 16 → ∀ b, b < 16 → a ≠ b → (TX11 a).2.1 ≠ (TX11 b).2.1 := by decide +kernel
theorem tyX11_ok : ∀ k, k < 16 → parseFieldDescriptor (TX11 k).2.2.1 = some (tyX11 k) := by decide +kernel
abbrev cX11_init : ByteArray := prog_1_method_1_code
def yX11_init : MethodName := ⟨RX11, "<init>", "()V"⟩
abbrev cX11_feed : ByteArray := prog_1_method_2_code
def yX11_feed : MethodName := ⟨RX11, "feed", "(IIIII)I"⟩
abbrev cX11_end : ByteArray := prog_1_method_3_code
def yX11_end : MethodName := ⟨RX11, "end", "(I)Z"⟩
abbrev cX11_fault : ByteArray := prog_1_method_4_code
def yX11_fault : MethodName := ⟨RX11, "fault", "(I)I"⟩
abbrev cX11_text : ByteArray := prog_1_method_5_code
def yX11_text : MethodName := ⟨RX11, "text", "(I)I"⟩
abbrev cX11_level : ByteArray := prog_1_method_6_code
def yX11_level : MethodName := ⟨RX11, "level", "(II)I"⟩
abbrev cX11_family : ByteArray := prog_1_method_7_code
def yX11_family : MethodName := ⟨RX11, "family", "(II)I"⟩
abbrev cX11_hut : ByteArray := prog_1_method_8_code
def yX11_hut : MethodName := ⟨RX11, "hut", "(II)I"⟩
abbrev cX11_law : ByteArray := prog_1_method_9_code
def yX11_law : MethodName := ⟨RX11, "law", "(I)Z"⟩
abbrev cX11_set : ByteArray := prog_1_method_10_code
def yX11_set : MethodName := ⟨RX11, "set", "(II)Z"⟩
abbrev cX11_seed : ByteArray := prog_1_method_11_code
def yX11_seed : MethodName := ⟨RX11, "seed", "(J)Z"⟩
abbrev cX11_winters : ByteArray := prog_1_method_12_code
def yX11_winters : MethodName := ⟨RX11, "winters", "(I)I"⟩
abbrev cX11_spring : ByteArray := prog_1_method_13_code
def yX11_spring : MethodName := ⟨RX11, "spring", "()I"⟩
abbrev cX11_buy : ByteArray := prog_1_method_14_code
def yX11_buy : MethodName := ⟨RX11, "buy", "(II)I"⟩
abbrev cX11_undo : ByteArray := prog_1_method_15_code
def yX11_undo : MethodName := ⟨RX11, "undo", "()I"⟩
abbrev cX11_hush : ByteArray := prog_1_method_16_code
def yX11_hush : MethodName := ⟨RX11, "hush", "(IZ)Z"⟩
abbrev cX11_waiting : ByteArray := prog_1_method_17_code
def yX11_waiting : MethodName := ⟨RX11, "waiting", "()I"⟩
abbrev cX11_most : ByteArray := prog_1_method_18_code
def yX11_most : MethodName := ⟨RX11, "most", "(I)I"⟩
abbrev cX11_needs : ByteArray := prog_1_method_19_code
def yX11_needs : MethodName := ⟨RX11, "needs", "(I)I"⟩
abbrev cX11_odds : ByteArray := prog_1_method_20_code
def yX11_odds : MethodName := ⟨RX11, "odds", "(III)I"⟩
abbrev cX11_tried : ByteArray := prog_1_method_21_code
def yX11_tried : MethodName := ⟨RX11, "tried", "(IIII)I"⟩
abbrev cX11_reform : ByteArray := prog_1_method_22_code
def yX11_reform : MethodName := ⟨RX11, "reform", "(II)I"⟩
abbrev cX11_diary : ByteArray := prog_1_method_23_code
def yX11_diary : MethodName := ⟨RX11, "diary", "(III)I"⟩
abbrev cX11_climb : ByteArray := prog_1_method_24_code
def yX11_climb : MethodName := ⟨RX11, "climb", "(II)I"⟩
abbrev cX11_full : ByteArray := prog_1_method_25_code
def yX11_full : MethodName := ⟨RX11, "full", "()I"⟩
abbrev cX11_hungry : ByteArray := prog_1_method_26_code
def yX11_hungry : MethodName := ⟨RX11, "hungry", "(I)I"⟩
abbrev cX11_rank : ByteArray := prog_1_method_27_code
def yX11_rank : MethodName := ⟨RX11, "rank", "(I)I"⟩
abbrev cX11_met : ByteArray := prog_1_method_28_code
def yX11_met : MethodName := ⟨RX11, "met", "(III)I"⟩
abbrev cX11_leap : ByteArray := prog_1_method_29_code
def yX11_leap : MethodName := ⟨RX11, "leap", "(I)I"⟩
abbrev cX11_leanest : ByteArray := prog_1_method_30_code
def yX11_leanest : MethodName := ⟨RX11, "leanest", "(I)I"⟩
abbrev cX11_mean : ByteArray := prog_1_method_31_code
def yX11_mean : MethodName := ⟨RX11, "mean", "(II)J"⟩
abbrev cX11_advice : ByteArray := prog_1_method_32_code
def yX11_advice : MethodName := ⟨RX11, "advice", "(IIII)I"⟩
abbrev cX11_image : ByteArray := prog_1_method_33_code
def yX11_image : MethodName := ⟨RX11, "image", "()I"⟩
abbrev cX11_back : ByteArray := prog_1_method_34_code
def yX11_back : MethodName := ⟨RX11, "back", "()I"⟩
abbrev cX11_count : ByteArray := prog_1_method_35_code
def yX11_count : MethodName := ⟨RX11, "count", "(I)I"⟩
abbrev cX11_hasValley : ByteArray := prog_1_method_36_code
def yX11_hasValley : MethodName := ⟨RX11, "hasValley", "()Z"⟩
abbrev cX11_isLevel : ByteArray := prog_1_method_37_code
def yX11_isLevel : MethodName := ⟨RX11, "isLevel", "(I)Z"⟩
abbrev cX11_isFamily : ByteArray := prog_1_method_38_code
def yX11_isFamily : MethodName := ⟨RX11, "isFamily", "(I)Z"⟩
abbrev cX11_lives : ByteArray := prog_1_method_39_code
def yX11_lives : MethodName := ⟨RX11, "lives", "(I)Z"⟩
abbrev cX11_isLaw : ByteArray := prog_1_method_40_code
def yX11_isLaw : MethodName := ⟨RX11, "isLaw", "(I)Z"⟩
def RX12 : String := "HeadYearModel"
def TX12 : u_T := fun k => match k with
  | 0 => ("HeadYearModel", "thrown", "I", false)
  | 1 => ("HeadYearModel", "tape", "[I", true)
  | 2 => ("HeadYearModel", "size", "I", false)
  | 3 => ("HeadYearModel", "at", "I", false)
  | 4 => ("HeadYearModel", "wrong", "I", false)
  | 5 => ("HeadYearModel", "deep", "I", false)
  | 6 => ("HeadYearModel", "code", "[I", true)
  | 7 => ("HeadYearModel", "value", "[I", true)
  | 8 => ("HeadYearModel", "codes", "[I", true)
  | 9 => ("HeadYearModel", "clauses", "[I", true)
  | 10 => ("HeadYearModel", "testFrom", "[I", true)
  | 11 => ("HeadYearModel", "sumFrom", "[I", true)
  | 12 => ("HeadYearModel", "sumTo", "[I", true)
  | 13 => ("HeadYearModel", "laws", "I", false)
  | 14 => ("HeadYearModel", "text", "I", false)
  | 15 => ("HeadYearModel", "letters", "[I", true)
  | 16 => ("HeadYearModel", "stack", "[I", true)
  | 17 => ("HeadYearModel", "readLevel", "[I", true)
  | 18 => ("HeadYearModel", "readFamily", "[I", true)
  | 19 => ("HeadYearModel", "readLevels", "I", false)
  | 20 => ("HeadYearModel", "readFamilies", "I", false)
  | 21 => ("HeadYearModel", "levelRow", "[I", true)
  | 22 => ("HeadYearModel", "birth", "[I", true)
  | 23 => ("HeadYearModel", "twin", "[I", true)
  | 24 => ("HeadYearModel", "levels", "I", false)
  | 25 => ("HeadYearModel", "families", "I", false)
  | 26 => ("HeadYearModel", "now", "[I", true)
  | 27 => ("HeadYearModel", "aside", "[I", true)
  | 28 => ("HeadYearModel", "image", "[I", true)
  | 29 => ("HeadYearModel", "years", "I", false)
  | 30 => ("HeadYearModel", "draws", "J", false)
  | 31 => ("HeadYearModel", "holding", "I", false)
  | 32 => ("HeadYearModel", "find", "I", false)
  | 33 => ("HeadYearModel", "luck", "I", false)
  | 34 => ("HeadYearModel", "price", "I", false)
  | 35 => ("HeadYearModel", "lacks", "[I", true)
  | 36 => ("HeadYearModel", "toLevel", "[I", true)
  | 37 => ("HeadYearModel", "toHut", "[I", true)
  | 38 => ("HeadYearModel", "diaryLevel", "[I", true)
  | 39 => ("HeadYearModel", "diaryHeads", "[I", true)
  | 40 => ("HeadYearModel", "buyer", "[I", true)
  | 41 => ("HeadYearModel", "buyBy", "[I", true)
  | 42 => ("HeadYearModel", "buyCost", "[I", true)
  | 43 => ("HeadYearModel", "buys", "I", false)
  | 44 => ("HeadYearModel", "far", "[I", true)
  | 45 => ("HeadYearModel", "parts", "[J", true)
  | 46 => ("HeadYearModel", "then", "[J", true)
  | 47 => ("HeadYearModel", "dying", "[J", true)
  | 48 => ("HeadYearModel", "goneParts", "J", false)
  | 49 => ("HeadYearModel", "imageLevel", "[I", true)
  | 50 => ("HeadYearModel", "imageHeads", "[I", true)
  | 51 => ("HeadYearModel", "imageYears", "I", false)
  | 52 => ("HeadYearModel", "imageDraws", "J", false)
  | _ => ("HeadYearModel", "hasImage", "Z", false)
def tyX12 : Nat → FieldType := fun k => match k with
  | 0 => .int
  | 1 => .array .int
  | 2 => .int
  | 3 => .int
  | 4 => .int
  | 5 => .int
  | 6 => .array .int
  | 7 => .array .int
  | 8 => .array .int
  | 9 => .array .int
  | 10 => .array .int
  | 11 => .array .int
  | 12 => .array .int
  | 13 => .int
  | 14 => .int
  | 15 => .array .int
  | 16 => .array .int
  | 17 => .array .int
  | 18 => .array .int
  | 19 => .int
  | 20 => .int
  | 21 => .array .int
  | 22 => .array .int
  | 23 => .array .int
  | 24 => .int
  | 25 => .int
  | 26 => .array .int
  | 27 => .array .int
  | 28 => .array .int
  | 29 => .int
  | 30 => .long
  | 31 => .int
  | 32 => .int
  | 33 => .int
  | 34 => .int
  | 35 => .array .int
  | 36 => .array .int
  | 37 => .array .int
  | 38 => .array .int
  | 39 => .array .int
  | 40 => .array .int
  | 41 => .array .int
  | 42 => .array .int
  | 43 => .int
  | 44 => .array .int
  | 45 => .array .long
  | 46 => .array .long
  | 47 => .array .long
  | 48 => .long
  | 49 => .array .int
  | 50 => .array .int
  | 51 => .int
  | 52 => .long
  | _ => .boolean
theorem nmX12 : ∀ a, a < 54 → ∀ b, b < 54 → a ≠ b → (TX12 a).2.1 ≠ (TX12 b).2.1 := by decide +kernel
theorem tyX12_ok : ∀ k, k < 54 → parseFieldDescriptor (TX12 k).2.2.1 = some (tyX12 k) := by decide +kernel
abbrev cX12_in : ByteArray := prog_14_method_1_code
def yX12_in : MethodName := ⟨RX12, "in", "(III)Z"⟩
abbrev cX12_init : ByteArray := prog_14_method_3_code
def yX12_init : MethodName := ⟨RX12, "<init>", "()V"⟩
abbrev cX12_thrown : ByteArray := prog_14_method_4_code
def yX12_thrown : MethodName := ⟨RX12, "thrown", "()I"⟩
abbrev cX12_byteOf : ByteArray := prog_14_method_5_code
def yX12_byteOf : MethodName := ⟨RX12, "byteOf", "(IIIIII)I"⟩
abbrev cX12_feed : ByteArray := prog_14_method_6_code
def yX12_feed : MethodName := ⟨RX12, "feed", "(IIIII)I"⟩
abbrev cX12_end : ByteArray := prog_14_method_7_code
def yX12_end : MethodName := ⟨RX12, "end", "(I)Z"⟩
abbrev cX12_here : ByteArray := prog_14_method_8_code
def yX12_here : MethodName := ⟨RX12, "here", "()I"⟩
abbrev cX12_look : ByteArray := prog_14_method_9_code
def yX12_look : MethodName := ⟨RX12, "look", "()I"⟩
abbrev cX12_bad : ByteArray := prog_14_method_10_code
def yX12_bad : MethodName := ⟨RX12, "bad", "()V"⟩
abbrev cX12_clause : ByteArray := prog_14_method_26_code
def yX12_clause : MethodName := ⟨RX12, "clause", "()V"⟩
abbrev cX12_open : ByteArray := prog_14_method_27_code
def yX12_open : MethodName := ⟨RX12, "open", "(I)V"⟩
abbrev cX12_atEnd : ByteArray := prog_14_method_28_code
def yX12_atEnd : MethodName := ⟨RX12, "atEnd", "()I"⟩
abbrev cX12_readLaw : ByteArray := prog_14_method_29_code
def yX12_readLaw : MethodName := ⟨RX12, "readLaw", "(I)I"⟩
abbrev cX12_clauseText : ByteArray := prog_14_method_42_code
def yX12_clauseText : MethodName := ⟨RX12, "clauseText", "()V"⟩
abbrev cX12_readValley : ByteArray := prog_14_method_44_code
def yX12_readValley : MethodName := ⟨RX12, "readValley", "()I"⟩
abbrev cX12_fault : ByteArray := prog_14_method_45_code
def yX12_fault : MethodName := ⟨RX12, "fault", "(I)I"⟩
abbrev cX12_text : ByteArray := prog_14_method_55_code
def yX12_text : MethodName := ⟨RX12, "text", "(I)I"⟩
abbrev cX12_isLevel : ByteArray := prog_14_method_56_code
def yX12_isLevel : MethodName := ⟨RX12, "isLevel", "(I)Z"⟩
abbrev cX12_isFamily : ByteArray := prog_14_method_57_code
def yX12_isFamily : MethodName := ⟨RX12, "isFamily", "(I)Z"⟩
abbrev cX12_level : ByteArray := prog_14_method_60_code
def yX12_level : MethodName := ⟨RX12, "level", "(II)I"⟩
abbrev cX12_family : ByteArray := prog_14_method_63_code
def yX12_family : MethodName := ⟨RX12, "family", "(II)I"⟩
abbrev cX12_hut : ByteArray := prog_14_method_64_code
def yX12_hut : MethodName := ⟨RX12, "hut", "(II)I"⟩
abbrev cX12_law : ByteArray := prog_14_method_65_code
def yX12_law : MethodName := ⟨RX12, "law", "(I)Z"⟩
abbrev cX12_set : ByteArray := prog_14_method_66_code
def yX12_set : MethodName := ⟨RX12, "set", "(II)Z"⟩
abbrev cX12_seed : ByteArray := prog_14_method_67_code
def yX12_seed : MethodName := ⟨RX12, "seed", "(J)Z"⟩
abbrev cX12_winters : ByteArray := prog_14_method_80_code
def yX12_winters : MethodName := ⟨RX12, "winters", "(I)I"⟩
abbrev cX12_spring : ByteArray := prog_14_method_81_code
def yX12_spring : MethodName := ⟨RX12, "spring", "()I"⟩
abbrev cX12_buy : ByteArray := prog_14_method_82_code
def yX12_buy : MethodName := ⟨RX12, "buy", "(II)I"⟩
abbrev cX12_undo : ByteArray := prog_14_method_83_code
def yX12_undo : MethodName := ⟨RX12, "undo", "()I"⟩
abbrev cX12_hush : ByteArray := prog_14_method_84_code
def yX12_hush : MethodName := ⟨RX12, "hush", "(IZ)Z"⟩
abbrev cX12_waiting : ByteArray := prog_14_method_86_code
def yX12_waiting : MethodName := ⟨RX12, "waiting", "()I"⟩
abbrev cX12_most : ByteArray := prog_14_method_88_code
def yX12_most : MethodName := ⟨RX12, "most", "(I)I"⟩
abbrev cX12_needs : ByteArray := prog_14_method_89_code
def yX12_needs : MethodName := ⟨RX12, "needs", "(I)I"⟩
abbrev cX12_odds : ByteArray := prog_14_method_93_code
def yX12_odds : MethodName := ⟨RX12, "odds", "(III)I"⟩
abbrev cX12_isTrial : ByteArray := prog_14_method_95_code
def yX12_isTrial : MethodName := ⟨RX12, "isTrial", "(II)Z"⟩
abbrev cX12_tried : ByteArray := prog_14_method_96_code
def yX12_tried : MethodName := ⟨RX12, "tried", "(IIII)I"⟩
abbrev cX12_reform : ByteArray := prog_14_method_97_code
def yX12_reform : MethodName := ⟨RX12, "reform", "(II)I"⟩
abbrev cX12_diary : ByteArray := prog_14_method_98_code
def yX12_diary : MethodName := ⟨RX12, "diary", "(III)I"⟩
abbrev cX12_climb : ByteArray := prog_14_method_99_code
def yX12_climb : MethodName := ⟨RX12, "climb", "(II)I"⟩
abbrev cX12_full : ByteArray := prog_14_method_100_code
def yX12_full : MethodName := ⟨RX12, "full", "()I"⟩
abbrev cX12_hungry : ByteArray := prog_14_method_101_code
def yX12_hungry : MethodName := ⟨RX12, "hungry", "(I)I"⟩
abbrev cX12_rank : ByteArray := prog_14_method_102_code
def yX12_rank : MethodName := ⟨RX12, "rank", "(I)I"⟩
abbrev cX12_met : ByteArray := prog_14_method_103_code
def yX12_met : MethodName := ⟨RX12, "met", "(III)I"⟩
abbrev cX12_leap : ByteArray := prog_14_method_104_code
def yX12_leap : MethodName := ⟨RX12, "leap", "(I)I"⟩
abbrev cX12_leanest : ByteArray := prog_14_method_106_code
def yX12_leanest : MethodName := ⟨RX12, "leanest", "(I)I"⟩
abbrev cX12_mean : ByteArray := prog_14_method_107_code
def yX12_mean : MethodName := ⟨RX12, "mean", "(II)J"⟩
abbrev cX12_advice : ByteArray := prog_14_method_109_code
def yX12_advice : MethodName := ⟨RX12, "advice", "(IIII)I"⟩
abbrev cX12_image : ByteArray := prog_14_method_110_code
def yX12_image : MethodName := ⟨RX12, "image", "()I"⟩
abbrev cX12_back : ByteArray := prog_14_method_111_code
def yX12_back : MethodName := ⟨RX12, "back", "()I"⟩
abbrev cX12_count : ByteArray := prog_14_method_113_code
def yX12_count : MethodName := ⟨RX12, "count", "(I)I"⟩
def RJx145de : String := "java/io/Serializable"
def TJx145de : u_T := fun k => match k with
  | _ => ("", "", "", false)
def tyJx145de : Nat → FieldType := fun k => match k with
  | _ => .int
abbrev wsJx145de0 : List Cond := u_ws RJx145de TJx145de 0
theorem nmJx145de : ∀ a, a < 0 → ∀ b, b < 0 → a ≠ b → (TJx145de a).2.1 ≠ (TJx145de b).2.1 := by decide +kernel
theorem tyJx145de_ok : ∀ k, k < 0 → parseFieldDescriptor (TJx145de k).2.2.1 = some (tyJx145de k) := by decide +kernel
def RJ6 : String := "java/lang/Integer"
def TJ6 : u_T := fun k => match k with
  | _ => ("", "", "", false)
def tyJ6 : Nat → FieldType := fun k => match k with
  | _ => .int
abbrev wsJ60 : List Cond := u_ws RJ6 TJ6 0
theorem nmJ6 : ∀ a, a < 0 → ∀ b, b < 0 → a ≠ b → (TJ6 a).2.1 ≠ (TJ6 b).2.1 := by decide +kernel
theorem tyJ6_ok : ∀ k, k < 0 → parseFieldDescriptor (TJ6 k).2.2.1 = some (tyJ6 k) := by decide +kernel
abbrev cJ6_bitCount_0f7a4 : ByteArray := prog_17_method_49_code
def yJ6_bitCount_0f7a4 : MethodName := ⟨RJ6, "bitCount", "(I)I"⟩
def RJ9 : String := "java/lang/Math"
def TJ9 : u_T := fun k => match k with
  | _ => ("", "", "", false)
def tyJ9 : Nat → FieldType := fun k => match k with
  | _ => .int
abbrev wsJ90 : List Cond := u_ws RJ9 TJ9 0
theorem nmJ9 : ∀ a, a < 0 → ∀ b, b < 0 → a ≠ b → (TJ9 a).2.1 ≠ (TJ9 b).2.1 := by decide +kernel
theorem tyJ9_ok : ∀ k, k < 0 → parseFieldDescriptor (TJ9 k).2.2.1 = some (tyJ9 k) := by decide +kernel
abbrev cJ9_abs_0f7a4 : ByteArray := prog_18_method_59_code
def yJ9_abs_0f7a4 : MethodName := ⟨RJ9, "abs", "(I)I"⟩
abbrev cJ9_max_7cf53 : ByteArray := prog_18_method_65_code
def yJ9_max_7cf53 : MethodName := ⟨RJ9, "max", "(II)I"⟩
abbrev cJ9_max_f86c9 : ByteArray := prog_18_method_66_code
def yJ9_max_f86c9 : MethodName := ⟨RJ9, "max", "(JJ)J"⟩
abbrev cJ9_min_7cf53 : ByteArray := prog_18_method_69_code
def yJ9_min_7cf53 : MethodName := ⟨RJ9, "min", "(II)I"⟩
abbrev cJ9_min_f86c9 : ByteArray := prog_18_method_70_code
def yJ9_min_f86c9 : MethodName := ⟨RJ9, "min", "(JJ)J"⟩
def RJ7 : String := "java/util/Arrays"
def TJ7 : u_T := fun k => match k with
  | _ => ("", "", "", false)
def tyJ7 : Nat → FieldType := fun k => match k with
  | _ => .int
abbrev wsJ70 : List Cond := u_ws RJ7 TJ7 0
theorem nmJ7 : ∀ a, a < 0 → ∀ b, b < 0 → a ≠ b → (TJ7 a).2.1 ≠ (TJ7 b).2.1 := by decide +kernel
theorem tyJ7_ok : ∀ k, k < 0 → parseFieldDescriptor (TJ7 k).2.2.1 = some (tyJ7 k) := by decide +kernel
abbrev cJ7_fill_d0a16 : ByteArray := prog_21_method_101_code
def yJ7_fill_d0a16 : MethodName := ⟨RJ7, "fill", "([JJ)V"⟩
abbrev cJ7_fill_53178 : ByteArray := prog_21_method_103_code
def yJ7_fill_53178 : MethodName := ⟨RJ7, "fill", "([II)V"⟩
def RL : String := "HeadYearLaw"
abbrev cL_level : ByteArray := method_3_code
def yL_level : MethodName := ⟨RL, "level", "(LHeadYear;II[J)I"⟩
abbrev cL_law : ByteArray := code
def yL_law : MethodName := ⟨RL, "law", "([I)Z"⟩
def wsJ6_bitCount_0f7a4 : List Cond := .code yJ6_bitCount_0f7a4 cJ6_bitCount_0f7a4 1 (some .int) :: ([.constant RJ6 265 (1431655765), .constant RJ6 266 (858993459), .constant RJ6 267 (252645135)])
def wsJ7_fill_53178 : List Cond := .code yJ7_fill_53178 cJ7_fill_53178 4 none :: ([])
def wsJ7_fill_d0a16 : List Cond := .code yJ7_fill_d0a16 cJ7_fill_d0a16 5 none :: ([])
def wsJ9_abs_0f7a4 : List Cond := .code yJ9_abs_0f7a4 cJ9_abs_0f7a4 1 (some .int) :: ([])
def wsJ9_max_7cf53 : List Cond := .code yJ9_max_7cf53 cJ9_max_7cf53 2 (some .int) :: ([])
def wsJ9_max_f86c9 : List Cond := .code yJ9_max_f86c9 cJ9_max_f86c9 4 (some .long) :: ([])
def wsJ9_min_7cf53 : List Cond := .code yJ9_min_7cf53 cJ9_min_7cf53 2 (some .int) :: ([])
def wsJ9_min_f86c9 : List Cond := .code yJ9_min_f86c9 cJ9_min_f86c9 4 (some .long) :: ([])
abbrev vwCl : List vw_C := [(RX0, TX0, 5), (RX1, TX1, 3), (RX2, TX2, 12), (RX3, TX3, 3), (RX4, TX4, 1), (RX5, TX5, 1), (RX6, TX6, 7), (RX7, TX7, 5), (RX8, TX8, 4), (RX9, TX9, 10), (RX10, TX10, 2), (RX11, TX11, 16), (RX12, TX12, 54)]
end
section
/-! THE LAYER: all objects in one pool, an address to its row by a function; a row of a walk here is one of the kit's with the pool's bookkeeping done. -/
abbrev py_E : Type := va_G × ClassId × ClassId × ClassId × ClassId
abbrev py_F : Type := Nat → va_E
abbrev py_ty (E : py_E) : List (ClassId × FieldType) := [(E.2.1, .int), (E.2.2.1, .long), (E.2.2.2.1, .boolean), (E.2.2.2.2, .object RX3)]
/-- what of the tables isn't a good word: the array class of the laws, the private constructors of nest mates -/
def py_nest : List (String × Nat × MethodName) := [(RX11, 9, yX8_init), (RX11, 18, yX10_init), (RX10, 17, yX9_init), (RX11, 25, yX4_init), (RX4, 11, yX3_init), (RX11, 46, yX2_init), (RX2, 42, yX9_init), (RX11, 59, yX1_init), (RX11, 66, yX0_init), (RX11, 73, yX7_init), (RX11, 80, yX5_init), (RX11, 362, yX3_init)]
def py_X (U : State) : Prop := va_AO RX3 U ∧ ∀ q ∈ py_nest, va_Nw (.methodLinkNest q.1 q.2.1 q.2.2 "HeadYear") U
theorem py_X.same {u U : State} (h : u.vm = U.vm) (x : py_X u) : py_X U := ⟨va_AO.moved (by rw [h]; exact Vm.Alike.refl U.vm) x.1, fun q hq => va_Nw.same rfl h (x.2 q hq)⟩
theorem py_X.warm {s U : State} (hW : s.WarmedH U.vm) (x : py_X s) : py_X U := ⟨va_AO.moved hW.alike x.1, fun q hq => va_Nw.warmM hW (x.2 q hq)⟩
/-- the world, inside a method begun at s: the pool's addresses L, each with what f says of it -/
def py_W (E : py_E) (A : Nat → Prop) (s : State) (L : List Nat) (f : py_F) (H : Heap) (locs : List Loc) : Prop :=
  (va_K E.1 vwCl (py_ty E) s ∧ py_X s) ∧ va_P E.1 vwCl (va_pl L f) H ∧ va_D A (va_pl L f) ∧ va_S A s.heap H locs ∧ ∀ q : Nat, s.heap.size ≤ q → A q
/-- at a lies e -/
def py_at (L : List Nat) (f : py_F) (a : Nat) (e : va_E) : Prop := a ∈ L ∧ f a = e
theorem py_at.get {L : List Nat} {f : py_F} {a : Nat} {e : va_E} (h : py_at L f a e) : ∃ k : Nat, (va_pl L f)[k]? = some (a, e) := by
  obtain ⟨k, hk⟩ := va_pl_get (X := []) (f := f) h.1
  rw [h.2] at hk
  exact ⟨k, hk⟩
/-- what lay there lies there still -/
def py_ext (L : List Nat) (f : py_F) (L' : List Nat) (f' : py_F) (a : Nat) : Prop := ∀ b : Nat, b ∈ L → b ≠ a → b ∈ L' ∧ f' b = f b
theorem py_at.ext {L L' : List Nat} {f f' : py_F} {a b : Nat} {e : va_E} (h : py_at L f b e) (x : py_ext L f L' f' a) (hn : b ≠ a) : py_at L' f' b e := by
  obtain ⟨h1, h2⟩ := x b h.1 hn
  exact ⟨h1, h2.trans h.2⟩
def py_all (L : List Nat) (f : py_F) (L' : List Nat) (f' : py_F) : Prop := ∀ b : Nat, b ∈ L → b ∈ L' ∧ f' b = f b
theorem py_at.all {L L' : List Nat} {f f' : py_F} {b : Nat} {e : va_E} (h : py_at L f b e) (x : py_all L f L' f') : py_at L' f' b e := by
  obtain ⟨h1, h2⟩ := x b h.1
  exact ⟨h1, h2.trans h.2⟩
theorem py_ne_kind {L : List Nat} {f : py_F} {a b i j : Nat} {x y : List Value} (ha : py_at L f a (.inr (i, x))) (hb : py_at L f b (.inr (j, y))) (h : i ≠ j) : a ≠ b := by
  intro e
  subst e
  have h1 := ha.2.symm.trans hb.2
  injection h1 with h2
  exact h (congrArg Prod.fst h2)
theorem py_ne_arr {L : List Nat} {f : py_F} {a b i : Nat} {x : List Value} {y : ClassId × vp_A} (ha : py_at L f a (.inr (i, x))) (hb : py_at L f b (.inl y)) : a ≠ b := by
  intro e
  subst e
  have h1 := ha.2.symm.trans hb.2
  cases h1
theorem py_ne_new {L : List Nat} {f : py_F} {a q : Nat} {e : va_E} (ha : py_at L f a e) (hq : q ∉ L) : a ≠ q := fun h => hq (h ▸ ha.1)
/-- a contract's start -/
def py_Pc (E : py_E) (av : List Value) (L : List Nat) (f : py_F) (sz : Nat) : Array Value → State → Prop := va_Pc av (fun U => U.heap.size = sz ∧ va_P E.1 vwCl (va_pl L f) U.heap ∧ (va_K E.1 vwCl (py_ty E) U ∧ py_X U) ∧ va_D (fun _ => True) (va_pl L f))
/-- the world behind it -/
def py_B (E : py_E) (A : Nat → Prop) (u : List Nat × py_F) (t : State) : Prop := va_P E.1 vwCl (va_pl u.1 u.2) t.heap ∧ va_D A (va_pl u.1 u.2)
def py_Qi (E : py_E) (L : List Nat) (f : py_F) (sz : Nat) (post : Int32 → List Nat → py_F → Prop) : Array Value → State → Outcome → State → Prop := va_Qi (fun (r : Int32) (u : List Nat × py_F) => post r u.1 u.2) (py_B E (va_A (va_pl L f) sz)) (va_A (va_pl L f) sz)
def py_Ql (E : py_E) (L : List Nat) (f : py_F) (sz : Nat) (post : Int64 → List Nat → py_F → Prop) : Array Value → State → Outcome → State → Prop := va_Ql (fun (r : Int64) (u : List Nat × py_F) => post r u.1 u.2) (py_B E (va_A (va_pl L f) sz)) (va_A (va_pl L f) sz)
def py_Qv (E : py_E) (L : List Nat) (f : py_F) (sz : Nat) (post : List Nat → py_F → Prop) : Array Value → State → Outcome → State → Prop := va_Qv (fun (u : List Nat × py_F) => post u.1 u.2) (py_B E (va_A (va_pl L f) sz)) (va_A (va_pl L f) sz)
def py_Qr (E : py_E) (L : List Nat) (f : py_F) (sz : Nat) (post : Nat → List Nat → py_F → Prop) : Array Value → State → Outcome → State → Prop := va_Qr (fun (_ : List Nat × py_F) => True) (fun (u : List Nat × py_F) (a : Nat) (t : State) => post a u.1 u.2 ∧ py_B E (va_A (va_pl L f) sz) u t) (va_A (va_pl L f) sz)
theorem py_blind {E : py_E} {av : List Value} {L : List Nat} {f : py_F} {sz : Nat} : FrameBlind (py_Pc E av L f sz) := fun a U g mk q => by
  obtain ⟨q0, q1, qP, qK, qD⟩ := q
  exact ⟨q0, q1, qP, ⟨va_K.moved (u := U) (U := U.calling g mk a) (Vm.Alike.refl U.vm) qK.1, py_X.same (u := U) (U := U.calling g mk a) rfl qK.2⟩, qD⟩
theorem py_start {E : py_E} {av : List Value} {L : List Nat} {f : py_F} {sz : Nat} {a : Array Value} {s : State} (h : py_Pc E av L f sz a s) : a = av.toArray ∧ s.heap.size = sz ∧ py_W E (va_A (va_pl L f) sz) s L f s.heap [] := by
  obtain ⟨q0, q1, qP, qK, qD⟩ := h
  subst q1
  exact ⟨q0, rfl, qK, qP, qD.self, va_S.rf, fun q h => Or.inr h⟩
section PYR
variable {p : Program} {l : Launch} {e : Env} {R : Room} {s : State} {m : MethodId} {args : Array Value} {below : List Frame} {meth : Method} {c : Code} {H : Heap} {locs : List Loc} {cells slots : Nat} {Q : State → Prop}
variable {cc : ByteArray} {nL pc : Nat} {ls : Array Slot} {rest : List Value} {E : py_E} {A : Nat → Prop} {L : List Nat} {f : py_F} {Ts : List Cond} {own : String} {a : Nat}
theorem py_get (G : CallFix p m c cc nL s args Ts own) (hw : py_W E A s L f H locs) {C : String} {T : u_T} {N ci index k : Nat} {fs : List Value} {v : Value} (hin : ∀ w ∈ u_ws C T N, w ∈ Ts) (hc : vwCl[ci]? = some (C, T, N)) (hf : py_at L f a (.inr (ci, fs))) (hk : k < N) (hlink : Cond.fieldLink own index (T k).1 (T k).2.1 (T k).2.2.1 ∈ Ts) (hv : fs[k]? = some v) (hdg : decode cc pc = .ok (.getfield index, 3))
    (kk : W p l e R s m args below meth c H locs cells slots Q (F0 m (pc + 3) ls (v :: rest))) : W p l e R s m args below meth c H locs cells slots Q (F0 m pc ls (.ref a :: rest)) := by
  obtain ⟨q0, hq⟩ := hf.get
  exact va_get G.1 G.2.1 G.2.2.2.2 hin G.2.2.2.1 hw.1.1 hw.2.1 q0 hq hc k hk (G.2.2.2.2 _ hlink) (fun _ h => h) hv hdg kk
theorem py_upd {fs : va_E} {e2 : va_E} {q0 : Nat} (hD : va_D A (va_pl L f)) (hf : py_at L f a fs) (hq : (va_pl L f)[q0]? = some (a, fs)) : (va_pl L f).set q0 (a, e2) = va_pl L (va_up f a e2) := by
  have hq2 : ([] ++ va_pl L f)[q0]? = some (a, f a) := by rw [hf.2]; exact hq
  exact va_pl_set (X := []) hD hf.1 hq2
theorem py_put (G : CallFix p m c cc nL s args Ts own) (hw : py_W E A s L f H locs) {C : String} {T : u_T} {N ci index k : Nat} {fs fs' : List Value} {v : Value} {ty : FieldType} {ty0 : Nat → FieldType} (hty : ∀ k, k < N → parseFieldDescriptor (T k).2.2.1 = some (ty0 k)) (hnm : ∀ a, a < N → ∀ b, b < N → a ≠ b → (T a).2.1 ≠ (T b).2.1) (hin : ∀ w ∈ u_ws C T N, w ∈ Ts) (hc : vwCl[ci]? = some (C, T, N)) (hf : py_at L f a (.inr (ci, fs))) (hk : k < N) (hlink : Cond.fieldLink own index (T k).1 (T k).2.1 (T k).2.2.1 ∈ Ts) (hfin : (T k).2.2.2 = false) (hd : parseFieldDescriptor (T k).2.2.1 = some ty) (hn : narrow ty v = v) (hfit : fits ty v = true) (hl : k < fs.length) (hs : fs.set k v = fs') (hdg : decode cc pc = .ok (.putfield index, 3))
    (kk : ∀ (f' : py_F) (H' : Heap) (locs' : List Loc), py_at L f' a (.inr (ci, fs')) → py_ext L f L f' a → py_W E A s L f' H' locs' → W p l e R s m args below meth c H' locs' cells slots Q (F0 m (pc + 3) ls rest)) : W p l e R s m args below meth c H locs cells slots Q (F0 m pc ls (v :: .ref a :: rest)) := by
  obtain ⟨q0, hq⟩ := hf.get
  subst hs
  refine va_put G.1 G.2.1 G.2.2.2.2 hin ty0 hty hnm G.2.2.2.1 hw.1.1 hw.2.1 hw.2.2.1 hw.2.2.2.1 q0 hq hc k hk (G.2.2.2.2 _ hlink) (fun _ h => h) hfin hd hn hfit hl hdg (fun H1 locs1 hP1 hD1 hS1 => ?_)
  rw [py_upd hw.2.2.1 hf hq] at hP1 hD1
  exact kk _ H1 locs1 ⟨hf.1, va_up_self _ _ _⟩ (fun b hb hn => ⟨hb, va_up_ne _ _ hn⟩) ⟨hw.1, hP1, hD1, hS1, hw.2.2.2.2⟩
theorem py_putF (G : CallFix p m c cc nL s args Ts own) (hini : meth.name = "<init>") (hw : py_W E A s L f H locs) {C : String} {T : u_T} {N ci index k : Nat} {fs fs' : List Value} {v : Value} {ty : FieldType} {ty0 : Nat → FieldType} (hty : ∀ k, k < N → parseFieldDescriptor (T k).2.2.1 = some (ty0 k)) (hnm : ∀ a, a < N → ∀ b, b < N → a ≠ b → (T a).2.1 ≠ (T b).2.1) (hin : ∀ w ∈ u_ws C T N, w ∈ Ts) (hc : vwCl[ci]? = some (C, T, N)) (hf : py_at L f a (.inr (ci, fs))) (hk : k < N) (hlink : Cond.fieldLink own index (T k).1 (T k).2.1 (T k).2.2.1 ∈ Ts) (hfin : (T k).2.2.2 = true) (hdecl : (T k).1 = own) (hd : parseFieldDescriptor (T k).2.2.1 = some ty) (hn : narrow ty v = v) (hfit : fits ty v = true) (hl : k < fs.length) (hs : fs.set k v = fs') (hdg : decode cc pc = .ok (.putfield index, 3))
    (kk : ∀ (f' : py_F) (H' : Heap) (locs' : List Loc), py_at L f' a (.inr (ci, fs')) → py_ext L f L f' a → py_W E A s L f' H' locs' → W p l e R s m args below meth c H' locs' cells slots Q (F0 m (pc + 3) ls rest)) : W p l e R s m args below meth c H locs cells slots Q (F0 m pc ls (v :: .ref a :: rest)) := by
  obtain ⟨q0, hq⟩ := hf.get
  subst hs
  refine va_putF G.1 G.2.1 G.2.2.2.2 hin ty0 hty hnm G.2.2.2.1 hw.1.1 hw.2.1 hw.2.2.1 hw.2.2.2.1 q0 hq hc k hk (G.2.2.2.2 _ hlink) (fun _ h => h) hfin hini hdecl hd hn hfit hl hdg (fun H1 locs1 hP1 hD1 hS1 => ?_)
  rw [py_upd hw.2.2.1 hf hq] at hP1 hD1
  exact kk _ H1 locs1 ⟨hf.1, va_up_self _ _ _⟩ (fun b hb hn => ⟨hb, va_up_ne _ _ hn⟩) ⟨hw.1, hP1, hD1, hS1, hw.2.2.2.2⟩
theorem py_push {q : Nat} {e2 : va_E} (ha : q ∉ L) : (va_pl L f) ++ [(q, e2)] = va_pl (L ++ [q]) (va_up f q e2) := va_pl_push ha
theorem py_apart {q : Nat} {e2 : va_E} (hD : va_D A (va_pl L f ++ [(q, e2)])) : q ∉ L := by
  intro h
  obtain ⟨k, hk⟩ := va_pl_get (X := []) (f := f) h
  have hk : (va_pl L f)[k]? = some (q, f q) := hk
  have hl := (List.getElem?_eq_some_iff.mp hk).1
  have h1 : (va_pl L f ++ [(q, e2)])[k]? = some (q, f q) := by rw [List.getElem?_append_left hl]; exact hk
  have h2 : (va_pl L f ++ [(q, e2)])[(va_pl L f).length]? = some (q, e2) := by rw [List.getElem?_append_right (Nat.le_refl _), Nat.sub_self]; rfl
  have := hD.1 _ _ _ _ h1 h2 rfl
  omega
theorem py_pushed {q : Nat} {e2 : va_E} (ha : q ∉ L) : py_all L f (L ++ [q]) (va_up f q e2) := fun b hb => ⟨List.mem_append_left _ hb, va_up_ne _ _ (fun h => ha (h ▸ hb))⟩
theorem py_new (G : CallFix p m c cc nL s args Ts own) (hw : py_W E A s L f H locs) {C : String} {T : u_T} {N ci index : Nat} {fs : List Value} {ty0 : Nat → FieldType} (hty : ∀ k, k < N → parseFieldDescriptor (T k).2.2.1 = some (ty0 k)) (hin : ∀ w ∈ u_ws C T N, w ∈ Ts) (hc : vwCl[ci]? = some (C, T, N)) (hcl : Cond.classLink own index C ∈ Ts) (hinst : Cond.instantiable C N ∈ Ts) (hini : Cond.initialized C ∈ Ts) (hfs : ∀ j, j < N → defaultValue (ty0 j) = vp_V fs j) (hcells : cells + 1 ≤ R.cells) (hslots : slots + N ≤ R.slots) (hdg : decode cc pc = .ok (.new index, 3))
    (kk : ∀ (q : Nat) (L' : List Nat) (f' : py_F) (H' : Heap), q ∉ L → py_at L' f' q (.inr (ci, fs)) → py_all L f L' f' → py_W E A s L' f' H' locs → W p l e R s m args below meth c H' locs (cells + 1) (slots + N) Q (F0 m (pc + 3) ls (.ref q :: rest))) : W p l e R s m args below meth c H locs cells slots Q (F0 m pc ls rest) := by
  refine va_new G.1 G.2.1 G.2.2.2.2 hin ty0 hty G.2.2.2.1 (G.2.2.2.2 _ hcl) (G.2.2.2.2 _ hinst) (G.2.2.2.2 _ hini) hw.1.1 hw.2.1 hw.2.2.1 hw.2.2.2.1 hw.2.2.2.2 hc hfs hcells hslots hdg (fun q H1 hP1 hD1 hS1 => ?_)
  have hq := py_apart hD1
  rw [py_push hq] at hP1 hD1
  exact kk q _ _ H1 hq ⟨List.mem_append_right _ List.mem_cons_self, va_up_self _ _ _⟩ (py_pushed hq) ⟨hw.1, hP1, hD1, hS1, hw.2.2.2.2⟩
theorem py_newI (G : CallFix p m c cc nL s args Ts own) (hw : py_W E A s L f H locs) (harr : Cond.arrayClass .int ∈ Ts) {n : Int32} {N : Nat} (hn : ¬ n < 0) (hN : n.toNatClampNeg = N) (hbytes : N * 4 ≤ 536870912) (hcells : cells + 1 ≤ R.cells) (hslots : slots + N ≤ R.slots) (hdg : decode cc pc = .ok (.newarray .int, 2))
    (kk : ∀ (q : Nat) (L' : List Nat) (f' : py_F) (H' : Heap), q ∉ L → py_at L' f' q (.inl (E.2.1, N, .inl (fun _ => 0))) → py_all L f L' f' → py_W E A s L' f' H' locs → W p l e R s m args below meth c H' locs (cells + 1) (slots + N) Q (F0 m (pc + 2) ls (.ref q :: rest))) : W p l e R s m args below meth c H locs cells slots Q (F0 m pc ls (.int n :: rest)) := by
  refine va_newa (atype := .int) (ty := .int) (a0 := (N, .inl (fun _ => 0))) G.1 G.2.1 (G.2.2.2.2 _ harr) rfl hw.1.1 hw.2.1 hw.2.2.1 hw.2.2.2.1 hw.2.2.2.2 (fun _ => rfl) hn hN hbytes hcells hslots hdg (fun q cA H1 hK1 hP1 hD1 hS1 => ?_)
  have h4 : s.vm.findClass ("[" ++ FieldType.int.toString) = some cA := (hK1.2 4 _ rfl).2
  have h0 : s.vm.findClass ("[" ++ FieldType.int.toString) = some E.2.1 := (hK1.2 0 _ rfl).2
  have hc : cA = E.2.1 := Option.some.inj (h4.symm.trans h0)
  subst hc
  have hq := py_apart hD1
  rw [py_push hq] at hP1 hD1
  exact kk q _ _ H1 hq ⟨List.mem_append_right _ List.mem_cons_self, va_up_self _ _ _⟩ (py_pushed hq) ⟨hw.1, hP1, hD1, hS1, hw.2.2.2.2⟩
theorem py_newJ (G : CallFix p m c cc nL s args Ts own) (hw : py_W E A s L f H locs) (harr : Cond.arrayClass .long ∈ Ts) {n : Int32} {N : Nat} (hn : ¬ n < 0) (hN : n.toNatClampNeg = N) (hbytes : N * 8 ≤ 536870912) (hcells : cells + 1 ≤ R.cells) (hslots : slots + N ≤ R.slots) (hdg : decode cc pc = .ok (.newarray .long, 2))
    (kk : ∀ (q : Nat) (L' : List Nat) (f' : py_F) (H' : Heap), q ∉ L → py_at L' f' q (.inl (E.2.2.1, N, .inr (.inl (fun _ => 0)))) → py_all L f L' f' → py_W E A s L' f' H' locs → W p l e R s m args below meth c H' locs (cells + 1) (slots + N) Q (F0 m (pc + 2) ls (.ref q :: rest))) : W p l e R s m args below meth c H locs cells slots Q (F0 m pc ls (.int n :: rest)) := by
  refine va_newa (atype := .long) (ty := .long) (a0 := (N, .inr (.inl (fun _ => 0)))) G.1 G.2.1 (G.2.2.2.2 _ harr) rfl hw.1.1 hw.2.1 hw.2.2.1 hw.2.2.2.1 hw.2.2.2.2 (fun _ => rfl) hn hN hbytes hcells hslots hdg (fun q cA H1 hK1 hP1 hD1 hS1 => ?_)
  have h4 : s.vm.findClass ("[" ++ FieldType.long.toString) = some cA := (hK1.2 4 _ rfl).2
  have h0 : s.vm.findClass ("[" ++ FieldType.long.toString) = some E.2.2.1 := (hK1.2 1 _ rfl).2
  have hc : cA = E.2.2.1 := Option.some.inj (h4.symm.trans h0)
  subst hc
  have hq := py_apart hD1
  rw [py_push hq] at hP1 hD1
  exact kk q _ _ H1 hq ⟨List.mem_append_right _ List.mem_cons_self, va_up_self _ _ _⟩ (py_pushed hq) ⟨hw.1, hP1, hD1, hS1, hw.2.2.2.2⟩
theorem py_newZ (G : CallFix p m c cc nL s args Ts own) (hw : py_W E A s L f H locs) (harr : Cond.arrayClass .boolean ∈ Ts) {n : Int32} {N : Nat} (hn : ¬ n < 0) (hN : n.toNatClampNeg = N) (hbytes : N * 1 ≤ 536870912) (hcells : cells + 1 ≤ R.cells) (hslots : slots + N ≤ R.slots) (hdg : decode cc pc = .ok (.newarray .boolean, 2))
    (kk : ∀ (q : Nat) (L' : List Nat) (f' : py_F) (H' : Heap), q ∉ L → py_at L' f' q (.inl (E.2.2.2.1, N, .inl (fun _ => 0))) → py_all L f L' f' → py_W E A s L' f' H' locs → W p l e R s m args below meth c H' locs (cells + 1) (slots + N) Q (F0 m (pc + 2) ls (.ref q :: rest))) : W p l e R s m args below meth c H locs cells slots Q (F0 m pc ls (.int n :: rest)) := by
  refine va_newa (atype := .boolean) (ty := .boolean) (a0 := (N, .inl (fun _ => 0))) G.1 G.2.1 (G.2.2.2.2 _ harr) rfl hw.1.1 hw.2.1 hw.2.2.1 hw.2.2.2.1 hw.2.2.2.2 (fun _ => rfl) hn hN hbytes hcells hslots hdg (fun q cA H1 hK1 hP1 hD1 hS1 => ?_)
  have h4 : s.vm.findClass ("[" ++ FieldType.boolean.toString) = some cA := (hK1.2 4 _ rfl).2
  have h0 : s.vm.findClass ("[" ++ FieldType.boolean.toString) = some E.2.2.2.1 := (hK1.2 2 _ rfl).2
  have hc : cA = E.2.2.2.1 := Option.some.inj (h4.symm.trans h0)
  subst hc
  have hq := py_apart hD1
  rw [py_push hq] at hP1 hD1
  exact kk q _ _ H1 hq ⟨List.mem_append_right _ List.mem_cons_self, va_up_self _ _ _⟩ (py_pushed hq) ⟨hw.1, hP1, hD1, hS1, hw.2.2.2.2⟩
theorem py_newR (G : CallFix p m c cc nL s args Ts own) (hw : py_W E A s L f H locs) {index : Nat} (hcl : Cond.classLink own index RX3 ∈ Ts) {n : Int32} {N : Nat} (hn : ¬ n < 0) (hN : n.toNatClampNeg = N) (hbytes : N * 4 ≤ 536870912) (hcells : cells + 1 ≤ R.cells) (hslots : slots + N ≤ R.slots) (hdg : decode cc pc = .ok (.anewarray index, 3))
    (kk : ∀ (q : Nat) (L' : List Nat) (f' : py_F) (H' : Heap), q ∉ L → py_at L' f' q (.inl (E.2.2.2.2, N, .inr (.inr (.inr (.inr (fun _ => none)))))) → py_all L f L' f' → py_W E A s L' f' H' locs → W p l e R s m args below meth c H' locs (cells + 1) (slots + N) Q (F0 m (pc + 3) ls (.ref q :: rest))) : W p l e R s m args below meth c H locs cells slots Q (F0 m pc ls (.int n :: rest)) := by
  refine va_newq G.1 G.2.1 G.2.2.2.1 (G.2.2.2.2 _ hcl) hw.1.2.1 hw.1.1 hw.2.1 hw.2.2.1 hw.2.2.2.1 hw.2.2.2.2 hn hN hbytes hcells hslots hdg (fun q cA H1 hK1 hP1 hD1 hS1 => ?_)
  obtain ⟨kA, comp, -, -, -, h4⟩ : va_RA s cA (.object RX3) := (hK1.2 4 _ rfl).2
  obtain ⟨kB, comp2, -, -, -, h0⟩ : va_RA s E.2.2.2.2 (.object RX3) := (hK1.2 3 _ rfl).2
  have hc : cA = E.2.2.2.2 := Option.some.inj (h4.symm.trans h0)
  subst hc
  have hq := py_apart hD1
  rw [py_push hq] at hP1 hD1
  exact kk q _ _ H1 hq ⟨List.mem_append_right _ List.mem_cons_self, va_up_self _ _ _⟩ (py_pushed hq) ⟨hw.1, hP1, hD1, hS1, hw.2.2.2.2⟩
theorem py_iald (G : CallFix p m c cc nL s args Ts own) (hw : py_W E A s L f H locs) {n : Nat} {g : Nat → Int32} {i : Int32} (hf : py_at L f a (.inl (E.2.1, n, .inl g))) (hin : vp_in i n) (hdg : decode cc pc = .ok (.iaload, 1))
    (kk : W p l e R s m args below meth c H locs cells slots Q (F0 m (pc + 1) ls (.int (g i.toNatClampNeg) :: rest))) : W p l e R s m args below meth c H locs cells slots Q (F0 m pc ls (.int i :: .ref a :: rest)) := by
  obtain ⟨q0, hq⟩ := hf.get
  exact va_iald G.1 G.2.1 hw.1.1 hw.2.1 q0 0 hq rfl hin hdg kk
theorem py_iast (G : CallFix p m c cc nL s args Ts own) (hw : py_W E A s L f H locs) {n : Nat} {g : Nat → Int32} {i x : Int32} (hf : py_at L f a (.inl (E.2.1, n, .inl g))) (hin : vp_in i n) (hdg : decode cc pc = .ok (.iastore, 1))
    (kk : ∀ (f' : py_F) (H' : Heap) (locs' : List Loc), py_at L f' a (.inl (E.2.1, n, .inl (upd g i.toNatClampNeg x))) → py_ext L f L f' a → py_W E A s L f' H' locs' → W p l e R s m args below meth c H' locs' cells slots Q (F0 m (pc + 1) ls rest)) : W p l e R s m args below meth c H locs cells slots Q (F0 m pc ls (.int x :: .int i :: .ref a :: rest)) := by
  obtain ⟨q0, hq⟩ := hf.get
  refine va_iast G.1 G.2.1 hw.1.1 hw.2.1 hw.2.2.1 hw.2.2.2.1 q0 0 hq rfl hin hdg (fun H1 locs1 hP1 hD1 hS1 => ?_)
  rw [py_upd hw.2.2.1 hf hq] at hP1 hD1
  exact kk _ H1 locs1 ⟨hf.1, va_up_self _ _ _⟩ (fun b hb hn => ⟨hb, va_up_ne _ _ hn⟩) ⟨hw.1, hP1, hD1, hS1, hw.2.2.2.2⟩
theorem py_alen (G : CallFix p m c cc nL s args Ts own) (hw : py_W E A s L f H locs) {n : Nat} {g : Nat → Int32} {v : Int32} (hf : py_at L f a (.inl (E.2.1, n, .inl g))) (hv : Int32.ofNat n = v) (hdg : decode cc pc = .ok (.arraylength, 1))
    (kk : W p l e R s m args below meth c H locs cells slots Q (F0 m (pc + 1) ls (.int v :: rest))) : W p l e R s m args below meth c H locs cells slots Q (F0 m pc ls (.ref a :: rest)) := by
  obtain ⟨q0, hq⟩ := hf.get
  exact va_alen G.1 G.2.1 hw.1.1 hw.2.1 q0 0 hq rfl hv hdg kk
theorem py_objInit (G : CallFix p m c cc nL s args Ts own) (hls : ls.size = nL) {index : Nat} (h1 : Cond.methodLink own index objectInit ∈ Ts) (h2 : Cond.instanceMethod objectInit ∈ Ts) (h3 : Cond.code objectInit ⟨#[0xb1]⟩ 1 none ∈ Ts) (hdg : decode cc pc = .ok (.invokespecial index, 3)) (hr : 1 ≤ R.frames) (hr2 : 12 ≤ R.locals)
    (kk : W p l e R s m args below meth c H locs cells slots Q (F0 m (pc + 3) ls [])) : W p l e R s m args below meth c H locs cells slots Q (F0 m pc ls [.ref a]) :=
  W.objInit G.1 G.2.1 G.2.2.2.1 (G.2.2.2.2 _ h1) (G.2.2.2.2 _ h2) (G.2.2.2.2 _ h3) rfl (by rw [G.2.2.1]; exact hls) rfl hdg hr (by simpa [JFrame.monitorRoom] using hr2) kk
theorem py_preV (hw : py_W E A s L f H locs) {C : String} {T : u_T} {N ci : Nat} {fs As : List Value} (hc : vwCl[ci]? = some (C, T, N)) (hf : py_at L f a (.inr (ci, fs))) : PreV s H C a (py_Pc E (.ref a :: As) L f H.size) As := by
  obtain ⟨q0, hq⟩ := hf.get
  exact ⟨py_blind, va_recv hw.1.1 hw.2.1 hc hq, fun U hU hW => ⟨rfl, by rw [hU], by rw [hU]; exact hw.2.1, ⟨va_K.moved hW.alike hw.1.1, py_X.warm hW hw.1.2⟩, hw.2.2.1.weaken (fun _ _ _ _ => trivial)⟩⟩
theorem py_preS (hw : py_W E A s L f H locs) {As : List Value} : PreS s H (py_Pc E As L f H.size) As :=
  ⟨py_blind, fun U hU hW => ⟨rfl, by rw [hU], by rw [hU]; exact hw.2.1, ⟨va_K.moved hW.alike hw.1.1, py_X.warm hW hw.1.2⟩, hw.2.2.1.weaken (fun _ _ _ _ => trivial)⟩⟩
theorem py_free (hw : py_W E A s L f H locs) : ∀ q : Nat, va_A (va_pl L f) H.size q → A q := by
  intro q h
  rcases h with ⟨k, e, h⟩ | h
  · exact hw.2.2.1.2 k (q, e) h
  · exact hw.2.2.2.2 q (Nat.le_trans hw.2.2.2.1.1 h)
variable {st0 : List Value} {mc ms : Nat} {av : Array Value}
theorem py_calli {post : Int32 → List Nat → py_F → Prop} (hw : py_W E A s L f H locs) (hr : va_Run p l e R s m args below meth c H locs cells slots mc ms (F0 m pc ls st0) rest (py_Qi E L f H.size post av) (va_A (va_pl L f) H.size))
    (kk : ∀ (r : Int32) (L' : List Nat) (f' : py_F) (H' : Heap) (locs' : List Loc), post r L' f' → py_W E A s L' f' H' locs' → W p l e R s m args below meth c H' locs' (cells + mc) (slots + ms) Q (F0 m (pc + 3) ls (.int r :: rest))) : W p l e R s m args below meth c H locs cells slots Q (F0 m pc ls st0) := by
  have hF := py_free hw
  refine va_calli hr hw.2.2.2.1 (fun q _ h => hF q h) hF (fun r u t H1 locs1 ht hvm hp hB hz hk hS => ?_)
  obtain ⟨hP1, hD1⟩ := hB
  rw [ht] at hP1
  exact kk r u.1 u.2 H1 locs1 hp ⟨hw.1, hP1, hD1.weaken (fun k q _ h => hF q.1 h), hS, hw.2.2.2.2⟩
theorem py_calll {post : Int64 → List Nat → py_F → Prop} (hw : py_W E A s L f H locs) (hr : va_Run p l e R s m args below meth c H locs cells slots mc ms (F0 m pc ls st0) rest (py_Ql E L f H.size post av) (va_A (va_pl L f) H.size))
    (kk : ∀ (r : Int64) (L' : List Nat) (f' : py_F) (H' : Heap) (locs' : List Loc), post r L' f' → py_W E A s L' f' H' locs' → W p l e R s m args below meth c H' locs' (cells + mc) (slots + ms) Q (F0 m (pc + 3) ls (.long r :: rest))) : W p l e R s m args below meth c H locs cells slots Q (F0 m pc ls st0) := by
  have hF := py_free hw
  refine va_calll hr hw.2.2.2.1 (fun q _ h => hF q h) hF (fun r u t H1 locs1 ht hvm hp hB hz hk hS => ?_)
  obtain ⟨hP1, hD1⟩ := hB
  rw [ht] at hP1
  exact kk r u.1 u.2 H1 locs1 hp ⟨hw.1, hP1, hD1.weaken (fun k q _ h => hF q.1 h), hS, hw.2.2.2.2⟩
theorem py_callv {post : List Nat → py_F → Prop} (hw : py_W E A s L f H locs) (hr : va_Run p l e R s m args below meth c H locs cells slots mc ms (F0 m pc ls st0) rest (py_Qv E L f H.size post av) (va_A (va_pl L f) H.size))
    (kk : ∀ (L' : List Nat) (f' : py_F) (H' : Heap) (locs' : List Loc), post L' f' → py_W E A s L' f' H' locs' → W p l e R s m args below meth c H' locs' (cells + mc) (slots + ms) Q (F0 m (pc + 3) ls rest)) : W p l e R s m args below meth c H locs cells slots Q (F0 m pc ls st0) := by
  have hF := py_free hw
  refine va_callv hr hw.2.2.2.1 (fun q _ h => hF q h) hF (fun u t H1 locs1 ht hvm hp hB hz hk hS => ?_)
  obtain ⟨hP1, hD1⟩ := hB
  rw [ht] at hP1
  exact kk u.1 u.2 H1 locs1 hp ⟨hw.1, hP1, hD1.weaken (fun k q _ h => hF q.1 h), hS, hw.2.2.2.2⟩
theorem py_callr {post : Nat → List Nat → py_F → Prop} (hw : py_W E A s L f H locs) (hr : va_Run p l e R s m args below meth c H locs cells slots mc ms (F0 m pc ls st0) rest (py_Qr E L f H.size post av) (va_A (va_pl L f) H.size))
    (kk : ∀ (r : Nat) (L' : List Nat) (f' : py_F) (H' : Heap) (locs' : List Loc), post r L' f' → py_W E A s L' f' H' locs' → W p l e R s m args below meth c H' locs' (cells + mc) (slots + ms) Q (F0 m (pc + 3) ls (.ref r :: rest))) : W p l e R s m args below meth c H locs cells slots Q (F0 m pc ls st0) := by
  have hF := py_free hw
  refine va_callr hr hw.2.2.2.1 (fun q _ h => hF q h) hF (fun u r t H1 locs1 ht hvm _ hB hz hk hS => ?_)
  obtain ⟨hp, hP1, hD1⟩ := hB
  rw [ht] at hP1
  exact kk r u.1 u.2 H1 locs1 hp ⟨hw.1, hP1, hD1.weaken (fun k q _ h => hF q.1 h), hS, hw.2.2.2.2⟩
variable {L0 : List Nat} {f0 : py_F} {sz : Nat}
theorem py_iret {post : Int32 → List Nat → py_F → Prop} {r : Int32} {ty : FieldType} (G : CallFix p m c cc nL s args Ts own) (hr : meth.sig.returnType = some ty) (hn : narrow ty (.int r) = .int r) (hlocks : meth.locks = false) (hw : py_W E (va_A (va_pl L0 f0) sz) s L f H locs) (hp : post r L f) (hdg : decode cc pc = .ok (.ireturn, 1)) :
    W p l e R s m args below meth c H locs cells slots (MQ below (py_Qi E L0 f0 sz post) args s cells slots (va_A (va_pl L0 f0) sz)) (F0 m pc ls [.int r]) :=
  W.zret (v := r) (ty := ty) G.1 G.2.1 hr hn (fun t ht hW => ⟨⟨r, (L, f), rfl, hp, by rw [ht]; exact hw.2.1, hw.2.2.1⟩, hw.2.2.2.1.F ht⟩) hw.2.2.2.1.2.2 hdg hlocks
theorem py_lret {post : Int64 → List Nat → py_F → Prop} {r : Int64} (G : CallFix p m c cc nL s args Ts own) (hr : meth.sig.returnType = some .long) (hlocks : meth.locks = false) (hw : py_W E (va_A (va_pl L0 f0) sz) s L f H locs) (hp : post r L f) (hdg : decode cc pc = .ok (.lreturn, 1)) :
    W p l e R s m args below meth c H locs cells slots (MQ below (py_Ql E L0 f0 sz post) args s cells slots (va_A (va_pl L0 f0) sz)) (F0 m pc ls [.long r]) :=
  W.lret (v := r) G.1 G.2.1 hr (fun t ht hW => ⟨⟨r, (L, f), rfl, hp, by rw [ht]; exact hw.2.1, hw.2.2.1⟩, hw.2.2.2.1.F ht⟩) hw.2.2.2.1.2.2 hdg hlocks
theorem py_vret {post : List Nat → py_F → Prop} (G : CallFix p m c cc nL s args Ts own) (hr : meth.sig.returnType = none) (hlocks : meth.locks = false) (hw : py_W E (va_A (va_pl L0 f0) sz) s L f H locs) (hp : post L f) (hdg : decode cc pc = .ok (.return_, 1)) :
    W p l e R s m args below meth c H locs cells slots (MQ below (py_Qv E L0 f0 sz post) args s cells slots (va_A (va_pl L0 f0) sz)) (F0 m pc ls []) :=
  W.vret G.1 G.2.1 hr (fun t ht hW => ⟨⟨(L, f), rfl, hp, by rw [ht]; exact hw.2.1, hw.2.2.1⟩, hw.2.2.2.1.F ht⟩) hw.2.2.2.1.2.2 hdg hlocks
theorem py_rret {post : Nat → List Nat → py_F → Prop} {rt : FieldType} (G : CallFix p m c cc nL s args Ts own) (hr : meth.sig.returnType = some rt) (hrt : (∃ n, rt = .object n) ∨ ∃ t, rt = .array t) (hlocks : meth.locks = false) (hw : py_W E (va_A (va_pl L0 f0) sz) s L f H locs) (hp : post a L f) (hdg : decode cc pc = .ok (.areturn, 1)) :
    W p l e R s m args below meth c H locs cells slots (MQ below (py_Qr E L0 f0 sz post) args s cells slots (va_A (va_pl L0 f0) sz)) (F0 m pc ls [.ref a]) :=
  W.aret (v := .ref a) G.1 G.2.1 hr hrt (Or.inr ⟨a, rfl⟩) (fun t ht hW => ⟨⟨(L, f), a, rfl, trivial, hp, by rw [ht]; exact hw.2.1, hw.2.2.1⟩, hw.2.2.2.1.F ht⟩) hw.2.2.2.1.2.2 hdg hlocks
end PYR
end
section
/-! What a fresh object is: of the class, and of the reference; and that it stays so. -/
theorem py_len {xs : List Value} {n k : Nat} (h : xs.length = n) (hk : k < n) : k < xs.length := by rw [h]; exact hk
theorem py_inr {i : Int32} {n : Nat} (h : ¬ (i < 0 ∨ n ≤ i.toNatClampNeg)) : vp_in i n := h
theorem py_arr {cI : ClassId} {L : List Nat} {f f' : py_F} {a b n n1 : Nat} {g g1 g2 : Nat → Int32} (hb : py_at L f b (.inl (cI, n, .inl g))) (ha : py_at L f a (.inl (cI, n1, .inl g1))) (ha2 : py_at L f' a (.inl (cI, n1, .inl g2))) (x : py_ext L f L f' a) : ∃ g3 : Nat → Int32, py_at L f' b (.inl (cI, n, .inl g3)) := by
  by_cases e : b = a
  · subst e
    have h := hb.2.symm.trans ha.2
    injection h with h
    injection h with _ h
    injection h with h _
    subst h
    exact ⟨g2, ha2⟩
  · exact ⟨g, hb.ext x e⟩
/-- changed at two places at most -/
def py_ext2 (L : List Nat) (f : py_F) (L' : List Nat) (f' : py_F) (a a2 : Nat) : Prop := ∀ b : Nat, b ∈ L → b ≠ a → b ≠ a2 → b ∈ L' ∧ f' b = f b
def fr_H (E : py_E) (L : List Nat) (f : py_F) (h : Nat) : Prop := ∃ (tape byt vr itm dr lr dl lws nl fo va tr im di bu se mo od : Nat) (g : Nat → Int32) (xd xl xf xv xi xu xs : List Value),
  py_at L f h (.inr (11, [.ref tape, .ref vr, .ref lr, .ref lws, .ref nl, .ref fo, .ref tr, .ref im, .ref di, .ref bu, .ref se, .ref mo, .ref od, .int 0, .int (-1), .int 0])) ∧
  py_at L f tape (.inr (8, [.ref byt, .int 0, .int 0, .int 0])) ∧ py_at L f byt (.inl (E.2.1, 160, .inl g)) ∧
  py_at L f vr (.inr (10, [.ref itm, .ref dr])) ∧ py_at L f dr (.inr (9, xd)) ∧ xd.length = 10 ∧
  py_at L f lr (.inr (4, [.ref dl])) ∧ py_at L f dl (.inr (3, xl)) ∧ xl.length = 3 ∧
  py_at L f fo (.inr (2, xf)) ∧ xf.length = 12 ∧ xf[9]? = some (.ref va) ∧ xf[11]? = some (.int 0) ∧
  py_at L f va (.inr (9, xv)) ∧ xv.length = 10 ∧ xv[8]? = some (.int 0) ∧ xv[9]? = some (.int 0) ∧
  py_at L f di (.inr (1, xi)) ∧ xi.length = 3 ∧ xi[2]? = some (.int 0) ∧
  py_at L f bu (.inr (0, xu)) ∧ xu.length = 5 ∧ xu[3]? = some (.int 0) ∧
  py_at L f se (.inr (7, xs)) ∧ xs.length = 5
def fr_M (E : py_E) (L : List Nat) (f : py_F) (h : Nat) : Prop := ∃ (tp cd cl : Nat) (g1 g2 g3 : Nat → Int32) (xs : List Value),
  py_at L f h (.inr (12, xs)) ∧ xs.length = 54 ∧ xs[1]? = some (.ref tp) ∧ xs[2]? = some (.int 0) ∧ xs[8]? = some (.ref cd) ∧ xs[9]? = some (.ref cl) ∧ xs[13]? = some (.int 0) ∧ xs[24]? = some (.int 0) ∧ xs[25]? = some (.int 0) ∧ xs[29]? = some (.int 0) ∧ xs[31]? = some (.int (-1)) ∧ xs[43]? = some (.int 0) ∧ xs[53]? = some (.int 0) ∧
  py_at L f tp (.inl (E.2.1, 160, .inl g1)) ∧ py_at L f cd (.inl (E.2.1, 5, .inl g2)) ∧ py_at L f cl (.inl (E.2.1, 5, .inl g3))
theorem fr_M_obj {E : py_E} {L : List Nat} {f f' : py_F} {m a ci : Nat} {ys : List Value} (h : fr_M E L f m) (ha : py_at L f a (.inr (ci, ys))) (hc : 12 ≠ ci) (x : py_ext L f L f' a) : fr_M E L f' m := by
  obtain ⟨tp, cd, cl, g1, g2, g3, xs, h1, h2, h3, h4, h5, h6, h7, h8, h9, h10, h11, h12, h13, h14, h15, h16⟩ := h
  exact ⟨tp, cd, cl, g1, g2, g3, xs, h1.ext x (py_ne_kind h1 ha hc), h2, h3, h4, h5, h6, h7, h8, h9, h10, h11, h12, h13, h14.ext x (Ne.symm (py_ne_arr ha h14)), h15.ext x (Ne.symm (py_ne_arr ha h15)), h16.ext x (Ne.symm (py_ne_arr ha h16))⟩
theorem fr_M_arr {E : py_E} {L : List Nat} {f f' : py_F} {m a n : Nat} {g g' : Nat → Int32} (h : fr_M E L f m) (ha : py_at L f a (.inl (E.2.1, n, .inl g))) (ha2 : py_at L f' a (.inl (E.2.1, n, .inl g'))) (x : py_ext L f L f' a) : fr_M E L f' m := by
  obtain ⟨tp, cd, cl, g1, g2, g3, xs, h1, h2, h3, h4, h5, h6, h7, h8, h9, h10, h11, h12, h13, h14, h15, h16⟩ := h
  obtain ⟨g1, h14⟩ := py_arr h14 ha ha2 x
  obtain ⟨g2, h15⟩ := py_arr h15 ha ha2 x
  obtain ⟨g3, h16⟩ := py_arr h16 ha ha2 x
  exact ⟨tp, cd, cl, g1, g2, g3, xs, h1.ext x (py_ne_arr h1 ha), h2, h3, h4, h5, h6, h7, h8, h9, h10, h11, h12, h13, h14, h15, h16⟩
theorem fr_M_all {E : py_E} {L L' : List Nat} {f f' : py_F} {m : Nat} (h : fr_M E L f m) (x : py_all L f L' f') : fr_M E L' f' m := by
  obtain ⟨tp, cd, cl, g1, g2, g3, xs, h1, h2, h3, h4, h5, h6, h7, h8, h9, h10, h11, h12, h13, h14, h15, h16⟩ := h
  exact ⟨tp, cd, cl, g1, g2, g3, xs, h1.all x, h2, h3, h4, h5, h6, h7, h8, h9, h10, h11, h12, h13, h14.all x, h15.all x, h16.all x⟩
theorem fr_H_all {E : py_E} {L L' : List Nat} {f f' : py_F} {h : Nat} (hF : fr_H E L f h) (x : py_all L f L' f') : fr_H E L' f' h := by
  obtain ⟨tape, byt, vr, itm, dr, lr, dl, lws, nl, fo, va, tr, im, di, bu, se, mo, od, g, xd, xl, xf, xv, xi, xu, xs, h1, h2, h3, h4, h5, h6, h7, h8, h9, h10, h11, h12, h13, h14, h15, h16, h17, h18, h19, h20, h21, h22, h23, h24, h25⟩ := hF
  exact ⟨tape, byt, vr, itm, dr, lr, dl, lws, nl, fo, va, tr, im, di, bu, se, mo, od, g, xd, xl, xf, xv, xi, xu, xs, h1.all x, h2.all x, h3.all x, h4.all x, h5.all x, h6, h7.all x, h8.all x, h9, h10.all x, h11, h12, h13, h14.all x, h15, h16, h17, h18.all x, h19, h20, h21.all x, h22, h23, h24.all x, h25⟩
theorem fr_H_ext {E : py_E} {L L' : List Nat} {f f' : py_F} {h a : Nat} {ys : List Value} (hF : fr_H E L f h) (ha : py_at L f a (.inr (12, ys))) (x : py_ext L f L' f' a) : fr_H E L' f' h := by
  obtain ⟨tape, byt, vr, itm, dr, lr, dl, lws, nl, fo, va, tr, im, di, bu, se, mo, od, g, xd, xl, xf, xv, xi, xu, xs, h1, h2, h3, h4, h5, h6, h7, h8, h9, h10, h11, h12, h13, h14, h15, h16, h17, h18, h19, h20, h21, h22, h23, h24, h25⟩ := hF
  exact ⟨tape, byt, vr, itm, dr, lr, dl, lws, nl, fo, va, tr, im, di, bu, se, mo, od, g, xd, xl, xf, xv, xi, xu, xs, h1.ext x (py_ne_kind h1 ha (by decide)), h2.ext x (py_ne_kind h2 ha (by decide)), h3.ext x (Ne.symm (py_ne_arr ha h3)), h4.ext x (py_ne_kind h4 ha (by decide)), h5.ext x (py_ne_kind h5 ha (by decide)), h6, h7.ext x (py_ne_kind h7 ha (by decide)), h8.ext x (py_ne_kind h8 ha (by decide)), h9, h10.ext x (py_ne_kind h10 ha (by decide)), h11, h12, h13, h14.ext x (py_ne_kind h14 ha (by decide)), h15, h16, h17, h18.ext x (py_ne_kind h18 ha (by decide)), h19, h20, h21.ext x (py_ne_kind h21 ha (by decide)), h22, h23, h24.ext x (py_ne_kind h24 ha (by decide)), h25⟩
end
section
theorem dX0_init_0 : decode cX0_init 0 = .ok (.aload_n 0, 1) := by decide +kernel
theorem dX0_init_1 : decode cX0_init 1 = .ok (.invokespecial 1, 3) := by decide +kernel
theorem dX0_init_4 : decode cX0_init 4 = .ok (.aload_n 0, 1) := by decide +kernel
theorem dX0_init_5 : decode cX0_init 5 = .ok (.bipush 40, 2) := by decide +kernel
theorem dX0_init_7 : decode cX0_init 7 = .ok (.newarray .int, 2) := by decide +kernel
theorem dX0_init_9 : decode cX0_init 9 = .ok (.putfield 9, 3) := by decide +kernel
theorem dX0_init_12 : decode cX0_init 12 = .ok (.aload_n 0, 1) := by decide +kernel
theorem dX0_init_13 : decode cX0_init 13 = .ok (.bipush 40, 2) := by decide +kernel
theorem dX0_init_15 : decode cX0_init 15 = .ok (.newarray .int, 2) := by decide +kernel
theorem dX0_init_17 : decode cX0_init 17 = .ok (.putfield 13, 3) := by decide +kernel
theorem dX0_init_20 : decode cX0_init 20 = .ok (.aload_n 0, 1) := by decide +kernel
theorem dX0_init_21 : decode cX0_init 21 = .ok (.bipush 40, 2) := by decide +kernel
theorem dX0_init_23 : decode cX0_init 23 = .ok (.newarray .int, 2) := by decide +kernel
theorem dX0_init_25 : decode cX0_init 25 = .ok (.putfield 16, 3) := by decide +kernel
theorem dX0_init_28 : decode cX0_init 28 = .ok (.aload_n 0, 1) := by decide +kernel
theorem dX0_init_29 : decode cX0_init 29 = .ok (.iconst 0, 1) := by decide +kernel
theorem dX0_init_30 : decode cX0_init 30 = .ok (.putfield 19, 3) := by decide +kernel
theorem dX0_init_33 : decode cX0_init 33 = .ok (.aload_n 0, 1) := by decide +kernel
theorem dX0_init_34 : decode cX0_init 34 = .ok (.bipush 10, 2) := by decide +kernel
theorem dX0_init_36 : decode cX0_init 36 = .ok (.putfield 23, 3) := by decide +kernel
theorem dX0_init_39 : decode cX0_init 39 = .ok (.return_, 1) := by decide +kernel
theorem dX10_init_0 : decode cX10_init 0 = .ok (.aload_n 0, 1) := by decide +kernel
theorem dX10_init_1 : decode cX10_init 1 = .ok (.invokespecial 3, 3) := by decide +kernel
theorem dX10_init_4 : decode cX10_init 4 = .ok (.aload_n 0, 1) := by decide +kernel
theorem dX10_init_5 : decode cX10_init 5 = .ok (.iconst 4, 1) := by decide +kernel
theorem dX10_init_6 : decode cX10_init 6 = .ok (.newarray .int, 2) := by decide +kernel
theorem dX10_init_8 : decode cX10_init 8 = .ok (.putfield 11, 3) := by decide +kernel
theorem dX10_init_11 : decode cX10_init 11 = .ok (.aload_n 0, 1) := by decide +kernel
theorem dX10_init_12 : decode cX10_init 12 = .ok (.new 15, 3) := by decide +kernel
theorem dX10_init_15 : decode cX10_init 15 = .ok (.dup, 1) := by decide +kernel
theorem dX10_init_16 : decode cX10_init 16 = .ok (.invokespecial 17, 3) := by decide +kernel
theorem dX10_init_19 : decode cX10_init 19 = .ok (.putfield 18, 3) := by decide +kernel
theorem dX10_init_22 : decode cX10_init 22 = .ok (.return_, 1) := by decide +kernel
theorem dX1_init_0 : decode cX1_init 0 = .ok (.aload_n 0, 1) := by decide +kernel
theorem dX1_init_1 : decode cX1_init 1 = .ok (.invokespecial 5, 3) := by decide +kernel
theorem dX1_init_4 : decode cX1_init 4 = .ok (.aload_n 0, 1) := by decide +kernel
theorem dX1_init_5 : decode cX1_init 5 = .ok (.sipush 600, 3) := by decide +kernel
theorem dX1_init_8 : decode cX1_init 8 = .ok (.newarray .int, 2) := by decide +kernel
theorem dX1_init_10 : decode cX1_init 10 = .ok (.putfield 13, 3) := by decide +kernel
theorem dX1_init_13 : decode cX1_init 13 = .ok (.aload_n 0, 1) := by decide +kernel
theorem dX1_init_14 : decode cX1_init 14 = .ok (.sipush 600, 3) := by decide +kernel
theorem dX1_init_17 : decode cX1_init 17 = .ok (.newarray .int, 2) := by decide +kernel
theorem dX1_init_19 : decode cX1_init 19 = .ok (.putfield 17, 3) := by decide +kernel
theorem dX1_init_22 : decode cX1_init 22 = .ok (.aload_n 0, 1) := by decide +kernel
theorem dX1_init_23 : decode cX1_init 23 = .ok (.iconst 0, 1) := by decide +kernel
theorem dX1_init_24 : decode cX1_init 24 = .ok (.putfield 20, 3) := by decide +kernel
theorem dX1_init_27 : decode cX1_init 27 = .ok (.return_, 1) := by decide +kernel
theorem dX2_init_0 : decode cX2_init 0 = .ok (.aload_n 0, 1) := by decide +kernel
theorem dX2_init_1 : decode cX2_init 1 = .ok (.invokespecial 3, 3) := by decide +kernel
theorem dX2_init_4 : decode cX2_init 4 = .ok (.aload_n 0, 1) := by decide +kernel
theorem dX2_init_5 : decode cX2_init 5 = .ok (.bipush 10, 2) := by decide +kernel
theorem dX2_init_7 : decode cX2_init 7 = .ok (.newarray .int, 2) := by decide +kernel
theorem dX2_init_9 : decode cX2_init 9 = .ok (.putfield 11, 3) := by decide +kernel
theorem dX2_init_12 : decode cX2_init 12 = .ok (.aload_n 0, 1) := by decide +kernel
theorem dX2_init_13 : decode cX2_init 13 = .ok (.bipush 10, 2) := by decide +kernel
theorem dX2_init_15 : decode cX2_init 15 = .ok (.newarray .int, 2) := by decide +kernel
theorem dX2_init_17 : decode cX2_init 17 = .ok (.putfield 17, 3) := by decide +kernel
theorem dX2_init_20 : decode cX2_init 20 = .ok (.aload_n 0, 1) := by decide +kernel
theorem dX2_init_21 : decode cX2_init 21 = .ok (.bipush 10, 2) := by decide +kernel
theorem dX2_init_23 : decode cX2_init 23 = .ok (.newarray .int, 2) := by decide +kernel
theorem dX2_init_25 : decode cX2_init 25 = .ok (.putfield 20, 3) := by decide +kernel
theorem dX2_init_28 : decode cX2_init 28 = .ok (.aload_n 0, 1) := by decide +kernel
theorem dX2_init_29 : decode cX2_init 29 = .ok (.bipush 10, 2) := by decide +kernel
theorem dX2_init_31 : decode cX2_init 31 = .ok (.newarray .int, 2) := by decide +kernel
theorem dX2_init_33 : decode cX2_init 33 = .ok (.putfield 23, 3) := by decide +kernel
theorem dX2_init_36 : decode cX2_init 36 = .ok (.aload_n 0, 1) := by decide +kernel
theorem dX2_init_37 : decode cX2_init 37 = .ok (.bipush 10, 2) := by decide +kernel
theorem dX2_init_39 : decode cX2_init 39 = .ok (.newarray .int, 2) := by decide +kernel
theorem dX2_init_41 : decode cX2_init 41 = .ok (.putfield 26, 3) := by decide +kernel
theorem dX2_init_44 : decode cX2_init 44 = .ok (.aload_n 0, 1) := by decide +kernel
theorem dX2_init_45 : decode cX2_init 45 = .ok (.bipush 10, 2) := by decide +kernel
theorem dX2_init_47 : decode cX2_init 47 = .ok (.newarray .int, 2) := by decide +kernel
theorem dX2_init_49 : decode cX2_init 49 = .ok (.putfield 29, 3) := by decide +kernel
theorem dX2_init_52 : decode cX2_init 52 = .ok (.aload_n 0, 1) := by decide +kernel
theorem dX2_init_53 : decode cX2_init 53 = .ok (.bipush 10, 2) := by decide +kernel
theorem dX2_init_55 : decode cX2_init 55 = .ok (.newarray .int, 2) := by decide +kernel
theorem dX2_init_57 : decode cX2_init 57 = .ok (.putfield 32, 3) := by decide +kernel
theorem dX2_init_60 : decode cX2_init 60 = .ok (.aload_n 0, 1) := by decide +kernel
theorem dX2_init_61 : decode cX2_init 61 = .ok (.bipush 10, 2) := by decide +kernel
theorem dX2_init_63 : decode cX2_init 63 = .ok (.newarray .int, 2) := by decide +kernel
theorem dX2_init_65 : decode cX2_init 65 = .ok (.putfield 35, 3) := by decide +kernel
theorem dX2_init_68 : decode cX2_init 68 = .ok (.aload_n 0, 1) := by decide +kernel
theorem dX2_init_69 : decode cX2_init 69 = .ok (.bipush 10, 2) := by decide +kernel
theorem dX2_init_71 : decode cX2_init 71 = .ok (.newarray .boolean, 2) := by decide +kernel
theorem dX2_init_73 : decode cX2_init 73 = .ok (.putfield 38, 3) := by decide +kernel
theorem dX2_init_76 : decode cX2_init 76 = .ok (.aload_n 0, 1) := by decide +kernel
theorem dX2_init_77 : decode cX2_init 77 = .ok (.new 9, 3) := by decide +kernel
theorem dX2_init_80 : decode cX2_init 80 = .ok (.dup, 1) := by decide +kernel
theorem dX2_init_81 : decode cX2_init 81 = .ok (.invokespecial 42, 3) := by decide +kernel
theorem dX2_init_84 : decode cX2_init 84 = .ok (.putfield 43, 3) := by decide +kernel
theorem dX2_init_87 : decode cX2_init 87 = .ok (.aload_n 0, 1) := by decide +kernel
theorem dX2_init_88 : decode cX2_init 88 = .ok (.lconst 0, 1) := by decide +kernel
theorem dX2_init_89 : decode cX2_init 89 = .ok (.putfield 47, 3) := by decide +kernel
theorem dX2_init_92 : decode cX2_init 92 = .ok (.aload_n 0, 1) := by decide +kernel
theorem dX2_init_93 : decode cX2_init 93 = .ok (.iconst 0, 1) := by decide +kernel
theorem dX2_init_94 : decode cX2_init 94 = .ok (.putfield 51, 3) := by decide +kernel
theorem dX2_init_97 : decode cX2_init 97 = .ok (.return_, 1) := by decide +kernel
theorem dX3_add_0 : decode cX3_add 0 = .ok (.aload_n 0, 1) := by decide +kernel
theorem dX3_add_1 : decode cX3_add 1 = .ok (.getfield 18, 3) := by decide +kernel
theorem dX3_add_4 : decode cX3_add 4 = .ok (.aload_n 0, 1) := by decide +kernel
theorem dX3_add_5 : decode cX3_add 5 = .ok (.getfield 9, 3) := by decide +kernel
theorem dX3_add_8 : decode cX3_add 8 = .ok (.arraylength, 1) := by decide +kernel
theorem dX3_add_9 : decode cX3_add 9 = .ok (.if_icmp .ge 28, 3) := by decide +kernel
theorem dX3_add_12 : decode cX3_add 12 = .ok (.aload_n 0, 1) := by decide +kernel
theorem dX3_add_13 : decode cX3_add 13 = .ok (.getfield 9, 3) := by decide +kernel
theorem dX3_add_16 : decode cX3_add 16 = .ok (.aload_n 0, 1) := by decide +kernel
theorem dX3_add_17 : decode cX3_add 17 = .ok (.getfield 18, 3) := by decide +kernel
theorem dX3_add_20 : decode cX3_add 20 = .ok (.iload_n 1, 1) := by decide +kernel
theorem dX3_add_21 : decode cX3_add 21 = .ok (.bipush 16, 2) := by decide +kernel
theorem dX3_add_23 : decode cX3_add 23 = .ok (.ishl, 1) := by decide +kernel
theorem dX3_add_24 : decode cX3_add 24 = .ok (.iload_n 2, 1) := by decide +kernel
theorem dX3_add_25 : decode cX3_add 25 = .ok (.ior, 1) := by decide +kernel
theorem dX3_add_26 : decode cX3_add 26 = .ok (.iastore, 1) := by decide +kernel
theorem dX3_add_27 : decode cX3_add 27 = .ok (.aload_n 0, 1) := by decide +kernel
theorem dX3_add_28 : decode cX3_add 28 = .ok (.dup, 1) := by decide +kernel
theorem dX3_add_29 : decode cX3_add 29 = .ok (.getfield 18, 3) := by decide +kernel
theorem dX3_add_32 : decode cX3_add 32 = .ok (.iconst 1, 1) := by decide +kernel
theorem dX3_add_33 : decode cX3_add 33 = .ok (.iadd, 1) := by decide +kernel
theorem dX3_add_34 : decode cX3_add 34 = .ok (.putfield 18, 3) := by decide +kernel
theorem dX3_add_37 : decode cX3_add 37 = .ok (.return_, 1) := by decide +kernel
theorem dX3_bornLessDead_0 : decode cX3_bornLessDead 0 = .ok (.new 10, 3) := by decide +kernel
theorem dX3_bornLessDead_3 : decode cX3_bornLessDead 3 = .ok (.dup, 1) := by decide +kernel
theorem dX3_bornLessDead_4 : decode cX3_bornLessDead 4 = .ok (.invokespecial 22, 3) := by decide +kernel
theorem dX3_bornLessDead_7 : decode cX3_bornLessDead 7 = .ok (.astore_n 0, 1) := by decide +kernel
theorem dX3_bornLessDead_8 : decode cX3_bornLessDead 8 = .ok (.aload_n 0, 1) := by decide +kernel
theorem dX3_bornLessDead_9 : decode cX3_bornLessDead 9 = .ok (.bipush 121, 2) := by decide +kernel
theorem dX3_bornLessDead_11 : decode cX3_bornLessDead 11 = .ok (.iconst 0, 1) := by decide +kernel
theorem dX3_bornLessDead_12 : decode cX3_bornLessDead 12 = .ok (.invokevirtual 23, 3) := by decide +kernel
theorem dX3_bornLessDead_15 : decode cX3_bornLessDead 15 = .ok (.aload_n 0, 1) := by decide +kernel
theorem dX3_bornLessDead_16 : decode cX3_bornLessDead 16 = .ok (.bipush 121, 2) := by decide +kernel
theorem dX3_bornLessDead_18 : decode cX3_bornLessDead 18 = .ok (.iconst 1, 1) := by decide +kernel
theorem dX3_bornLessDead_19 : decode cX3_bornLessDead 19 = .ok (.invokevirtual 23, 3) := by decide +kernel
theorem dX3_bornLessDead_22 : decode cX3_bornLessDead 22 = .ok (.aload_n 0, 1) := by decide +kernel
theorem dX3_bornLessDead_23 : decode cX3_bornLessDead 23 = .ok (.bipush 45, 2) := by decide +kernel
theorem dX3_bornLessDead_25 : decode cX3_bornLessDead 25 = .ok (.iconst 0, 1) := by decide +kernel
theorem dX3_bornLessDead_26 : decode cX3_bornLessDead 26 = .ok (.invokevirtual 23, 3) := by decide +kernel
theorem dX3_bornLessDead_29 : decode cX3_bornLessDead 29 = .ok (.aload_n 0, 1) := by decide +kernel
theorem dX3_bornLessDead_30 : decode cX3_bornLessDead 30 = .ok (.bipush 59, 2) := by decide +kernel
theorem dX3_bornLessDead_32 : decode cX3_bornLessDead 32 = .ok (.iconst 0, 1) := by decide +kernel
theorem dX3_bornLessDead_33 : decode cX3_bornLessDead 33 = .ok (.invokevirtual 23, 3) := by decide +kernel
theorem dX3_bornLessDead_36 : decode cX3_bornLessDead 36 = .ok (.aload_n 0, 1) := by decide +kernel
theorem dX3_bornLessDead_37 : decode cX3_bornLessDead 37 = .ok (.areturn, 1) := by decide +kernel
theorem dX3_init_0 : decode cX3_init 0 = .ok (.aload_n 0, 1) := by decide +kernel
theorem dX3_init_1 : decode cX3_init 1 = .ok (.invokespecial 1, 3) := by decide +kernel
theorem dX3_init_4 : decode cX3_init 4 = .ok (.aload_n 0, 1) := by decide +kernel
theorem dX3_init_5 : decode cX3_init 5 = .ok (.sipush 160, 3) := by decide +kernel
theorem dX3_init_8 : decode cX3_init 8 = .ok (.newarray .int, 2) := by decide +kernel
theorem dX3_init_10 : decode cX3_init 10 = .ok (.putfield 9, 3) := by decide +kernel
theorem dX3_init_13 : decode cX3_init 13 = .ok (.aload_n 0, 1) := by decide +kernel
theorem dX3_init_14 : decode cX3_init 14 = .ok (.bipush 32, 2) := by decide +kernel
theorem dX3_init_16 : decode cX3_init 16 = .ok (.newarray .int, 2) := by decide +kernel
theorem dX3_init_18 : decode cX3_init 18 = .ok (.putfield 15, 3) := by decide +kernel
theorem dX3_init_21 : decode cX3_init 21 = .ok (.aload_n 0, 1) := by decide +kernel
theorem dX3_init_22 : decode cX3_init 22 = .ok (.iconst 0, 1) := by decide +kernel
theorem dX3_init_23 : decode cX3_init 23 = .ok (.putfield 18, 3) := by decide +kernel
theorem dX3_init_26 : decode cX3_init 26 = .ok (.return_, 1) := by decide +kernel
theorem dX4_init_0 : decode cX4_init 0 = .ok (.aload_n 0, 1) := by decide +kernel
theorem dX4_init_1 : decode cX4_init 1 = .ok (.invokespecial 3, 3) := by decide +kernel
theorem dX4_init_4 : decode cX4_init 4 = .ok (.aload_n 0, 1) := by decide +kernel
theorem dX4_init_5 : decode cX4_init 5 = .ok (.new 9, 3) := by decide +kernel
theorem dX4_init_8 : decode cX4_init 8 = .ok (.dup, 1) := by decide +kernel
theorem dX4_init_9 : decode cX4_init 9 = .ok (.invokespecial 11, 3) := by decide +kernel
theorem dX4_init_12 : decode cX4_init 12 = .ok (.putfield 12, 3) := by decide +kernel
theorem dX4_init_15 : decode cX4_init 15 = .ok (.return_, 1) := by decide +kernel
theorem dX5_init_0 : decode cX5_init 0 = .ok (.aload_n 0, 1) := by decide +kernel
theorem dX5_init_1 : decode cX5_init 1 = .ok (.invokespecial 3, 3) := by decide +kernel
theorem dX5_init_4 : decode cX5_init 4 = .ok (.aload_n 0, 1) := by decide +kernel
theorem dX5_init_5 : decode cX5_init 5 = .ok (.bipush 8, 2) := by decide +kernel
theorem dX5_init_7 : decode cX5_init 7 = .ok (.newarray .int, 2) := by decide +kernel
theorem dX5_init_9 : decode cX5_init 9 = .ok (.putfield 11, 3) := by decide +kernel
theorem dX5_init_12 : decode cX5_init 12 = .ok (.return_, 1) := by decide +kernel
theorem dX6_init_0 : decode cX6_init 0 = .ok (.aload_n 0, 1) := by decide +kernel
theorem dX6_init_1 : decode cX6_init 1 = .ok (.invokespecial 3, 3) := by decide +kernel
theorem dX6_init_4 : decode cX6_init 4 = .ok (.aload_n 0, 1) := by decide +kernel
theorem dX6_init_5 : decode cX6_init 5 = .ok (.bipush 6, 2) := by decide +kernel
theorem dX6_init_7 : decode cX6_init 7 = .ok (.newarray .int, 2) := by decide +kernel
theorem dX6_init_9 : decode cX6_init 9 = .ok (.putfield 11, 3) := by decide +kernel
theorem dX6_init_12 : decode cX6_init 12 = .ok (.aload_n 0, 1) := by decide +kernel
theorem dX6_init_13 : decode cX6_init 13 = .ok (.bipush 22, 2) := by decide +kernel
theorem dX6_init_15 : decode cX6_init 15 = .ok (.newarray .long, 2) := by decide +kernel
theorem dX6_init_17 : decode cX6_init 17 = .ok (.putfield 17, 3) := by decide +kernel
theorem dX6_init_20 : decode cX6_init 20 = .ok (.aload_n 0, 1) := by decide +kernel
theorem dX6_init_21 : decode cX6_init 21 = .ok (.sipush 168, 3) := by decide +kernel
theorem dX6_init_24 : decode cX6_init 24 = .ok (.newarray .long, 2) := by decide +kernel
theorem dX6_init_26 : decode cX6_init 26 = .ok (.putfield 23, 3) := by decide +kernel
theorem dX6_init_29 : decode cX6_init 29 = .ok (.aload_n 0, 1) := by decide +kernel
theorem dX6_init_30 : decode cX6_init 30 = .ok (.sipush 168, 3) := by decide +kernel
theorem dX6_init_33 : decode cX6_init 33 = .ok (.newarray .long, 2) := by decide +kernel
theorem dX6_init_35 : decode cX6_init 35 = .ok (.putfield 26, 3) := by decide +kernel
theorem dX6_init_38 : decode cX6_init 38 = .ok (.aload_n 0, 1) := by decide +kernel
theorem dX6_init_39 : decode cX6_init 39 = .ok (.lconst 0, 1) := by decide +kernel
theorem dX6_init_40 : decode cX6_init 40 = .ok (.putfield 29, 3) := by decide +kernel
theorem dX6_init_43 : decode cX6_init 43 = .ok (.aload_n 0, 1) := by decide +kernel
theorem dX6_init_44 : decode cX6_init 44 = .ok (.aload_n 1, 1) := by decide +kernel
theorem dX6_init_45 : decode cX6_init 45 = .ok (.putfield 33, 3) := by decide +kernel
theorem dX6_init_48 : decode cX6_init 48 = .ok (.aload_n 0, 1) := by decide +kernel
theorem dX6_init_49 : decode cX6_init 49 = .ok (.aload_n 2, 1) := by decide +kernel
theorem dX6_init_50 : decode cX6_init 50 = .ok (.putfield 37, 3) := by decide +kernel
theorem dX6_init_53 : decode cX6_init 53 = .ok (.return_, 1) := by decide +kernel
theorem dX7_init_0 : decode cX7_init 0 = .ok (.aload_n 0, 1) := by decide +kernel
theorem dX7_init_1 : decode cX7_init 1 = .ok (.invokespecial 3, 3) := by decide +kernel
theorem dX7_init_4 : decode cX7_init 4 = .ok (.aload_n 0, 1) := by decide +kernel
theorem dX7_init_5 : decode cX7_init 5 = .ok (.bipush 8, 2) := by decide +kernel
theorem dX7_init_7 : decode cX7_init 7 = .ok (.newarray .int, 2) := by decide +kernel
theorem dX7_init_9 : decode cX7_init 9 = .ok (.putfield 11, 3) := by decide +kernel
theorem dX7_init_12 : decode cX7_init 12 = .ok (.aload_n 0, 1) := by decide +kernel
theorem dX7_init_13 : decode cX7_init 13 = .ok (.bipush 6, 2) := by decide +kernel
theorem dX7_init_15 : decode cX7_init 15 = .ok (.newarray .int, 2) := by decide +kernel
theorem dX7_init_17 : decode cX7_init 17 = .ok (.putfield 19, 3) := by decide +kernel
theorem dX7_init_20 : decode cX7_init 20 = .ok (.aload_n 0, 1) := by decide +kernel
theorem dX7_init_21 : decode cX7_init 21 = .ok (.bipush 10, 2) := by decide +kernel
theorem dX7_init_23 : decode cX7_init 23 = .ok (.newarray .int, 2) := by decide +kernel
theorem dX7_init_25 : decode cX7_init 25 = .ok (.putfield 22, 3) := by decide +kernel
theorem dX7_init_28 : decode cX7_init 28 = .ok (.aload_n 0, 1) := by decide +kernel
theorem dX7_init_29 : decode cX7_init 29 = .ok (.bipush 50, 2) := by decide +kernel
theorem dX7_init_31 : decode cX7_init 31 = .ok (.putfield 25, 3) := by decide +kernel
theorem dX7_init_34 : decode cX7_init 34 = .ok (.aload_n 0, 1) := by decide +kernel
theorem dX7_init_35 : decode cX7_init 35 = .ok (.iconst 0, 1) := by decide +kernel
theorem dX7_init_36 : decode cX7_init 36 = .ok (.putfield 29, 3) := by decide +kernel
theorem dX7_init_39 : decode cX7_init 39 = .ok (.return_, 1) := by decide +kernel
theorem dX8_init_0 : decode cX8_init 0 = .ok (.aload_n 0, 1) := by decide +kernel
theorem dX8_init_1 : decode cX8_init 1 = .ok (.invokespecial 1, 3) := by decide +kernel
theorem dX8_init_4 : decode cX8_init 4 = .ok (.aload_n 0, 1) := by decide +kernel
theorem dX8_init_5 : decode cX8_init 5 = .ok (.sipush 160, 3) := by decide +kernel
theorem dX8_init_8 : decode cX8_init 8 = .ok (.newarray .int, 2) := by decide +kernel
theorem dX8_init_10 : decode cX8_init 10 = .ok (.putfield 9, 3) := by decide +kernel
theorem dX8_init_13 : decode cX8_init 13 = .ok (.aload_n 0, 1) := by decide +kernel
theorem dX8_init_14 : decode cX8_init 14 = .ok (.iconst 0, 1) := by decide +kernel
theorem dX8_init_15 : decode cX8_init 15 = .ok (.putfield 13, 3) := by decide +kernel
theorem dX8_init_18 : decode cX8_init 18 = .ok (.aload_n 0, 1) := by decide +kernel
theorem dX8_init_19 : decode cX8_init 19 = .ok (.iconst 0, 1) := by decide +kernel
theorem dX8_init_20 : decode cX8_init 20 = .ok (.putfield 17, 3) := by decide +kernel
theorem dX8_init_23 : decode cX8_init 23 = .ok (.aload_n 0, 1) := by decide +kernel
theorem dX8_init_24 : decode cX8_init 24 = .ok (.iconst 0, 1) := by decide +kernel
theorem dX8_init_25 : decode cX8_init 25 = .ok (.putfield 20, 3) := by decide +kernel
theorem dX8_init_28 : decode cX8_init 28 = .ok (.return_, 1) := by decide +kernel
theorem dX9_init_0 : decode cX9_init 0 = .ok (.aload_n 0, 1) := by decide +kernel
theorem dX9_init_1 : decode cX9_init 1 = .ok (.invokespecial 1, 3) := by decide +kernel
theorem dX9_init_4 : decode cX9_init 4 = .ok (.aload_n 0, 1) := by decide +kernel
theorem dX9_init_5 : decode cX9_init 5 = .ok (.bipush 8, 2) := by decide +kernel
theorem dX9_init_7 : decode cX9_init 7 = .ok (.newarray .int, 2) := by decide +kernel
theorem dX9_init_9 : decode cX9_init 9 = .ok (.putfield 9, 3) := by decide +kernel
theorem dX9_init_12 : decode cX9_init 12 = .ok (.aload_n 0, 1) := by decide +kernel
theorem dX9_init_13 : decode cX9_init 13 = .ok (.bipush 8, 2) := by decide +kernel
theorem dX9_init_15 : decode cX9_init 15 = .ok (.newarray .int, 2) := by decide +kernel
theorem dX9_init_17 : decode cX9_init 17 = .ok (.putfield 13, 3) := by decide +kernel
theorem dX9_init_20 : decode cX9_init 20 = .ok (.aload_n 0, 1) := by decide +kernel
theorem dX9_init_21 : decode cX9_init 21 = .ok (.bipush 8, 2) := by decide +kernel
theorem dX9_init_23 : decode cX9_init 23 = .ok (.newarray .int, 2) := by decide +kernel
theorem dX9_init_25 : decode cX9_init 25 = .ok (.putfield 16, 3) := by decide +kernel
theorem dX9_init_28 : decode cX9_init 28 = .ok (.aload_n 0, 1) := by decide +kernel
theorem dX9_init_29 : decode cX9_init 29 = .ok (.bipush 8, 2) := by decide +kernel
theorem dX9_init_31 : decode cX9_init 31 = .ok (.newarray .int, 2) := by decide +kernel
theorem dX9_init_33 : decode cX9_init 33 = .ok (.putfield 19, 3) := by decide +kernel
theorem dX9_init_36 : decode cX9_init 36 = .ok (.aload_n 0, 1) := by decide +kernel
theorem dX9_init_37 : decode cX9_init 37 = .ok (.bipush 10, 2) := by decide +kernel
theorem dX9_init_39 : decode cX9_init 39 = .ok (.newarray .int, 2) := by decide +kernel
theorem dX9_init_41 : decode cX9_init 41 = .ok (.putfield 22, 3) := by decide +kernel
theorem dX9_init_44 : decode cX9_init 44 = .ok (.aload_n 0, 1) := by decide +kernel
theorem dX9_init_45 : decode cX9_init 45 = .ok (.bipush 10, 2) := by decide +kernel
theorem dX9_init_47 : decode cX9_init 47 = .ok (.newarray .int, 2) := by decide +kernel
theorem dX9_init_49 : decode cX9_init 49 = .ok (.putfield 25, 3) := by decide +kernel
theorem dX9_init_52 : decode cX9_init 52 = .ok (.aload_n 0, 1) := by decide +kernel
theorem dX9_init_53 : decode cX9_init 53 = .ok (.bipush 10, 2) := by decide +kernel
theorem dX9_init_55 : decode cX9_init 55 = .ok (.newarray .int, 2) := by decide +kernel
theorem dX9_init_57 : decode cX9_init 57 = .ok (.putfield 28, 3) := by decide +kernel
theorem dX9_init_60 : decode cX9_init 60 = .ok (.aload_n 0, 1) := by decide +kernel
theorem dX9_init_61 : decode cX9_init 61 = .ok (.bipush 10, 2) := by decide +kernel
theorem dX9_init_63 : decode cX9_init 63 = .ok (.newarray .int, 2) := by decide +kernel
theorem dX9_init_65 : decode cX9_init 65 = .ok (.putfield 31, 3) := by decide +kernel
theorem dX9_init_68 : decode cX9_init 68 = .ok (.aload_n 0, 1) := by decide +kernel
theorem dX9_init_69 : decode cX9_init 69 = .ok (.iconst 0, 1) := by decide +kernel
theorem dX9_init_70 : decode cX9_init 70 = .ok (.putfield 34, 3) := by decide +kernel
theorem dX9_init_73 : decode cX9_init 73 = .ok (.aload_n 0, 1) := by decide +kernel
theorem dX9_init_74 : decode cX9_init 74 = .ok (.iconst 0, 1) := by decide +kernel
theorem dX9_init_75 : decode cX9_init 75 = .ok (.putfield 38, 3) := by decide +kernel
theorem dX9_init_78 : decode cX9_init 78 = .ok (.return_, 1) := by decide +kernel
def w_X8_init : List Cond := .code yX8_init cX8_init 1 none :: ([Cond.methodLink RX8 1 objectInit, Cond.instanceMethod objectInit, Cond.code objectInit ⟨#[0xb1]⟩ 1 none, Cond.arrayClass .int, Cond.fieldLink RX8 9 "HeadYear$Tape" "bytes" "[I", Cond.fieldLink RX8 13 "HeadYear$Tape" "length" "I", Cond.fieldLink RX8 17 "HeadYear$Tape" "at" "I", Cond.fieldLink RX8 20 "HeadYear$Tape" "number" "I"] ++ (u_ws RX8 TX8 4 ++ ([])))
theorem in_X8_init_X8 : ∀ w ∈ u_ws RX8 TX8 4, w ∈ w_X8_init := fun _ h => List.mem_cons_of_mem _ (List.mem_append_right _ (List.mem_append_left _ h))
set_option maxHeartbeats 4000000 in
set_option maxRecDepth 100000 in
theorem c_X8_init (l : Launch) (E : py_E) (L : List Nat) (f : py_F) (sz : Nat) (h : Nat) (hh : py_at L f h (.inr (8, [.null, .int 0, .int 0, .int 0]))) : Met l yX8_init w_X8_init ({ frames := 1, cells := 1, slots := 160, locals := 12 }) (py_Pc E [.ref h] L f sz) (py_Qv E L f sz (fun L1 f1 => ∃ byt : Nat, py_at L1 f1 h (.inr (8, [.ref byt, .int 0, .int 0, .int 0])) ∧ py_at L1 f1 byt (.inl (E.2.1, 160, .inl (fun _ => 0))) ∧ py_ext L f L1 f1 h)) 1 160 (va_A (va_pl L f) sz) := by
  refine Met.ofW (cc := cX8_init) (maxL := 1) (ret := none) (by decide) rfl ?_
  intro p e s m args below meth c s₁ B hml hv
  obtain ⟨rfl, rfl, hw⟩ := py_start hv
  have G : CallFix p m c cX8_init 1 s _ w_X8_init RX8 := ⟨B.exec, B.bytes, hml, findClass_of_methodNamed B.named, atoms_spec (ws := w_X8_init) B.pre⟩
  have hr := B.returns
  have hlk := B.notSynchronized
  have hin : meth.name = "<init>" := (name_of_methodNamed B.named B.method).1
  have hl := lv_entry ([.ref h]) (n := 1) (Nat.le_of_ble_eq_true rfl)
  rw [lg_entry_eq]
  generalize (lg_sl ([.ref h]) ++ List.replicate (1 - (lg_sl ([.ref h])).length) Slot.unset).toArray = ls at hl ⊢
  have hl : lv_has ls 1 [(0, .ref h)] := hl
  refine lv_aload_n G.1 G.2.1 dX8_init_0 rfl (lv_at hl 0 rfl) ?_
  refine py_objInit G hl.1 (by decide +kernel) (by decide +kernel) (by decide +kernel) dX8_init_1 (Nat.le_of_ble_eq_true rfl) (Nat.le_of_ble_eq_true rfl) ?_
  refine lv_aload_n G.1 G.2.1 dX8_init_4 rfl (lv_at hl 0 rfl) ?_
  refine lv_sipush (v := 160) G.1 G.2.1 dX8_init_5 (by decide) ?_
  refine py_newI (N := 160) G hw (by decide +kernel) (by decide) (by decide) (Nat.le_of_ble_eq_true rfl) (Nat.le_of_ble_eq_true rfl) (Nat.le_of_ble_eq_true rfl) dX8_init_8 (fun q_1 L_2 f_3 H_4 hq_5 h_6 x_7 hw => ?_)
  have ne_8 : h ≠ q_1 := py_ne_new hh hq_5
  have hh := hh.all x_7
  refine py_putF (C := RX8) (T := TX8) (N := 4) (k := 0) (v := .ref q_1) (fs' := [.ref q_1, .int 0, .int 0, .int 0]) (ty0 := tyX8) G hin hw tyX8_ok nmX8 in_X8_init_X8 rfl hh (by decide) (by decide +kernel) rfl rfl rfl rfl rfl (Nat.le_of_ble_eq_true rfl) rfl dX8_init_10 (fun f_9 H_10 locs h_11 x_12 hw => ?_)
  have h_6 := h_6.ext x_12 (Ne.symm ne_8)
  refine lv_aload_n G.1 G.2.1 dX8_init_13 rfl (lv_at hl 0 rfl) ?_
  refine lv_iconst (v := 0) G.1 G.2.1 dX8_init_14 (by decide) ?_
  refine py_put (C := RX8) (T := TX8) (N := 4) (k := 1) (v := .int 0) (fs' := [.ref q_1, .int 0, .int 0, .int 0]) (ty0 := tyX8) G hw tyX8_ok nmX8 in_X8_init_X8 rfl h_11 (by decide) (by decide +kernel) rfl rfl rfl rfl (Nat.le_of_ble_eq_true rfl) rfl dX8_init_15 (fun f_13 H_14 locs h_15 x_16 hw => ?_)
  have h_6 := h_6.ext x_16 (Ne.symm ne_8)
  refine lv_aload_n G.1 G.2.1 dX8_init_18 rfl (lv_at hl 0 rfl) ?_
  refine lv_iconst (v := 0) G.1 G.2.1 dX8_init_19 (by decide) ?_
  refine py_put (C := RX8) (T := TX8) (N := 4) (k := 2) (v := .int 0) (fs' := [.ref q_1, .int 0, .int 0, .int 0]) (ty0 := tyX8) G hw tyX8_ok nmX8 in_X8_init_X8 rfl h_15 (by decide) (by decide +kernel) rfl rfl rfl rfl (Nat.le_of_ble_eq_true rfl) rfl dX8_init_20 (fun f_17 H_18 locs h_19 x_20 hw => ?_)
  have h_6 := h_6.ext x_20 (Ne.symm ne_8)
  refine lv_aload_n G.1 G.2.1 dX8_init_23 rfl (lv_at hl 0 rfl) ?_
  refine lv_iconst (v := 0) G.1 G.2.1 dX8_init_24 (by decide) ?_
  refine py_put (C := RX8) (T := TX8) (N := 4) (k := 3) (v := .int 0) (fs' := [.ref q_1, .int 0, .int 0, .int 0]) (ty0 := tyX8) G hw tyX8_ok nmX8 in_X8_init_X8 rfl h_19 (by decide) (by decide +kernel) rfl rfl rfl rfl (Nat.le_of_ble_eq_true rfl) rfl dX8_init_25 (fun f_21 H_22 locs h_23 x_24 hw => ?_)
  have h_6 := h_6.ext x_24 (Ne.symm ne_8)
  refine W.widen (k := 1) (n := 160) (Nat.le_of_ble_eq_true rfl) (Nat.le_of_ble_eq_true rfl) ?_
  have xt_25 : py_ext L f L_2 f_21 h := fun b hb hn => by
    have n1 : b ≠ q_1 := fun h => hq_5 (h ▸ hb)
    obtain ⟨m1, e1⟩ := x_7 b hb
    obtain ⟨m2, e2⟩ := x_12 b m1 hn
    obtain ⟨m3, e3⟩ := x_16 b m2 hn
    obtain ⟨m4, e4⟩ := x_20 b m3 hn
    obtain ⟨m5, e5⟩ := x_24 b m4 hn
    exact ⟨m5, e5.trans (e4.trans (e3.trans (e2.trans (e1.trans (rfl)))))⟩
  exact py_vret G hr hlk hw ⟨_, h_23, h_6, xt_25⟩ dX8_init_28

def w_X9_init : List Cond := .code yX9_init cX9_init 1 none :: ([Cond.methodLink RX9 1 objectInit, Cond.instanceMethod objectInit, Cond.code objectInit ⟨#[0xb1]⟩ 1 none, Cond.arrayClass .int, Cond.fieldLink RX9 9 "HeadYear$Valley" "huts" "[I", Cond.fieldLink RX9 13 "HeadYear$Valley" "food" "[I", Cond.fieldLink RX9 16 "HeadYear$Valley" "danger" "[I", Cond.fieldLink RX9 19 "HeadYear$Valley" "brow" "[I", Cond.fieldLink RX9 22 "HeadYear$Valley" "firstHeads" "[I", Cond.fieldLink RX9 25 "HeadYear$Valley" "firstLevel" "[I", Cond.fieldLink RX9 28 "HeadYear$Valley" "birth" "[I", Cond.fieldLink RX9 31 "HeadYear$Valley" "twin" "[I", Cond.fieldLink RX9 34 "HeadYear$Valley" "levels" "I", Cond.fieldLink RX9 38 "HeadYear$Valley" "families" "I"] ++ (u_ws RX9 TX9 10 ++ ([])))
theorem in_X9_init_X9 : ∀ w ∈ u_ws RX9 TX9 10, w ∈ w_X9_init := fun _ h => List.mem_cons_of_mem _ (List.mem_append_right _ (List.mem_append_left _ h))
set_option maxHeartbeats 4000000 in
set_option maxRecDepth 100000 in
theorem c_X9_init (l : Launch) (E : py_E) (L : List Nat) (f : py_F) (sz : Nat) (h : Nat) (hh : py_at L f h (.inr (9, [.null, .null, .null, .null, .null, .null, .null, .null, .int 0, .int 0]))) : Met l yX9_init w_X9_init ({ frames := 1, cells := 8, slots := 72, locals := 12 }) (py_Pc E [.ref h] L f sz) (py_Qv E L f sz (fun L1 f1 => ∃ xs : List Value, py_at L1 f1 h (.inr (9, xs)) ∧ xs.length = 10 ∧ xs[8]? = some (.int 0) ∧ xs[9]? = some (.int 0) ∧ py_ext L f L1 f1 h)) 8 72 (va_A (va_pl L f) sz) := by
  refine Met.ofW (cc := cX9_init) (maxL := 1) (ret := none) (by decide) rfl ?_
  intro p e s m args below meth c s₁ B hml hv
  obtain ⟨rfl, rfl, hw⟩ := py_start hv
  have G : CallFix p m c cX9_init 1 s _ w_X9_init RX9 := ⟨B.exec, B.bytes, hml, findClass_of_methodNamed B.named, atoms_spec (ws := w_X9_init) B.pre⟩
  have hr := B.returns
  have hlk := B.notSynchronized
  have hin : meth.name = "<init>" := (name_of_methodNamed B.named B.method).1
  have hl := lv_entry ([.ref h]) (n := 1) (Nat.le_of_ble_eq_true rfl)
  rw [lg_entry_eq]
  generalize (lg_sl ([.ref h]) ++ List.replicate (1 - (lg_sl ([.ref h])).length) Slot.unset).toArray = ls at hl ⊢
  have hl : lv_has ls 1 [(0, .ref h)] := hl
  refine lv_aload_n G.1 G.2.1 dX9_init_0 rfl (lv_at hl 0 rfl) ?_
  refine py_objInit G hl.1 (by decide +kernel) (by decide +kernel) (by decide +kernel) dX9_init_1 (Nat.le_of_ble_eq_true rfl) (Nat.le_of_ble_eq_true rfl) ?_
  refine lv_aload_n G.1 G.2.1 dX9_init_4 rfl (lv_at hl 0 rfl) ?_
  refine lv_bipush (v := 8) G.1 G.2.1 dX9_init_5 (by decide) ?_
  refine py_newI (N := 8) G hw (by decide +kernel) (by decide) (by decide) (Nat.le_of_ble_eq_true rfl) (Nat.le_of_ble_eq_true rfl) (Nat.le_of_ble_eq_true rfl) dX9_init_7 (fun q_1 L_2 f_3 H_4 hq_5 h_6 x_7 hw => ?_)
  have ne_8 : h ≠ q_1 := py_ne_new hh hq_5
  have hh := hh.all x_7
  refine py_putF (C := RX9) (T := TX9) (N := 10) (k := 0) (v := .ref q_1) (fs' := [.ref q_1, .null, .null, .null, .null, .null, .null, .null, .int 0, .int 0]) (ty0 := tyX9) G hin hw tyX9_ok nmX9 in_X9_init_X9 rfl hh (by decide) (by decide +kernel) rfl rfl rfl rfl rfl (Nat.le_of_ble_eq_true rfl) rfl dX9_init_9 (fun f_9 H_10 locs h_11 x_12 hw => ?_)
  refine lv_aload_n G.1 G.2.1 dX9_init_12 rfl (lv_at hl 0 rfl) ?_
  refine lv_bipush (v := 8) G.1 G.2.1 dX9_init_13 (by decide) ?_
  refine py_newI (N := 8) G hw (by decide +kernel) (by decide) (by decide) (Nat.le_of_ble_eq_true rfl) (Nat.le_of_ble_eq_true rfl) (Nat.le_of_ble_eq_true rfl) dX9_init_15 (fun q_13 L_14 f_15 H_16 hq_17 h_18 x_19 hw => ?_)
  have ne_20 : h ≠ q_13 := py_ne_new h_11 hq_17
  have h_11 := h_11.all x_19
  refine py_putF (C := RX9) (T := TX9) (N := 10) (k := 1) (v := .ref q_13) (fs' := [.ref q_1, .ref q_13, .null, .null, .null, .null, .null, .null, .int 0, .int 0]) (ty0 := tyX9) G hin hw tyX9_ok nmX9 in_X9_init_X9 rfl h_11 (by decide) (by decide +kernel) rfl rfl rfl rfl rfl (Nat.le_of_ble_eq_true rfl) rfl dX9_init_17 (fun f_21 H_22 locs h_23 x_24 hw => ?_)
  refine lv_aload_n G.1 G.2.1 dX9_init_20 rfl (lv_at hl 0 rfl) ?_
  refine lv_bipush (v := 8) G.1 G.2.1 dX9_init_21 (by decide) ?_
  refine py_newI (N := 8) G hw (by decide +kernel) (by decide) (by decide) (Nat.le_of_ble_eq_true rfl) (Nat.le_of_ble_eq_true rfl) (Nat.le_of_ble_eq_true rfl) dX9_init_23 (fun q_25 L_26 f_27 H_28 hq_29 h_30 x_31 hw => ?_)
  have ne_32 : h ≠ q_25 := py_ne_new h_23 hq_29
  have h_23 := h_23.all x_31
  refine py_putF (C := RX9) (T := TX9) (N := 10) (k := 2) (v := .ref q_25) (fs' := [.ref q_1, .ref q_13, .ref q_25, .null, .null, .null, .null, .null, .int 0, .int 0]) (ty0 := tyX9) G hin hw tyX9_ok nmX9 in_X9_init_X9 rfl h_23 (by decide) (by decide +kernel) rfl rfl rfl rfl rfl (Nat.le_of_ble_eq_true rfl) rfl dX9_init_25 (fun f_33 H_34 locs h_35 x_36 hw => ?_)
  refine lv_aload_n G.1 G.2.1 dX9_init_28 rfl (lv_at hl 0 rfl) ?_
  refine lv_bipush (v := 8) G.1 G.2.1 dX9_init_29 (by decide) ?_
  refine py_newI (N := 8) G hw (by decide +kernel) (by decide) (by decide) (Nat.le_of_ble_eq_true rfl) (Nat.le_of_ble_eq_true rfl) (Nat.le_of_ble_eq_true rfl) dX9_init_31 (fun q_37 L_38 f_39 H_40 hq_41 h_42 x_43 hw => ?_)
  have ne_44 : h ≠ q_37 := py_ne_new h_35 hq_41
  have h_35 := h_35.all x_43
  refine py_putF (C := RX9) (T := TX9) (N := 10) (k := 3) (v := .ref q_37) (fs' := [.ref q_1, .ref q_13, .ref q_25, .ref q_37, .null, .null, .null, .null, .int 0, .int 0]) (ty0 := tyX9) G hin hw tyX9_ok nmX9 in_X9_init_X9 rfl h_35 (by decide) (by decide +kernel) rfl rfl rfl rfl rfl (Nat.le_of_ble_eq_true rfl) rfl dX9_init_33 (fun f_45 H_46 locs h_47 x_48 hw => ?_)
  refine lv_aload_n G.1 G.2.1 dX9_init_36 rfl (lv_at hl 0 rfl) ?_
  refine lv_bipush (v := 10) G.1 G.2.1 dX9_init_37 (by decide) ?_
  refine py_newI (N := 10) G hw (by decide +kernel) (by decide) (by decide) (Nat.le_of_ble_eq_true rfl) (Nat.le_of_ble_eq_true rfl) (Nat.le_of_ble_eq_true rfl) dX9_init_39 (fun q_49 L_50 f_51 H_52 hq_53 h_54 x_55 hw => ?_)
  have ne_56 : h ≠ q_49 := py_ne_new h_47 hq_53
  have h_47 := h_47.all x_55
  refine py_putF (C := RX9) (T := TX9) (N := 10) (k := 4) (v := .ref q_49) (fs' := [.ref q_1, .ref q_13, .ref q_25, .ref q_37, .ref q_49, .null, .null, .null, .int 0, .int 0]) (ty0 := tyX9) G hin hw tyX9_ok nmX9 in_X9_init_X9 rfl h_47 (by decide) (by decide +kernel) rfl rfl rfl rfl rfl (Nat.le_of_ble_eq_true rfl) rfl dX9_init_41 (fun f_57 H_58 locs h_59 x_60 hw => ?_)
  refine lv_aload_n G.1 G.2.1 dX9_init_44 rfl (lv_at hl 0 rfl) ?_
  refine lv_bipush (v := 10) G.1 G.2.1 dX9_init_45 (by decide) ?_
  refine py_newI (N := 10) G hw (by decide +kernel) (by decide) (by decide) (Nat.le_of_ble_eq_true rfl) (Nat.le_of_ble_eq_true rfl) (Nat.le_of_ble_eq_true rfl) dX9_init_47 (fun q_61 L_62 f_63 H_64 hq_65 h_66 x_67 hw => ?_)
  have ne_68 : h ≠ q_61 := py_ne_new h_59 hq_65
  have h_59 := h_59.all x_67
  refine py_putF (C := RX9) (T := TX9) (N := 10) (k := 5) (v := .ref q_61) (fs' := [.ref q_1, .ref q_13, .ref q_25, .ref q_37, .ref q_49, .ref q_61, .null, .null, .int 0, .int 0]) (ty0 := tyX9) G hin hw tyX9_ok nmX9 in_X9_init_X9 rfl h_59 (by decide) (by decide +kernel) rfl rfl rfl rfl rfl (Nat.le_of_ble_eq_true rfl) rfl dX9_init_49 (fun f_69 H_70 locs h_71 x_72 hw => ?_)
  refine lv_aload_n G.1 G.2.1 dX9_init_52 rfl (lv_at hl 0 rfl) ?_
  refine lv_bipush (v := 10) G.1 G.2.1 dX9_init_53 (by decide) ?_
  refine py_newI (N := 10) G hw (by decide +kernel) (by decide) (by decide) (Nat.le_of_ble_eq_true rfl) (Nat.le_of_ble_eq_true rfl) (Nat.le_of_ble_eq_true rfl) dX9_init_55 (fun q_73 L_74 f_75 H_76 hq_77 h_78 x_79 hw => ?_)
  have ne_80 : h ≠ q_73 := py_ne_new h_71 hq_77
  have h_71 := h_71.all x_79
  refine py_putF (C := RX9) (T := TX9) (N := 10) (k := 6) (v := .ref q_73) (fs' := [.ref q_1, .ref q_13, .ref q_25, .ref q_37, .ref q_49, .ref q_61, .ref q_73, .null, .int 0, .int 0]) (ty0 := tyX9) G hin hw tyX9_ok nmX9 in_X9_init_X9 rfl h_71 (by decide) (by decide +kernel) rfl rfl rfl rfl rfl (Nat.le_of_ble_eq_true rfl) rfl dX9_init_57 (fun f_81 H_82 locs h_83 x_84 hw => ?_)
  refine lv_aload_n G.1 G.2.1 dX9_init_60 rfl (lv_at hl 0 rfl) ?_
  refine lv_bipush (v := 10) G.1 G.2.1 dX9_init_61 (by decide) ?_
  refine py_newI (N := 10) G hw (by decide +kernel) (by decide) (by decide) (Nat.le_of_ble_eq_true rfl) (Nat.le_of_ble_eq_true rfl) (Nat.le_of_ble_eq_true rfl) dX9_init_63 (fun q_85 L_86 f_87 H_88 hq_89 h_90 x_91 hw => ?_)
  have ne_92 : h ≠ q_85 := py_ne_new h_83 hq_89
  have h_83 := h_83.all x_91
  refine py_putF (C := RX9) (T := TX9) (N := 10) (k := 7) (v := .ref q_85) (fs' := [.ref q_1, .ref q_13, .ref q_25, .ref q_37, .ref q_49, .ref q_61, .ref q_73, .ref q_85, .int 0, .int 0]) (ty0 := tyX9) G hin hw tyX9_ok nmX9 in_X9_init_X9 rfl h_83 (by decide) (by decide +kernel) rfl rfl rfl rfl rfl (Nat.le_of_ble_eq_true rfl) rfl dX9_init_65 (fun f_93 H_94 locs h_95 x_96 hw => ?_)
  refine lv_aload_n G.1 G.2.1 dX9_init_68 rfl (lv_at hl 0 rfl) ?_
  refine lv_iconst (v := 0) G.1 G.2.1 dX9_init_69 (by decide) ?_
  refine py_put (C := RX9) (T := TX9) (N := 10) (k := 8) (v := .int 0) (fs' := [.ref q_1, .ref q_13, .ref q_25, .ref q_37, .ref q_49, .ref q_61, .ref q_73, .ref q_85, .int 0, .int 0]) (ty0 := tyX9) G hw tyX9_ok nmX9 in_X9_init_X9 rfl h_95 (by decide) (by decide +kernel) rfl rfl rfl rfl (Nat.le_of_ble_eq_true rfl) rfl dX9_init_70 (fun f_97 H_98 locs h_99 x_100 hw => ?_)
  refine lv_aload_n G.1 G.2.1 dX9_init_73 rfl (lv_at hl 0 rfl) ?_
  refine lv_iconst (v := 0) G.1 G.2.1 dX9_init_74 (by decide) ?_
  refine py_put (C := RX9) (T := TX9) (N := 10) (k := 9) (v := .int 0) (fs' := [.ref q_1, .ref q_13, .ref q_25, .ref q_37, .ref q_49, .ref q_61, .ref q_73, .ref q_85, .int 0, .int 0]) (ty0 := tyX9) G hw tyX9_ok nmX9 in_X9_init_X9 rfl h_99 (by decide) (by decide +kernel) rfl rfl rfl rfl (Nat.le_of_ble_eq_true rfl) rfl dX9_init_75 (fun f_101 H_102 locs h_103 x_104 hw => ?_)
  refine W.widen (k := 8) (n := 72) (Nat.le_of_ble_eq_true rfl) (Nat.le_of_ble_eq_true rfl) ?_
  have xt_105 : py_ext L f L_86 f_101 h := fun b hb hn => by
    have n1 : b ≠ q_1 := fun h => hq_5 (h ▸ hb)
    obtain ⟨m1, e1⟩ := x_7 b hb
    obtain ⟨m2, e2⟩ := x_12 b m1 hn
    have n3 : b ≠ q_13 := fun h => hq_17 (h ▸ m2)
    obtain ⟨m3, e3⟩ := x_19 b m2
    obtain ⟨m4, e4⟩ := x_24 b m3 hn
    have n5 : b ≠ q_25 := fun h => hq_29 (h ▸ m4)
    obtain ⟨m5, e5⟩ := x_31 b m4
    obtain ⟨m6, e6⟩ := x_36 b m5 hn
    have n7 : b ≠ q_37 := fun h => hq_41 (h ▸ m6)
    obtain ⟨m7, e7⟩ := x_43 b m6
    obtain ⟨m8, e8⟩ := x_48 b m7 hn
    have n9 : b ≠ q_49 := fun h => hq_53 (h ▸ m8)
    obtain ⟨m9, e9⟩ := x_55 b m8
    obtain ⟨m10, e10⟩ := x_60 b m9 hn
    have n11 : b ≠ q_61 := fun h => hq_65 (h ▸ m10)
    obtain ⟨m11, e11⟩ := x_67 b m10
    obtain ⟨m12, e12⟩ := x_72 b m11 hn
    have n13 : b ≠ q_73 := fun h => hq_77 (h ▸ m12)
    obtain ⟨m13, e13⟩ := x_79 b m12
    obtain ⟨m14, e14⟩ := x_84 b m13 hn
    have n15 : b ≠ q_85 := fun h => hq_89 (h ▸ m14)
    obtain ⟨m15, e15⟩ := x_91 b m14
    obtain ⟨m16, e16⟩ := x_96 b m15 hn
    obtain ⟨m17, e17⟩ := x_100 b m16 hn
    obtain ⟨m18, e18⟩ := x_104 b m17 hn
    exact ⟨m18, e18.trans (e17.trans (e16.trans (e15.trans (e14.trans (e13.trans (e12.trans (e11.trans (e10.trans (e9.trans (e8.trans (e7.trans (e6.trans (e5.trans (e4.trans (e3.trans (e2.trans (e1.trans (rfl))))))))))))))))))⟩
  exact py_vret G hr hlk hw ⟨_, h_103, rfl, rfl, rfl, xt_105⟩ dX9_init_78

def w_X3_init : List Cond := .code yX3_init cX3_init 1 none :: ([Cond.methodLink RX3 1 objectInit, Cond.instanceMethod objectInit, Cond.code objectInit ⟨#[0xb1]⟩ 1 none, Cond.arrayClass .int, Cond.fieldLink RX3 9 "HeadYear$Law" "code" "[I", Cond.fieldLink RX3 15 "HeadYear$Law" "stack" "[I", Cond.fieldLink RX3 18 "HeadYear$Law" "length" "I"] ++ (u_ws RX3 TX3 3 ++ ([])))
theorem in_X3_init_X3 : ∀ w ∈ u_ws RX3 TX3 3, w ∈ w_X3_init := fun _ h => List.mem_cons_of_mem _ (List.mem_append_right _ (List.mem_append_left _ h))
set_option maxHeartbeats 4000000 in
set_option maxRecDepth 100000 in
theorem c_X3_init (l : Launch) (E : py_E) (L : List Nat) (f : py_F) (sz : Nat) (h : Nat) (hh : py_at L f h (.inr (3, [.null, .null, .int 0]))) : Met l yX3_init w_X3_init ({ frames := 1, cells := 2, slots := 192, locals := 12 }) (py_Pc E [.ref h] L f sz) (py_Qv E L f sz (fun L1 f1 => ∃ co st : Nat, py_at L1 f1 h (.inr (3, [.ref co, .ref st, .int 0])) ∧ py_at L1 f1 co (.inl (E.2.1, 160, .inl (fun _ => 0))) ∧ co ∉ L ∧ py_ext L f L1 f1 h)) 2 192 (va_A (va_pl L f) sz) := by
  refine Met.ofW (cc := cX3_init) (maxL := 1) (ret := none) (by decide) rfl ?_
  intro p e s m args below meth c s₁ B hml hv
  obtain ⟨rfl, rfl, hw⟩ := py_start hv
  have G : CallFix p m c cX3_init 1 s _ w_X3_init RX3 := ⟨B.exec, B.bytes, hml, findClass_of_methodNamed B.named, atoms_spec (ws := w_X3_init) B.pre⟩
  have hr := B.returns
  have hlk := B.notSynchronized
  have hin : meth.name = "<init>" := (name_of_methodNamed B.named B.method).1
  have hl := lv_entry ([.ref h]) (n := 1) (Nat.le_of_ble_eq_true rfl)
  rw [lg_entry_eq]
  generalize (lg_sl ([.ref h]) ++ List.replicate (1 - (lg_sl ([.ref h])).length) Slot.unset).toArray = ls at hl ⊢
  have hl : lv_has ls 1 [(0, .ref h)] := hl
  refine lv_aload_n G.1 G.2.1 dX3_init_0 rfl (lv_at hl 0 rfl) ?_
  refine py_objInit G hl.1 (by decide +kernel) (by decide +kernel) (by decide +kernel) dX3_init_1 (Nat.le_of_ble_eq_true rfl) (Nat.le_of_ble_eq_true rfl) ?_
  refine lv_aload_n G.1 G.2.1 dX3_init_4 rfl (lv_at hl 0 rfl) ?_
  refine lv_sipush (v := 160) G.1 G.2.1 dX3_init_5 (by decide) ?_
  refine py_newI (N := 160) G hw (by decide +kernel) (by decide) (by decide) (Nat.le_of_ble_eq_true rfl) (Nat.le_of_ble_eq_true rfl) (Nat.le_of_ble_eq_true rfl) dX3_init_8 (fun q_1 L_2 f_3 H_4 hq_5 h_6 x_7 hw => ?_)
  have ne_8 : h ≠ q_1 := py_ne_new hh hq_5
  have hh := hh.all x_7
  refine py_putF (C := RX3) (T := TX3) (N := 3) (k := 0) (v := .ref q_1) (fs' := [.ref q_1, .null, .int 0]) (ty0 := tyX3) G hin hw tyX3_ok nmX3 in_X3_init_X3 rfl hh (by decide) (by decide +kernel) rfl rfl rfl rfl rfl (Nat.le_of_ble_eq_true rfl) rfl dX3_init_10 (fun f_9 H_10 locs h_11 x_12 hw => ?_)
  have h_6 := h_6.ext x_12 (Ne.symm ne_8)
  refine lv_aload_n G.1 G.2.1 dX3_init_13 rfl (lv_at hl 0 rfl) ?_
  refine lv_bipush (v := 32) G.1 G.2.1 dX3_init_14 (by decide) ?_
  refine py_newI (N := 32) G hw (by decide +kernel) (by decide) (by decide) (Nat.le_of_ble_eq_true rfl) (Nat.le_of_ble_eq_true rfl) (Nat.le_of_ble_eq_true rfl) dX3_init_16 (fun q_13 L_14 f_15 H_16 hq_17 h_18 x_19 hw => ?_)
  have ne_20 : h ≠ q_13 := py_ne_new h_11 hq_17
  have h_11 := h_11.all x_19
  have ne_21 : q_1 ≠ q_13 := py_ne_new h_6 hq_17
  have h_6 := h_6.all x_19
  refine py_putF (C := RX3) (T := TX3) (N := 3) (k := 1) (v := .ref q_13) (fs' := [.ref q_1, .ref q_13, .int 0]) (ty0 := tyX3) G hin hw tyX3_ok nmX3 in_X3_init_X3 rfl h_11 (by decide) (by decide +kernel) rfl rfl rfl rfl rfl (Nat.le_of_ble_eq_true rfl) rfl dX3_init_18 (fun f_22 H_23 locs h_24 x_25 hw => ?_)
  have h_6 := h_6.ext x_25 (Ne.symm ne_8)
  refine lv_aload_n G.1 G.2.1 dX3_init_21 rfl (lv_at hl 0 rfl) ?_
  refine lv_iconst (v := 0) G.1 G.2.1 dX3_init_22 (by decide) ?_
  refine py_put (C := RX3) (T := TX3) (N := 3) (k := 2) (v := .int 0) (fs' := [.ref q_1, .ref q_13, .int 0]) (ty0 := tyX3) G hw tyX3_ok nmX3 in_X3_init_X3 rfl h_24 (by decide) (by decide +kernel) rfl rfl rfl rfl (Nat.le_of_ble_eq_true rfl) rfl dX3_init_23 (fun f_26 H_27 locs h_28 x_29 hw => ?_)
  have h_6 := h_6.ext x_29 (Ne.symm ne_8)
  refine W.widen (k := 2) (n := 192) (Nat.le_of_ble_eq_true rfl) (Nat.le_of_ble_eq_true rfl) ?_
  have xt_30 : py_ext L f L_14 f_26 h := fun b hb hn => by
    have n1 : b ≠ q_1 := fun h => hq_5 (h ▸ hb)
    obtain ⟨m1, e1⟩ := x_7 b hb
    obtain ⟨m2, e2⟩ := x_12 b m1 hn
    have n3 : b ≠ q_13 := fun h => hq_17 (h ▸ m2)
    obtain ⟨m3, e3⟩ := x_19 b m2
    obtain ⟨m4, e4⟩ := x_25 b m3 hn
    obtain ⟨m5, e5⟩ := x_29 b m4 hn
    exact ⟨m5, e5.trans (e4.trans (e3.trans (e2.trans (e1.trans (rfl)))))⟩
  exact py_vret G hr hlk hw ⟨_, _, h_28, h_6, hq_5, xt_30⟩ dX3_init_26

def w_X10_init : List Cond := .code yX10_init cX10_init 1 none :: ([Cond.methodLink RX10 3 objectInit, Cond.instanceMethod objectInit, Cond.code objectInit ⟨#[0xb1]⟩ 1 none, Cond.arrayClass .int, Cond.fieldLink RX10 11 "HeadYear$ValleyReader" "items" "[I", Cond.classLink RX10 15 RX9, Cond.instantiable RX9 10, Cond.initialized RX9, Cond.instanceMethod yX9_init, Cond.fieldLink RX10 18 "HeadYear$ValleyReader" "draft" "LHeadYear$Valley;"] ++ (u_ws RX10 TX10 2 ++ (u_ws RX9 TX9 10 ++ (w_X9_init ++ ([])))))
theorem in_X10_init_X10 : ∀ w ∈ u_ws RX10 TX10 2, w ∈ w_X10_init := fun _ h => List.mem_cons_of_mem _ (List.mem_append_right _ (List.mem_append_left _ h))
theorem in_X10_init_X9 : ∀ w ∈ u_ws RX9 TX9 10, w ∈ w_X10_init := fun _ h => List.mem_cons_of_mem _ (List.mem_append_right _ (List.mem_append_right _ (List.mem_append_left _ h)))
theorem gg_X10_init_X9_init : GoodIn w_X10_init w_X9_init := goodIn_sub (fun _ h => List.mem_cons_of_mem _ (List.mem_append_right _ (List.mem_append_right _ (List.mem_append_right _ (List.mem_append_left _ h))))) (by decide +kernel)
theorem g_X10_init_X9_init_17 : GoodIn w_X10_init w_X9_init := gg_X10_init_X9_init
set_option maxHeartbeats 4000000 in
set_option maxRecDepth 100000 in
theorem c_X10_init (l : Launch) (E : py_E) (L : List Nat) (f : py_F) (sz : Nat) (h : Nat) (hh : py_at L f h (.inr (10, [.null, .null]))) : Met l yX10_init w_X10_init ({ frames := 2, cells := 10, slots := 86, locals := 32 }) (py_Pc E [.ref h] L f sz) (py_Qv E L f sz (fun L1 f1 => ∃ (itm dr : Nat) (xd : List Value), py_at L1 f1 h (.inr (10, [.ref itm, .ref dr])) ∧ py_at L1 f1 dr (.inr (9, xd)) ∧ xd.length = 10 ∧ py_ext L f L1 f1 h)) 10 86 (va_A (va_pl L f) sz) := by
  refine Met.ofW (cc := cX10_init) (maxL := 1) (ret := none) (by decide) rfl ?_
  intro p e s m args below meth c s₁ B hml hv
  obtain ⟨rfl, rfl, hw⟩ := py_start hv
  have G : CallFix p m c cX10_init 1 s _ w_X10_init RX10 := ⟨B.exec, B.bytes, hml, findClass_of_methodNamed B.named, atoms_spec (ws := w_X10_init) B.pre⟩
  have hr := B.returns
  have hlk := B.notSynchronized
  have hin : meth.name = "<init>" := (name_of_methodNamed B.named B.method).1
  have hl := lv_entry ([.ref h]) (n := 1) (Nat.le_of_ble_eq_true rfl)
  rw [lg_entry_eq]
  generalize (lg_sl ([.ref h]) ++ List.replicate (1 - (lg_sl ([.ref h])).length) Slot.unset).toArray = ls at hl ⊢
  have hl : lv_has ls 1 [(0, .ref h)] := hl
  refine lv_aload_n G.1 G.2.1 dX10_init_0 rfl (lv_at hl 0 rfl) ?_
  refine py_objInit G hl.1 (by decide +kernel) (by decide +kernel) (by decide +kernel) dX10_init_1 (Nat.le_of_ble_eq_true rfl) (Nat.le_of_ble_eq_true rfl) ?_
  refine lv_aload_n G.1 G.2.1 dX10_init_4 rfl (lv_at hl 0 rfl) ?_
  refine lv_iconst (v := 4) G.1 G.2.1 dX10_init_5 (by decide) ?_
  refine py_newI (N := 4) G hw (by decide +kernel) (by decide) (by decide) (Nat.le_of_ble_eq_true rfl) (Nat.le_of_ble_eq_true rfl) (Nat.le_of_ble_eq_true rfl) dX10_init_6 (fun q_1 L_2 f_3 H_4 hq_5 h_6 x_7 hw => ?_)
  have ne_8 : h ≠ q_1 := py_ne_new hh hq_5
  have hh := hh.all x_7
  refine py_putF (C := RX10) (T := TX10) (N := 2) (k := 0) (v := .ref q_1) (fs' := [.ref q_1, .null]) (ty0 := tyX10) G hin hw tyX10_ok nmX10 in_X10_init_X10 rfl hh (by decide) (by decide +kernel) rfl rfl rfl rfl rfl (Nat.le_of_ble_eq_true rfl) rfl dX10_init_8 (fun f_9 H_10 locs h_11 x_12 hw => ?_)
  refine lv_aload_n G.1 G.2.1 dX10_init_11 rfl (lv_at hl 0 rfl) ?_
  refine py_new (C := RX9) (T := TX9) (N := 10) (ci := 9) (fs := [.null, .null, .null, .null, .null, .null, .null, .null, .int 0, .int 0]) (ty0 := tyX9) G hw tyX9_ok in_X10_init_X9 rfl (by decide +kernel) (by decide +kernel) (by decide +kernel) (fun j hj => match j, hj with | 0, _ => rfl | 1, _ => rfl | 2, _ => rfl | 3, _ => rfl | 4, _ => rfl | 5, _ => rfl | 6, _ => rfl | 7, _ => rfl | 8, _ => rfl | 9, _ => rfl | n + 10, h => absurd h (by omega)) (Nat.le_of_ble_eq_true rfl) (Nat.le_of_ble_eq_true rfl) dX10_init_12 (fun q_13 L_14 f_15 H_16 hq_17 h_18 x_19 hw => ?_)
  have ne_20 : h ≠ q_13 := py_ne_new h_11 hq_17
  have h_11 := h_11.all x_19
  refine lv_dup G.1 G.2.1 dX10_init_15 rfl ?_
  refine py_callv hw (va_runIN (As := []) (rest := [.ref q_13, .ref h]) G (c_X9_init l E L_14 f_15 H_16.size q_13 h_18) ⟨va_cnB 0 G.2.2.2.2 g_X10_init_X9_init_17 rfl rfl rfl (hw.1.2.2 (RX10, 17, yX9_init) (List.mem_of_getElem? (i := 2) rfl)) (G.2.2.2.2 (Cond.initialized RX9) (by decide +kernel)) (by decide +kernel) ⟨(Nat.le_of_ble_eq_true rfl), (Nat.le_of_ble_eq_true rfl)⟩, rfl, G.2.2.2.2 (Cond.instanceMethod yX9_init) (by decide +kernel)⟩ (py_preS hw) rfl rfl hl.1 rfl (lv_room (Nat.le_of_ble_eq_true rfl)) dX10_init_16 ⟨(Nat.le_of_ble_eq_true rfl), (Nat.le_of_ble_eq_true rfl)⟩) (fun L_21 f_22 H_23 locs hp_24 hw => ?_)
  obtain ⟨xs_27, h_28, hl_29, hp_30, hp_31, x_26⟩ := hp_24
  have h_11 := h_11.ext x_26 ne_20
  refine py_put (C := RX10) (T := TX10) (N := 2) (k := 1) (v := .ref q_13) (fs' := [.ref q_1, .ref q_13]) (ty0 := tyX10) G hw tyX10_ok nmX10 in_X10_init_X10 rfl h_11 (by decide) (by decide +kernel) rfl rfl rfl rfl (Nat.le_of_ble_eq_true rfl) rfl dX10_init_19 (fun f_32 H_33 locs h_34 x_35 hw => ?_)
  have h_28 := h_28.ext x_35 (Ne.symm ne_20)
  refine W.widen (k := 10) (n := 86) (Nat.le_of_ble_eq_true rfl) (Nat.le_of_ble_eq_true rfl) ?_
  have xt_36 : py_ext L f L_21 f_32 h := fun b hb hn => by
    have n1 : b ≠ q_1 := fun h => hq_5 (h ▸ hb)
    obtain ⟨m1, e1⟩ := x_7 b hb
    obtain ⟨m2, e2⟩ := x_12 b m1 hn
    have n3 : b ≠ q_13 := fun h => hq_17 (h ▸ m2)
    obtain ⟨m3, e3⟩ := x_19 b m2
    obtain ⟨m4, e4⟩ := x_26 b m3 n3
    obtain ⟨m5, e5⟩ := x_35 b m4 hn
    exact ⟨m5, e5.trans (e4.trans (e3.trans (e2.trans (e1.trans (rfl)))))⟩
  exact py_vret G hr hlk hw ⟨_, _, _, h_34, h_28, hl_29, xt_36⟩ dX10_init_22

def w_X4_init : List Cond := .code yX4_init cX4_init 1 none :: ([Cond.methodLink RX4 3 objectInit, Cond.instanceMethod objectInit, Cond.code objectInit ⟨#[0xb1]⟩ 1 none, Cond.classLink RX4 9 RX3, Cond.instantiable RX3 3, Cond.initialized RX3, Cond.instanceMethod yX3_init, Cond.fieldLink RX4 12 "HeadYear$LawReader" "draft" "LHeadYear$Law;"] ++ (u_ws RX3 TX3 3 ++ (u_ws RX4 TX4 1 ++ (w_X3_init ++ ([])))))
theorem in_X4_init_X3 : ∀ w ∈ u_ws RX3 TX3 3, w ∈ w_X4_init := fun _ h => List.mem_cons_of_mem _ (List.mem_append_right _ (List.mem_append_left _ h))
theorem in_X4_init_X4 : ∀ w ∈ u_ws RX4 TX4 1, w ∈ w_X4_init := fun _ h => List.mem_cons_of_mem _ (List.mem_append_right _ (List.mem_append_right _ (List.mem_append_left _ h)))
theorem gg_X4_init_X3_init : GoodIn w_X4_init w_X3_init := goodIn_sub (fun _ h => List.mem_cons_of_mem _ (List.mem_append_right _ (List.mem_append_right _ (List.mem_append_right _ (List.mem_append_left _ h))))) (by decide +kernel)
theorem g_X4_init_X3_init_11 : GoodIn w_X4_init w_X3_init := gg_X4_init_X3_init
set_option maxHeartbeats 4000000 in
set_option maxRecDepth 100000 in
theorem c_X4_init (l : Launch) (E : py_E) (L : List Nat) (f : py_F) (sz : Nat) (h : Nat) (hh : py_at L f h (.inr (4, [.null]))) : Met l yX4_init w_X4_init ({ frames := 2, cells := 3, slots := 195, locals := 32 }) (py_Pc E [.ref h] L f sz) (py_Qv E L f sz (fun L1 f1 => ∃ (dl : Nat) (xl : List Value), py_at L1 f1 h (.inr (4, [.ref dl])) ∧ py_at L1 f1 dl (.inr (3, xl)) ∧ xl.length = 3 ∧ py_ext L f L1 f1 h)) 3 195 (va_A (va_pl L f) sz) := by
  refine Met.ofW (cc := cX4_init) (maxL := 1) (ret := none) (by decide) rfl ?_
  intro p e s m args below meth c s₁ B hml hv
  obtain ⟨rfl, rfl, hw⟩ := py_start hv
  have G : CallFix p m c cX4_init 1 s _ w_X4_init RX4 := ⟨B.exec, B.bytes, hml, findClass_of_methodNamed B.named, atoms_spec (ws := w_X4_init) B.pre⟩
  have hr := B.returns
  have hlk := B.notSynchronized
  have hin : meth.name = "<init>" := (name_of_methodNamed B.named B.method).1
  have hl := lv_entry ([.ref h]) (n := 1) (Nat.le_of_ble_eq_true rfl)
  rw [lg_entry_eq]
  generalize (lg_sl ([.ref h]) ++ List.replicate (1 - (lg_sl ([.ref h])).length) Slot.unset).toArray = ls at hl ⊢
  have hl : lv_has ls 1 [(0, .ref h)] := hl
  refine lv_aload_n G.1 G.2.1 dX4_init_0 rfl (lv_at hl 0 rfl) ?_
  refine py_objInit G hl.1 (by decide +kernel) (by decide +kernel) (by decide +kernel) dX4_init_1 (Nat.le_of_ble_eq_true rfl) (Nat.le_of_ble_eq_true rfl) ?_
  refine lv_aload_n G.1 G.2.1 dX4_init_4 rfl (lv_at hl 0 rfl) ?_
  refine py_new (C := RX3) (T := TX3) (N := 3) (ci := 3) (fs := [.null, .null, .int 0]) (ty0 := tyX3) G hw tyX3_ok in_X4_init_X3 rfl (by decide +kernel) (by decide +kernel) (by decide +kernel) (fun j hj => match j, hj with | 0, _ => rfl | 1, _ => rfl | 2, _ => rfl | n + 3, h => absurd h (by omega)) (Nat.le_of_ble_eq_true rfl) (Nat.le_of_ble_eq_true rfl) dX4_init_5 (fun q_1 L_2 f_3 H_4 hq_5 h_6 x_7 hw => ?_)
  have ne_8 : h ≠ q_1 := py_ne_new hh hq_5
  have hh := hh.all x_7
  refine lv_dup G.1 G.2.1 dX4_init_8 rfl ?_
  refine py_callv hw (va_runIN (As := []) (rest := [.ref q_1, .ref h]) G (c_X3_init l E L_2 f_3 H_4.size q_1 h_6) ⟨va_cnB 0 G.2.2.2.2 g_X4_init_X3_init_11 rfl rfl rfl (hw.1.2.2 (RX4, 11, yX3_init) (List.mem_of_getElem? (i := 4) rfl)) (G.2.2.2.2 (Cond.initialized RX3) (by decide +kernel)) (by decide +kernel) ⟨(Nat.le_of_ble_eq_true rfl), (Nat.le_of_ble_eq_true rfl)⟩, rfl, G.2.2.2.2 (Cond.instanceMethod yX3_init) (by decide +kernel)⟩ (py_preS hw) rfl rfl hl.1 rfl (lv_room (Nat.le_of_ble_eq_true rfl)) dX4_init_9 ⟨(Nat.le_of_ble_eq_true rfl), (Nat.le_of_ble_eq_true rfl)⟩) (fun L_9 f_10 H_11 locs hp_12 hw => ?_)
  obtain ⟨co_15, st_19, h_16, h_17, hco_18, x_14⟩ := hp_12
  have hh := hh.ext x_14 ne_8
  refine py_put (C := RX4) (T := TX4) (N := 1) (k := 0) (v := .ref q_1) (fs' := [.ref q_1]) (ty0 := tyX4) G hw tyX4_ok nmX4 in_X4_init_X4 rfl hh (by decide) (by decide +kernel) rfl rfl rfl rfl (Nat.le_of_ble_eq_true rfl) rfl dX4_init_12 (fun f_20 H_21 locs h_22 x_23 hw => ?_)
  have h_16 := h_16.ext x_23 (Ne.symm ne_8)
  have h_17 := h_17.ext x_23 (Ne.symm (py_ne_arr hh h_17))
  refine W.widen (k := 3) (n := 195) (Nat.le_of_ble_eq_true rfl) (Nat.le_of_ble_eq_true rfl) ?_
  have xt_24 : py_ext L f L_9 f_20 h := fun b hb hn => by
    have n1 : b ≠ q_1 := fun h => hq_5 (h ▸ hb)
    obtain ⟨m1, e1⟩ := x_7 b hb
    obtain ⟨m2, e2⟩ := x_14 b m1 n1
    obtain ⟨m3, e3⟩ := x_23 b m2 hn
    exact ⟨m3, e3.trans (e2.trans (e1.trans (rfl)))⟩
  exact py_vret G hr hlk hw ⟨_, _, h_22, h_16, rfl, xt_24⟩ dX4_init_15

def w_X2_init : List Cond := .code yX2_init cX2_init 1 none :: ([Cond.methodLink RX2 3 objectInit, Cond.instanceMethod objectInit, Cond.code objectInit ⟨#[0xb1]⟩ 1 none, Cond.arrayClass .int, Cond.fieldLink RX2 11 "HeadYear$Folk" "heads" "[I", Cond.fieldLink RX2 17 "HeadYear$Folk" "level" "[I", Cond.fieldLink RX2 20 "HeadYear$Folk" "hut" "[I", Cond.fieldLink RX2 23 "HeadYear$Folk" "debt" "[I", Cond.fieldLink RX2 26 "HeadYear$Folk" "born" "[I", Cond.fieldLink RX2 29 "HeadYear$Folk" "dead" "[I", Cond.fieldLink RX2 32 "HeadYear$Folk" "bought" "[I", Cond.fieldLink RX2 35 "HeadYear$Folk" "spent" "[I", Cond.arrayClass .boolean, Cond.fieldLink RX2 38 "HeadYear$Folk" "hushed" "[Z", Cond.classLink RX2 9 RX9, Cond.instantiable RX9 10, Cond.initialized RX9, Cond.instanceMethod yX9_init, Cond.fieldLink RX2 43 "HeadYear$Folk" "valley" "LHeadYear$Valley;", Cond.fieldLink RX2 47 "HeadYear$Folk" "x" "J", Cond.fieldLink RX2 51 "HeadYear$Folk" "years" "I"] ++ (u_ws RX2 TX2 12 ++ (u_ws RX9 TX9 10 ++ (w_X9_init ++ ([])))))
theorem in_X2_init_X2 : ∀ w ∈ u_ws RX2 TX2 12, w ∈ w_X2_init := fun _ h => List.mem_cons_of_mem _ (List.mem_append_right _ (List.mem_append_left _ h))
theorem in_X2_init_X9 : ∀ w ∈ u_ws RX9 TX9 10, w ∈ w_X2_init := fun _ h => List.mem_cons_of_mem _ (List.mem_append_right _ (List.mem_append_right _ (List.mem_append_left _ h)))
theorem gg_X2_init_X9_init : GoodIn w_X2_init w_X9_init := goodIn_sub (fun _ h => List.mem_cons_of_mem _ (List.mem_append_right _ (List.mem_append_right _ (List.mem_append_right _ (List.mem_append_left _ h))))) (by decide +kernel)
theorem g_X2_init_X9_init_42 : GoodIn w_X2_init w_X9_init := gg_X2_init_X9_init
set_option maxHeartbeats 4000000 in
set_option maxRecDepth 100000 in
theorem c_X2_init (l : Launch) (E : py_E) (L : List Nat) (f : py_F) (sz : Nat) (h : Nat) (hh : py_at L f h (.inr (2, [.null, .null, .null, .null, .null, .null, .null, .null, .null, .null, .long 0, .int 0]))) : Met l yX2_init w_X2_init ({ frames := 2, cells := 18, slots := 172, locals := 32 }) (py_Pc E [.ref h] L f sz) (py_Qv E L f sz (fun L1 f1 => ∃ (xs : List Value) (va : Nat) (xv : List Value), py_at L1 f1 h (.inr (2, xs)) ∧ xs.length = 12 ∧ xs[9]? = some (.ref va) ∧ xs[11]? = some (.int 0) ∧ py_at L1 f1 va (.inr (9, xv)) ∧ xv.length = 10 ∧ xv[8]? = some (.int 0) ∧ xv[9]? = some (.int 0) ∧ py_ext L f L1 f1 h)) 18 172 (va_A (va_pl L f) sz) := by
  refine Met.ofW (cc := cX2_init) (maxL := 1) (ret := none) (by decide) rfl ?_
  intro p e s m args below meth c s₁ B hml hv
  obtain ⟨rfl, rfl, hw⟩ := py_start hv
  have G : CallFix p m c cX2_init 1 s _ w_X2_init RX2 := ⟨B.exec, B.bytes, hml, findClass_of_methodNamed B.named, atoms_spec (ws := w_X2_init) B.pre⟩
  have hr := B.returns
  have hlk := B.notSynchronized
  have hin : meth.name = "<init>" := (name_of_methodNamed B.named B.method).1
  have hl := lv_entry ([.ref h]) (n := 1) (Nat.le_of_ble_eq_true rfl)
  rw [lg_entry_eq]
  generalize (lg_sl ([.ref h]) ++ List.replicate (1 - (lg_sl ([.ref h])).length) Slot.unset).toArray = ls at hl ⊢
  have hl : lv_has ls 1 [(0, .ref h)] := hl
  refine lv_aload_n G.1 G.2.1 dX2_init_0 rfl (lv_at hl 0 rfl) ?_
  refine py_objInit G hl.1 (by decide +kernel) (by decide +kernel) (by decide +kernel) dX2_init_1 (Nat.le_of_ble_eq_true rfl) (Nat.le_of_ble_eq_true rfl) ?_
  refine lv_aload_n G.1 G.2.1 dX2_init_4 rfl (lv_at hl 0 rfl) ?_
  refine lv_bipush (v := 10) G.1 G.2.1 dX2_init_5 (by decide) ?_
  refine py_newI (N := 10) G hw (by decide +kernel) (by decide) (by decide) (Nat.le_of_ble_eq_true rfl) (Nat.le_of_ble_eq_true rfl) (Nat.le_of_ble_eq_true rfl) dX2_init_7 (fun q_1 L_2 f_3 H_4 hq_5 h_6 x_7 hw => ?_)
  have ne_8 : h ≠ q_1 := py_ne_new hh hq_5
  have hh := hh.all x_7
  refine py_putF (C := RX2) (T := TX2) (N := 12) (k := 0) (v := .ref q_1) (fs' := [.ref q_1, .null, .null, .null, .null, .null, .null, .null, .null, .null, .long 0, .int 0]) (ty0 := tyX2) G hin hw tyX2_ok nmX2 in_X2_init_X2 rfl hh (by decide) (by decide +kernel) rfl rfl rfl rfl rfl (Nat.le_of_ble_eq_true rfl) rfl dX2_init_9 (fun f_9 H_10 locs h_11 x_12 hw => ?_)
  refine lv_aload_n G.1 G.2.1 dX2_init_12 rfl (lv_at hl 0 rfl) ?_
  refine lv_bipush (v := 10) G.1 G.2.1 dX2_init_13 (by decide) ?_
  refine py_newI (N := 10) G hw (by decide +kernel) (by decide) (by decide) (Nat.le_of_ble_eq_true rfl) (Nat.le_of_ble_eq_true rfl) (Nat.le_of_ble_eq_true rfl) dX2_init_15 (fun q_13 L_14 f_15 H_16 hq_17 h_18 x_19 hw => ?_)
  have ne_20 : h ≠ q_13 := py_ne_new h_11 hq_17
  have h_11 := h_11.all x_19
  refine py_putF (C := RX2) (T := TX2) (N := 12) (k := 1) (v := .ref q_13) (fs' := [.ref q_1, .ref q_13, .null, .null, .null, .null, .null, .null, .null, .null, .long 0, .int 0]) (ty0 := tyX2) G hin hw tyX2_ok nmX2 in_X2_init_X2 rfl h_11 (by decide) (by decide +kernel) rfl rfl rfl rfl rfl (Nat.le_of_ble_eq_true rfl) rfl dX2_init_17 (fun f_21 H_22 locs h_23 x_24 hw => ?_)
  refine lv_aload_n G.1 G.2.1 dX2_init_20 rfl (lv_at hl 0 rfl) ?_
  refine lv_bipush (v := 10) G.1 G.2.1 dX2_init_21 (by decide) ?_
  refine py_newI (N := 10) G hw (by decide +kernel) (by decide) (by decide) (Nat.le_of_ble_eq_true rfl) (Nat.le_of_ble_eq_true rfl) (Nat.le_of_ble_eq_true rfl) dX2_init_23 (fun q_25 L_26 f_27 H_28 hq_29 h_30 x_31 hw => ?_)
  have ne_32 : h ≠ q_25 := py_ne_new h_23 hq_29
  have h_23 := h_23.all x_31
  refine py_putF (C := RX2) (T := TX2) (N := 12) (k := 2) (v := .ref q_25) (fs' := [.ref q_1, .ref q_13, .ref q_25, .null, .null, .null, .null, .null, .null, .null, .long 0, .int 0]) (ty0 := tyX2) G hin hw tyX2_ok nmX2 in_X2_init_X2 rfl h_23 (by decide) (by decide +kernel) rfl rfl rfl rfl rfl (Nat.le_of_ble_eq_true rfl) rfl dX2_init_25 (fun f_33 H_34 locs h_35 x_36 hw => ?_)
  refine lv_aload_n G.1 G.2.1 dX2_init_28 rfl (lv_at hl 0 rfl) ?_
  refine lv_bipush (v := 10) G.1 G.2.1 dX2_init_29 (by decide) ?_
  refine py_newI (N := 10) G hw (by decide +kernel) (by decide) (by decide) (Nat.le_of_ble_eq_true rfl) (Nat.le_of_ble_eq_true rfl) (Nat.le_of_ble_eq_true rfl) dX2_init_31 (fun q_37 L_38 f_39 H_40 hq_41 h_42 x_43 hw => ?_)
  have ne_44 : h ≠ q_37 := py_ne_new h_35 hq_41
  have h_35 := h_35.all x_43
  refine py_putF (C := RX2) (T := TX2) (N := 12) (k := 3) (v := .ref q_37) (fs' := [.ref q_1, .ref q_13, .ref q_25, .ref q_37, .null, .null, .null, .null, .null, .null, .long 0, .int 0]) (ty0 := tyX2) G hin hw tyX2_ok nmX2 in_X2_init_X2 rfl h_35 (by decide) (by decide +kernel) rfl rfl rfl rfl rfl (Nat.le_of_ble_eq_true rfl) rfl dX2_init_33 (fun f_45 H_46 locs h_47 x_48 hw => ?_)
  refine lv_aload_n G.1 G.2.1 dX2_init_36 rfl (lv_at hl 0 rfl) ?_
  refine lv_bipush (v := 10) G.1 G.2.1 dX2_init_37 (by decide) ?_
  refine py_newI (N := 10) G hw (by decide +kernel) (by decide) (by decide) (Nat.le_of_ble_eq_true rfl) (Nat.le_of_ble_eq_true rfl) (Nat.le_of_ble_eq_true rfl) dX2_init_39 (fun q_49 L_50 f_51 H_52 hq_53 h_54 x_55 hw => ?_)
  have ne_56 : h ≠ q_49 := py_ne_new h_47 hq_53
  have h_47 := h_47.all x_55
  refine py_putF (C := RX2) (T := TX2) (N := 12) (k := 4) (v := .ref q_49) (fs' := [.ref q_1, .ref q_13, .ref q_25, .ref q_37, .ref q_49, .null, .null, .null, .null, .null, .long 0, .int 0]) (ty0 := tyX2) G hin hw tyX2_ok nmX2 in_X2_init_X2 rfl h_47 (by decide) (by decide +kernel) rfl rfl rfl rfl rfl (Nat.le_of_ble_eq_true rfl) rfl dX2_init_41 (fun f_57 H_58 locs h_59 x_60 hw => ?_)
  refine lv_aload_n G.1 G.2.1 dX2_init_44 rfl (lv_at hl 0 rfl) ?_
  refine lv_bipush (v := 10) G.1 G.2.1 dX2_init_45 (by decide) ?_
  refine py_newI (N := 10) G hw (by decide +kernel) (by decide) (by decide) (Nat.le_of_ble_eq_true rfl) (Nat.le_of_ble_eq_true rfl) (Nat.le_of_ble_eq_true rfl) dX2_init_47 (fun q_61 L_62 f_63 H_64 hq_65 h_66 x_67 hw => ?_)
  have ne_68 : h ≠ q_61 := py_ne_new h_59 hq_65
  have h_59 := h_59.all x_67
  refine py_putF (C := RX2) (T := TX2) (N := 12) (k := 5) (v := .ref q_61) (fs' := [.ref q_1, .ref q_13, .ref q_25, .ref q_37, .ref q_49, .ref q_61, .null, .null, .null, .null, .long 0, .int 0]) (ty0 := tyX2) G hin hw tyX2_ok nmX2 in_X2_init_X2 rfl h_59 (by decide) (by decide +kernel) rfl rfl rfl rfl rfl (Nat.le_of_ble_eq_true rfl) rfl dX2_init_49 (fun f_69 H_70 locs h_71 x_72 hw => ?_)
  refine lv_aload_n G.1 G.2.1 dX2_init_52 rfl (lv_at hl 0 rfl) ?_
  refine lv_bipush (v := 10) G.1 G.2.1 dX2_init_53 (by decide) ?_
  refine py_newI (N := 10) G hw (by decide +kernel) (by decide) (by decide) (Nat.le_of_ble_eq_true rfl) (Nat.le_of_ble_eq_true rfl) (Nat.le_of_ble_eq_true rfl) dX2_init_55 (fun q_73 L_74 f_75 H_76 hq_77 h_78 x_79 hw => ?_)
  have ne_80 : h ≠ q_73 := py_ne_new h_71 hq_77
  have h_71 := h_71.all x_79
  refine py_putF (C := RX2) (T := TX2) (N := 12) (k := 6) (v := .ref q_73) (fs' := [.ref q_1, .ref q_13, .ref q_25, .ref q_37, .ref q_49, .ref q_61, .ref q_73, .null, .null, .null, .long 0, .int 0]) (ty0 := tyX2) G hin hw tyX2_ok nmX2 in_X2_init_X2 rfl h_71 (by decide) (by decide +kernel) rfl rfl rfl rfl rfl (Nat.le_of_ble_eq_true rfl) rfl dX2_init_57 (fun f_81 H_82 locs h_83 x_84 hw => ?_)
  refine lv_aload_n G.1 G.2.1 dX2_init_60 rfl (lv_at hl 0 rfl) ?_
  refine lv_bipush (v := 10) G.1 G.2.1 dX2_init_61 (by decide) ?_
  refine py_newI (N := 10) G hw (by decide +kernel) (by decide) (by decide) (Nat.le_of_ble_eq_true rfl) (Nat.le_of_ble_eq_true rfl) (Nat.le_of_ble_eq_true rfl) dX2_init_63 (fun q_85 L_86 f_87 H_88 hq_89 h_90 x_91 hw => ?_)
  have ne_92 : h ≠ q_85 := py_ne_new h_83 hq_89
  have h_83 := h_83.all x_91
  refine py_putF (C := RX2) (T := TX2) (N := 12) (k := 7) (v := .ref q_85) (fs' := [.ref q_1, .ref q_13, .ref q_25, .ref q_37, .ref q_49, .ref q_61, .ref q_73, .ref q_85, .null, .null, .long 0, .int 0]) (ty0 := tyX2) G hin hw tyX2_ok nmX2 in_X2_init_X2 rfl h_83 (by decide) (by decide +kernel) rfl rfl rfl rfl rfl (Nat.le_of_ble_eq_true rfl) rfl dX2_init_65 (fun f_93 H_94 locs h_95 x_96 hw => ?_)
  refine lv_aload_n G.1 G.2.1 dX2_init_68 rfl (lv_at hl 0 rfl) ?_
  refine lv_bipush (v := 10) G.1 G.2.1 dX2_init_69 (by decide) ?_
  refine py_newZ (N := 10) G hw (by decide +kernel) (by decide) (by decide) (Nat.le_of_ble_eq_true rfl) (Nat.le_of_ble_eq_true rfl) (Nat.le_of_ble_eq_true rfl) dX2_init_71 (fun q_97 L_98 f_99 H_100 hq_101 h_102 x_103 hw => ?_)
  have ne_104 : h ≠ q_97 := py_ne_new h_95 hq_101
  have h_95 := h_95.all x_103
  refine py_putF (C := RX2) (T := TX2) (N := 12) (k := 8) (v := .ref q_97) (fs' := [.ref q_1, .ref q_13, .ref q_25, .ref q_37, .ref q_49, .ref q_61, .ref q_73, .ref q_85, .ref q_97, .null, .long 0, .int 0]) (ty0 := tyX2) G hin hw tyX2_ok nmX2 in_X2_init_X2 rfl h_95 (by decide) (by decide +kernel) rfl rfl rfl rfl rfl (Nat.le_of_ble_eq_true rfl) rfl dX2_init_73 (fun f_105 H_106 locs h_107 x_108 hw => ?_)
  refine lv_aload_n G.1 G.2.1 dX2_init_76 rfl (lv_at hl 0 rfl) ?_
  refine py_new (C := RX9) (T := TX9) (N := 10) (ci := 9) (fs := [.null, .null, .null, .null, .null, .null, .null, .null, .int 0, .int 0]) (ty0 := tyX9) G hw tyX9_ok in_X2_init_X9 rfl (by decide +kernel) (by decide +kernel) (by decide +kernel) (fun j hj => match j, hj with | 0, _ => rfl | 1, _ => rfl | 2, _ => rfl | 3, _ => rfl | 4, _ => rfl | 5, _ => rfl | 6, _ => rfl | 7, _ => rfl | 8, _ => rfl | 9, _ => rfl | n + 10, h => absurd h (by omega)) (Nat.le_of_ble_eq_true rfl) (Nat.le_of_ble_eq_true rfl) dX2_init_77 (fun q_109 L_110 f_111 H_112 hq_113 h_114 x_115 hw => ?_)
  have ne_116 : h ≠ q_109 := py_ne_new h_107 hq_113
  have h_107 := h_107.all x_115
  refine lv_dup G.1 G.2.1 dX2_init_80 rfl ?_
  refine py_callv hw (va_runIN (As := []) (rest := [.ref q_109, .ref h]) G (c_X9_init l E L_110 f_111 H_112.size q_109 h_114) ⟨va_cnB 0 G.2.2.2.2 g_X2_init_X9_init_42 rfl rfl rfl (hw.1.2.2 (RX2, 42, yX9_init) (List.mem_of_getElem? (i := 6) rfl)) (G.2.2.2.2 (Cond.initialized RX9) (by decide +kernel)) (by decide +kernel) ⟨(Nat.le_of_ble_eq_true rfl), (Nat.le_of_ble_eq_true rfl)⟩, rfl, G.2.2.2.2 (Cond.instanceMethod yX9_init) (by decide +kernel)⟩ (py_preS hw) rfl rfl hl.1 rfl (lv_room (Nat.le_of_ble_eq_true rfl)) dX2_init_81 ⟨(Nat.le_of_ble_eq_true rfl), (Nat.le_of_ble_eq_true rfl)⟩) (fun L_117 f_118 H_119 locs hp_120 hw => ?_)
  obtain ⟨xs_123, h_124, hl_125, hp_126, hp_127, x_122⟩ := hp_120
  have h_107 := h_107.ext x_122 ne_116
  refine py_put (C := RX2) (T := TX2) (N := 12) (k := 9) (v := .ref q_109) (fs' := [.ref q_1, .ref q_13, .ref q_25, .ref q_37, .ref q_49, .ref q_61, .ref q_73, .ref q_85, .ref q_97, .ref q_109, .long 0, .int 0]) (ty0 := tyX2) G hw tyX2_ok nmX2 in_X2_init_X2 rfl h_107 (by decide) (by decide +kernel) rfl rfl rfl rfl (Nat.le_of_ble_eq_true rfl) rfl dX2_init_84 (fun f_128 H_129 locs h_130 x_131 hw => ?_)
  have h_124 := h_124.ext x_131 (Ne.symm ne_116)
  refine lv_aload_n G.1 G.2.1 dX2_init_87 rfl (lv_at hl 0 rfl) ?_
  refine lv_lconst (v := 0) G.1 G.2.1 dX2_init_88 (by decide) ?_
  refine py_put (C := RX2) (T := TX2) (N := 12) (k := 10) (v := .long 0) (fs' := [.ref q_1, .ref q_13, .ref q_25, .ref q_37, .ref q_49, .ref q_61, .ref q_73, .ref q_85, .ref q_97, .ref q_109, .long 0, .int 0]) (ty0 := tyX2) G hw tyX2_ok nmX2 in_X2_init_X2 rfl h_130 (by decide) (by decide +kernel) rfl rfl rfl rfl (Nat.le_of_ble_eq_true rfl) rfl dX2_init_89 (fun f_132 H_133 locs h_134 x_135 hw => ?_)
  have h_124 := h_124.ext x_135 (Ne.symm ne_116)
  refine lv_aload_n G.1 G.2.1 dX2_init_92 rfl (lv_at hl 0 rfl) ?_
  refine lv_iconst (v := 0) G.1 G.2.1 dX2_init_93 (by decide) ?_
  refine py_put (C := RX2) (T := TX2) (N := 12) (k := 11) (v := .int 0) (fs' := [.ref q_1, .ref q_13, .ref q_25, .ref q_37, .ref q_49, .ref q_61, .ref q_73, .ref q_85, .ref q_97, .ref q_109, .long 0, .int 0]) (ty0 := tyX2) G hw tyX2_ok nmX2 in_X2_init_X2 rfl h_134 (by decide) (by decide +kernel) rfl rfl rfl rfl (Nat.le_of_ble_eq_true rfl) rfl dX2_init_94 (fun f_136 H_137 locs h_138 x_139 hw => ?_)
  have h_124 := h_124.ext x_139 (Ne.symm ne_116)
  refine W.widen (k := 18) (n := 172) (Nat.le_of_ble_eq_true rfl) (Nat.le_of_ble_eq_true rfl) ?_
  have xt_140 : py_ext L f L_117 f_136 h := fun b hb hn => by
    have n1 : b ≠ q_1 := fun h => hq_5 (h ▸ hb)
    obtain ⟨m1, e1⟩ := x_7 b hb
    obtain ⟨m2, e2⟩ := x_12 b m1 hn
    have n3 : b ≠ q_13 := fun h => hq_17 (h ▸ m2)
    obtain ⟨m3, e3⟩ := x_19 b m2
    obtain ⟨m4, e4⟩ := x_24 b m3 hn
    have n5 : b ≠ q_25 := fun h => hq_29 (h ▸ m4)
    obtain ⟨m5, e5⟩ := x_31 b m4
    obtain ⟨m6, e6⟩ := x_36 b m5 hn
    have n7 : b ≠ q_37 := fun h => hq_41 (h ▸ m6)
    obtain ⟨m7, e7⟩ := x_43 b m6
    obtain ⟨m8, e8⟩ := x_48 b m7 hn
    have n9 : b ≠ q_49 := fun h => hq_53 (h ▸ m8)
    obtain ⟨m9, e9⟩ := x_55 b m8
    obtain ⟨m10, e10⟩ := x_60 b m9 hn
    have n11 : b ≠ q_61 := fun h => hq_65 (h ▸ m10)
    obtain ⟨m11, e11⟩ := x_67 b m10
    obtain ⟨m12, e12⟩ := x_72 b m11 hn
    have n13 : b ≠ q_73 := fun h => hq_77 (h ▸ m12)
    obtain ⟨m13, e13⟩ := x_79 b m12
    obtain ⟨m14, e14⟩ := x_84 b m13 hn
    have n15 : b ≠ q_85 := fun h => hq_89 (h ▸ m14)
    obtain ⟨m15, e15⟩ := x_91 b m14
    obtain ⟨m16, e16⟩ := x_96 b m15 hn
    have n17 : b ≠ q_97 := fun h => hq_101 (h ▸ m16)
    obtain ⟨m17, e17⟩ := x_103 b m16
    obtain ⟨m18, e18⟩ := x_108 b m17 hn
    have n19 : b ≠ q_109 := fun h => hq_113 (h ▸ m18)
    obtain ⟨m19, e19⟩ := x_115 b m18
    obtain ⟨m20, e20⟩ := x_122 b m19 n19
    obtain ⟨m21, e21⟩ := x_131 b m20 hn
    obtain ⟨m22, e22⟩ := x_135 b m21 hn
    obtain ⟨m23, e23⟩ := x_139 b m22 hn
    exact ⟨m23, e23.trans (e22.trans (e21.trans (e20.trans (e19.trans (e18.trans (e17.trans (e16.trans (e15.trans (e14.trans (e13.trans (e12.trans (e11.trans (e10.trans (e9.trans (e8.trans (e7.trans (e6.trans (e5.trans (e4.trans (e3.trans (e2.trans (e1.trans (rfl)))))))))))))))))))))))⟩
  exact py_vret G hr hlk hw ⟨_, q_109, _, h_138, rfl, rfl, rfl, h_124, hl_125, hp_126, hp_127, xt_140⟩ dX2_init_97

def w_X1_init : List Cond := .code yX1_init cX1_init 1 none :: ([Cond.methodLink RX1 5 objectInit, Cond.instanceMethod objectInit, Cond.code objectInit ⟨#[0xb1]⟩ 1 none, Cond.arrayClass .int, Cond.fieldLink RX1 13 "HeadYear$Diary" "level" "[I", Cond.fieldLink RX1 17 "HeadYear$Diary" "heads" "[I", Cond.fieldLink RX1 20 "HeadYear$Diary" "years" "I"] ++ (u_ws RX1 TX1 3 ++ ([])))
theorem in_X1_init_X1 : ∀ w ∈ u_ws RX1 TX1 3, w ∈ w_X1_init := fun _ h => List.mem_cons_of_mem _ (List.mem_append_right _ (List.mem_append_left _ h))
set_option maxHeartbeats 4000000 in
set_option maxRecDepth 100000 in
theorem c_X1_init (l : Launch) (E : py_E) (L : List Nat) (f : py_F) (sz : Nat) (h : Nat) (hh : py_at L f h (.inr (1, [.null, .null, .int 0]))) : Met l yX1_init w_X1_init ({ frames := 1, cells := 2, slots := 1200, locals := 12 }) (py_Pc E [.ref h] L f sz) (py_Qv E L f sz (fun L1 f1 => ∃ xs : List Value, py_at L1 f1 h (.inr (1, xs)) ∧ xs.length = 3 ∧ xs[2]? = some (.int 0) ∧ py_ext L f L1 f1 h)) 2 1200 (va_A (va_pl L f) sz) := by
  refine Met.ofW (cc := cX1_init) (maxL := 1) (ret := none) (by decide) rfl ?_
  intro p e s m args below meth c s₁ B hml hv
  obtain ⟨rfl, rfl, hw⟩ := py_start hv
  have G : CallFix p m c cX1_init 1 s _ w_X1_init RX1 := ⟨B.exec, B.bytes, hml, findClass_of_methodNamed B.named, atoms_spec (ws := w_X1_init) B.pre⟩
  have hr := B.returns
  have hlk := B.notSynchronized
  have hin : meth.name = "<init>" := (name_of_methodNamed B.named B.method).1
  have hl := lv_entry ([.ref h]) (n := 1) (Nat.le_of_ble_eq_true rfl)
  rw [lg_entry_eq]
  generalize (lg_sl ([.ref h]) ++ List.replicate (1 - (lg_sl ([.ref h])).length) Slot.unset).toArray = ls at hl ⊢
  have hl : lv_has ls 1 [(0, .ref h)] := hl
  refine lv_aload_n G.1 G.2.1 dX1_init_0 rfl (lv_at hl 0 rfl) ?_
  refine py_objInit G hl.1 (by decide +kernel) (by decide +kernel) (by decide +kernel) dX1_init_1 (Nat.le_of_ble_eq_true rfl) (Nat.le_of_ble_eq_true rfl) ?_
  refine lv_aload_n G.1 G.2.1 dX1_init_4 rfl (lv_at hl 0 rfl) ?_
  refine lv_sipush (v := 600) G.1 G.2.1 dX1_init_5 (by decide) ?_
  refine py_newI (N := 600) G hw (by decide +kernel) (by decide) (by decide) (Nat.le_of_ble_eq_true rfl) (Nat.le_of_ble_eq_true rfl) (Nat.le_of_ble_eq_true rfl) dX1_init_8 (fun q_1 L_2 f_3 H_4 hq_5 h_6 x_7 hw => ?_)
  have ne_8 : h ≠ q_1 := py_ne_new hh hq_5
  have hh := hh.all x_7
  refine py_putF (C := RX1) (T := TX1) (N := 3) (k := 0) (v := .ref q_1) (fs' := [.ref q_1, .null, .int 0]) (ty0 := tyX1) G hin hw tyX1_ok nmX1 in_X1_init_X1 rfl hh (by decide) (by decide +kernel) rfl rfl rfl rfl rfl (Nat.le_of_ble_eq_true rfl) rfl dX1_init_10 (fun f_9 H_10 locs h_11 x_12 hw => ?_)
  refine lv_aload_n G.1 G.2.1 dX1_init_13 rfl (lv_at hl 0 rfl) ?_
  refine lv_sipush (v := 600) G.1 G.2.1 dX1_init_14 (by decide) ?_
  refine py_newI (N := 600) G hw (by decide +kernel) (by decide) (by decide) (Nat.le_of_ble_eq_true rfl) (Nat.le_of_ble_eq_true rfl) (Nat.le_of_ble_eq_true rfl) dX1_init_17 (fun q_13 L_14 f_15 H_16 hq_17 h_18 x_19 hw => ?_)
  have ne_20 : h ≠ q_13 := py_ne_new h_11 hq_17
  have h_11 := h_11.all x_19
  refine py_putF (C := RX1) (T := TX1) (N := 3) (k := 1) (v := .ref q_13) (fs' := [.ref q_1, .ref q_13, .int 0]) (ty0 := tyX1) G hin hw tyX1_ok nmX1 in_X1_init_X1 rfl h_11 (by decide) (by decide +kernel) rfl rfl rfl rfl rfl (Nat.le_of_ble_eq_true rfl) rfl dX1_init_19 (fun f_21 H_22 locs h_23 x_24 hw => ?_)
  refine lv_aload_n G.1 G.2.1 dX1_init_22 rfl (lv_at hl 0 rfl) ?_
  refine lv_iconst (v := 0) G.1 G.2.1 dX1_init_23 (by decide) ?_
  refine py_put (C := RX1) (T := TX1) (N := 3) (k := 2) (v := .int 0) (fs' := [.ref q_1, .ref q_13, .int 0]) (ty0 := tyX1) G hw tyX1_ok nmX1 in_X1_init_X1 rfl h_23 (by decide) (by decide +kernel) rfl rfl rfl rfl (Nat.le_of_ble_eq_true rfl) rfl dX1_init_24 (fun f_25 H_26 locs h_27 x_28 hw => ?_)
  refine W.widen (k := 2) (n := 1200) (Nat.le_of_ble_eq_true rfl) (Nat.le_of_ble_eq_true rfl) ?_
  have xt_29 : py_ext L f L_14 f_25 h := fun b hb hn => by
    have n1 : b ≠ q_1 := fun h => hq_5 (h ▸ hb)
    obtain ⟨m1, e1⟩ := x_7 b hb
    obtain ⟨m2, e2⟩ := x_12 b m1 hn
    have n3 : b ≠ q_13 := fun h => hq_17 (h ▸ m2)
    obtain ⟨m3, e3⟩ := x_19 b m2
    obtain ⟨m4, e4⟩ := x_24 b m3 hn
    obtain ⟨m5, e5⟩ := x_28 b m4 hn
    exact ⟨m5, e5.trans (e4.trans (e3.trans (e2.trans (e1.trans (rfl)))))⟩
  exact py_vret G hr hlk hw ⟨_, h_27, rfl, rfl, xt_29⟩ dX1_init_27

def w_X0_init : List Cond := .code yX0_init cX0_init 1 none :: ([Cond.methodLink RX0 1 objectInit, Cond.instanceMethod objectInit, Cond.code objectInit ⟨#[0xb1]⟩ 1 none, Cond.arrayClass .int, Cond.fieldLink RX0 9 "HeadYear$Buyings" "family" "[I", Cond.fieldLink RX0 13 "HeadYear$Buyings" "levels" "[I", Cond.fieldLink RX0 16 "HeadYear$Buyings" "cost" "[I", Cond.fieldLink RX0 19 "HeadYear$Buyings" "count" "I", Cond.fieldLink RX0 23 "HeadYear$Buyings" "price" "I"] ++ (u_ws RX0 TX0 5 ++ ([])))
theorem in_X0_init_X0 : ∀ w ∈ u_ws RX0 TX0 5, w ∈ w_X0_init := fun _ h => List.mem_cons_of_mem _ (List.mem_append_right _ (List.mem_append_left _ h))
set_option maxHeartbeats 4000000 in
set_option maxRecDepth 100000 in
theorem c_X0_init (l : Launch) (E : py_E) (L : List Nat) (f : py_F) (sz : Nat) (h : Nat) (hh : py_at L f h (.inr (0, [.null, .null, .null, .int 0, .int 0]))) : Met l yX0_init w_X0_init ({ frames := 1, cells := 3, slots := 120, locals := 12 }) (py_Pc E [.ref h] L f sz) (py_Qv E L f sz (fun L1 f1 => ∃ xs : List Value, py_at L1 f1 h (.inr (0, xs)) ∧ xs.length = 5 ∧ xs[3]? = some (.int 0) ∧ py_ext L f L1 f1 h)) 3 120 (va_A (va_pl L f) sz) := by
  refine Met.ofW (cc := cX0_init) (maxL := 1) (ret := none) (by decide) rfl ?_
  intro p e s m args below meth c s₁ B hml hv
  obtain ⟨rfl, rfl, hw⟩ := py_start hv
  have G : CallFix p m c cX0_init 1 s _ w_X0_init RX0 := ⟨B.exec, B.bytes, hml, findClass_of_methodNamed B.named, atoms_spec (ws := w_X0_init) B.pre⟩
  have hr := B.returns
  have hlk := B.notSynchronized
  have hin : meth.name = "<init>" := (name_of_methodNamed B.named B.method).1
  have hl := lv_entry ([.ref h]) (n := 1) (Nat.le_of_ble_eq_true rfl)
  rw [lg_entry_eq]
  generalize (lg_sl ([.ref h]) ++ List.replicate (1 - (lg_sl ([.ref h])).length) Slot.unset).toArray = ls at hl ⊢
  have hl : lv_has ls 1 [(0, .ref h)] := hl
  refine lv_aload_n G.1 G.2.1 dX0_init_0 rfl (lv_at hl 0 rfl) ?_
  refine py_objInit G hl.1 (by decide +kernel) (by decide +kernel) (by decide +kernel) dX0_init_1 (Nat.le_of_ble_eq_true rfl) (Nat.le_of_ble_eq_true rfl) ?_
  refine lv_aload_n G.1 G.2.1 dX0_init_4 rfl (lv_at hl 0 rfl) ?_
  refine lv_bipush (v := 40) G.1 G.2.1 dX0_init_5 (by decide) ?_
  refine py_newI (N := 40) G hw (by decide +kernel) (by decide) (by decide) (Nat.le_of_ble_eq_true rfl) (Nat.le_of_ble_eq_true rfl) (Nat.le_of_ble_eq_true rfl) dX0_init_7 (fun q_1 L_2 f_3 H_4 hq_5 h_6 x_7 hw => ?_)
  have ne_8 : h ≠ q_1 := py_ne_new hh hq_5
  have hh := hh.all x_7
  refine py_putF (C := RX0) (T := TX0) (N := 5) (k := 0) (v := .ref q_1) (fs' := [.ref q_1, .null, .null, .int 0, .int 0]) (ty0 := tyX0) G hin hw tyX0_ok nmX0 in_X0_init_X0 rfl hh (by decide) (by decide +kernel) rfl rfl rfl rfl rfl (Nat.le_of_ble_eq_true rfl) rfl dX0_init_9 (fun f_9 H_10 locs h_11 x_12 hw => ?_)
  refine lv_aload_n G.1 G.2.1 dX0_init_12 rfl (lv_at hl 0 rfl) ?_
  refine lv_bipush (v := 40) G.1 G.2.1 dX0_init_13 (by decide) ?_
  refine py_newI (N := 40) G hw (by decide +kernel) (by decide) (by decide) (Nat.le_of_ble_eq_true rfl) (Nat.le_of_ble_eq_true rfl) (Nat.le_of_ble_eq_true rfl) dX0_init_15 (fun q_13 L_14 f_15 H_16 hq_17 h_18 x_19 hw => ?_)
  have ne_20 : h ≠ q_13 := py_ne_new h_11 hq_17
  have h_11 := h_11.all x_19
  refine py_putF (C := RX0) (T := TX0) (N := 5) (k := 1) (v := .ref q_13) (fs' := [.ref q_1, .ref q_13, .null, .int 0, .int 0]) (ty0 := tyX0) G hin hw tyX0_ok nmX0 in_X0_init_X0 rfl h_11 (by decide) (by decide +kernel) rfl rfl rfl rfl rfl (Nat.le_of_ble_eq_true rfl) rfl dX0_init_17 (fun f_21 H_22 locs h_23 x_24 hw => ?_)
  refine lv_aload_n G.1 G.2.1 dX0_init_20 rfl (lv_at hl 0 rfl) ?_
  refine lv_bipush (v := 40) G.1 G.2.1 dX0_init_21 (by decide) ?_
  refine py_newI (N := 40) G hw (by decide +kernel) (by decide) (by decide) (Nat.le_of_ble_eq_true rfl) (Nat.le_of_ble_eq_true rfl) (Nat.le_of_ble_eq_true rfl) dX0_init_23 (fun q_25 L_26 f_27 H_28 hq_29 h_30 x_31 hw => ?_)
  have ne_32 : h ≠ q_25 := py_ne_new h_23 hq_29
  have h_23 := h_23.all x_31
  refine py_putF (C := RX0) (T := TX0) (N := 5) (k := 2) (v := .ref q_25) (fs' := [.ref q_1, .ref q_13, .ref q_25, .int 0, .int 0]) (ty0 := tyX0) G hin hw tyX0_ok nmX0 in_X0_init_X0 rfl h_23 (by decide) (by decide +kernel) rfl rfl rfl rfl rfl (Nat.le_of_ble_eq_true rfl) rfl dX0_init_25 (fun f_33 H_34 locs h_35 x_36 hw => ?_)
  refine lv_aload_n G.1 G.2.1 dX0_init_28 rfl (lv_at hl 0 rfl) ?_
  refine lv_iconst (v := 0) G.1 G.2.1 dX0_init_29 (by decide) ?_
  refine py_put (C := RX0) (T := TX0) (N := 5) (k := 3) (v := .int 0) (fs' := [.ref q_1, .ref q_13, .ref q_25, .int 0, .int 0]) (ty0 := tyX0) G hw tyX0_ok nmX0 in_X0_init_X0 rfl h_35 (by decide) (by decide +kernel) rfl rfl rfl rfl (Nat.le_of_ble_eq_true rfl) rfl dX0_init_30 (fun f_37 H_38 locs h_39 x_40 hw => ?_)
  refine lv_aload_n G.1 G.2.1 dX0_init_33 rfl (lv_at hl 0 rfl) ?_
  refine lv_bipush (v := 10) G.1 G.2.1 dX0_init_34 (by decide) ?_
  refine py_put (C := RX0) (T := TX0) (N := 5) (k := 4) (v := .int 10) (fs' := [.ref q_1, .ref q_13, .ref q_25, .int 0, .int 10]) (ty0 := tyX0) G hw tyX0_ok nmX0 in_X0_init_X0 rfl h_39 (by decide) (by decide +kernel) rfl rfl rfl rfl (Nat.le_of_ble_eq_true rfl) rfl dX0_init_36 (fun f_41 H_42 locs h_43 x_44 hw => ?_)
  refine W.widen (k := 3) (n := 120) (Nat.le_of_ble_eq_true rfl) (Nat.le_of_ble_eq_true rfl) ?_
  have xt_45 : py_ext L f L_26 f_41 h := fun b hb hn => by
    have n1 : b ≠ q_1 := fun h => hq_5 (h ▸ hb)
    obtain ⟨m1, e1⟩ := x_7 b hb
    obtain ⟨m2, e2⟩ := x_12 b m1 hn
    have n3 : b ≠ q_13 := fun h => hq_17 (h ▸ m2)
    obtain ⟨m3, e3⟩ := x_19 b m2
    obtain ⟨m4, e4⟩ := x_24 b m3 hn
    have n5 : b ≠ q_25 := fun h => hq_29 (h ▸ m4)
    obtain ⟨m5, e5⟩ := x_31 b m4
    obtain ⟨m6, e6⟩ := x_36 b m5 hn
    obtain ⟨m7, e7⟩ := x_40 b m6 hn
    obtain ⟨m8, e8⟩ := x_44 b m7 hn
    exact ⟨m8, e8.trans (e7.trans (e6.trans (e5.trans (e4.trans (e3.trans (e2.trans (e1.trans (rfl))))))))⟩
  exact py_vret G hr hlk hw ⟨_, h_43, rfl, rfl, xt_45⟩ dX0_init_39

def w_X7_init : List Cond := .code yX7_init cX7_init 1 none :: ([Cond.methodLink RX7 3 objectInit, Cond.instanceMethod objectInit, Cond.code objectInit ⟨#[0xb1]⟩ 1 none, Cond.arrayClass .int, Cond.fieldLink RX7 11 "HeadYear$Seasons" "lacks" "[I", Cond.fieldLink RX7 19 "HeadYear$Seasons" "letters" "[I", Cond.fieldLink RX7 22 "HeadYear$Seasons" "ring" "[I", Cond.fieldLink RX7 25 "HeadYear$Seasons" "find" "I", Cond.fieldLink RX7 29 "HeadYear$Seasons" "luck" "Z"] ++ (u_ws RX7 TX7 5 ++ ([])))
theorem in_X7_init_X7 : ∀ w ∈ u_ws RX7 TX7 5, w ∈ w_X7_init := fun _ h => List.mem_cons_of_mem _ (List.mem_append_right _ (List.mem_append_left _ h))
set_option maxHeartbeats 4000000 in
set_option maxRecDepth 100000 in
theorem c_X7_init (l : Launch) (E : py_E) (L : List Nat) (f : py_F) (sz : Nat) (h : Nat) (hh : py_at L f h (.inr (7, [.null, .null, .null, .int 0, .int 0]))) : Met l yX7_init w_X7_init ({ frames := 1, cells := 3, slots := 24, locals := 12 }) (py_Pc E [.ref h] L f sz) (py_Qv E L f sz (fun L1 f1 => ∃ xs : List Value, py_at L1 f1 h (.inr (7, xs)) ∧ xs.length = 5 ∧ py_ext L f L1 f1 h)) 3 24 (va_A (va_pl L f) sz) := by
  refine Met.ofW (cc := cX7_init) (maxL := 1) (ret := none) (by decide) rfl ?_
  intro p e s m args below meth c s₁ B hml hv
  obtain ⟨rfl, rfl, hw⟩ := py_start hv
  have G : CallFix p m c cX7_init 1 s _ w_X7_init RX7 := ⟨B.exec, B.bytes, hml, findClass_of_methodNamed B.named, atoms_spec (ws := w_X7_init) B.pre⟩
  have hr := B.returns
  have hlk := B.notSynchronized
  have hin : meth.name = "<init>" := (name_of_methodNamed B.named B.method).1
  have hl := lv_entry ([.ref h]) (n := 1) (Nat.le_of_ble_eq_true rfl)
  rw [lg_entry_eq]
  generalize (lg_sl ([.ref h]) ++ List.replicate (1 - (lg_sl ([.ref h])).length) Slot.unset).toArray = ls at hl ⊢
  have hl : lv_has ls 1 [(0, .ref h)] := hl
  refine lv_aload_n G.1 G.2.1 dX7_init_0 rfl (lv_at hl 0 rfl) ?_
  refine py_objInit G hl.1 (by decide +kernel) (by decide +kernel) (by decide +kernel) dX7_init_1 (Nat.le_of_ble_eq_true rfl) (Nat.le_of_ble_eq_true rfl) ?_
  refine lv_aload_n G.1 G.2.1 dX7_init_4 rfl (lv_at hl 0 rfl) ?_
  refine lv_bipush (v := 8) G.1 G.2.1 dX7_init_5 (by decide) ?_
  refine py_newI (N := 8) G hw (by decide +kernel) (by decide) (by decide) (Nat.le_of_ble_eq_true rfl) (Nat.le_of_ble_eq_true rfl) (Nat.le_of_ble_eq_true rfl) dX7_init_7 (fun q_1 L_2 f_3 H_4 hq_5 h_6 x_7 hw => ?_)
  have ne_8 : h ≠ q_1 := py_ne_new hh hq_5
  have hh := hh.all x_7
  refine py_putF (C := RX7) (T := TX7) (N := 5) (k := 0) (v := .ref q_1) (fs' := [.ref q_1, .null, .null, .int 0, .int 0]) (ty0 := tyX7) G hin hw tyX7_ok nmX7 in_X7_init_X7 rfl hh (by decide) (by decide +kernel) rfl rfl rfl rfl rfl (Nat.le_of_ble_eq_true rfl) rfl dX7_init_9 (fun f_9 H_10 locs h_11 x_12 hw => ?_)
  refine lv_aload_n G.1 G.2.1 dX7_init_12 rfl (lv_at hl 0 rfl) ?_
  refine lv_bipush (v := 6) G.1 G.2.1 dX7_init_13 (by decide) ?_
  refine py_newI (N := 6) G hw (by decide +kernel) (by decide) (by decide) (Nat.le_of_ble_eq_true rfl) (Nat.le_of_ble_eq_true rfl) (Nat.le_of_ble_eq_true rfl) dX7_init_15 (fun q_13 L_14 f_15 H_16 hq_17 h_18 x_19 hw => ?_)
  have ne_20 : h ≠ q_13 := py_ne_new h_11 hq_17
  have h_11 := h_11.all x_19
  refine py_putF (C := RX7) (T := TX7) (N := 5) (k := 1) (v := .ref q_13) (fs' := [.ref q_1, .ref q_13, .null, .int 0, .int 0]) (ty0 := tyX7) G hin hw tyX7_ok nmX7 in_X7_init_X7 rfl h_11 (by decide) (by decide +kernel) rfl rfl rfl rfl rfl (Nat.le_of_ble_eq_true rfl) rfl dX7_init_17 (fun f_21 H_22 locs h_23 x_24 hw => ?_)
  refine lv_aload_n G.1 G.2.1 dX7_init_20 rfl (lv_at hl 0 rfl) ?_
  refine lv_bipush (v := 10) G.1 G.2.1 dX7_init_21 (by decide) ?_
  refine py_newI (N := 10) G hw (by decide +kernel) (by decide) (by decide) (Nat.le_of_ble_eq_true rfl) (Nat.le_of_ble_eq_true rfl) (Nat.le_of_ble_eq_true rfl) dX7_init_23 (fun q_25 L_26 f_27 H_28 hq_29 h_30 x_31 hw => ?_)
  have ne_32 : h ≠ q_25 := py_ne_new h_23 hq_29
  have h_23 := h_23.all x_31
  refine py_putF (C := RX7) (T := TX7) (N := 5) (k := 2) (v := .ref q_25) (fs' := [.ref q_1, .ref q_13, .ref q_25, .int 0, .int 0]) (ty0 := tyX7) G hin hw tyX7_ok nmX7 in_X7_init_X7 rfl h_23 (by decide) (by decide +kernel) rfl rfl rfl rfl rfl (Nat.le_of_ble_eq_true rfl) rfl dX7_init_25 (fun f_33 H_34 locs h_35 x_36 hw => ?_)
  refine lv_aload_n G.1 G.2.1 dX7_init_28 rfl (lv_at hl 0 rfl) ?_
  refine lv_bipush (v := 50) G.1 G.2.1 dX7_init_29 (by decide) ?_
  refine py_put (C := RX7) (T := TX7) (N := 5) (k := 3) (v := .int 50) (fs' := [.ref q_1, .ref q_13, .ref q_25, .int 50, .int 0]) (ty0 := tyX7) G hw tyX7_ok nmX7 in_X7_init_X7 rfl h_35 (by decide) (by decide +kernel) rfl rfl rfl rfl (Nat.le_of_ble_eq_true rfl) rfl dX7_init_31 (fun f_37 H_38 locs h_39 x_40 hw => ?_)
  refine lv_aload_n G.1 G.2.1 dX7_init_34 rfl (lv_at hl 0 rfl) ?_
  refine lv_iconst (v := 0) G.1 G.2.1 dX7_init_35 (by decide) ?_
  refine py_put (C := RX7) (T := TX7) (N := 5) (k := 4) (v := .int 0) (fs' := [.ref q_1, .ref q_13, .ref q_25, .int 50, .int 0]) (ty0 := tyX7) G hw tyX7_ok nmX7 in_X7_init_X7 rfl h_39 (by decide) (by decide +kernel) rfl rfl rfl rfl (Nat.le_of_ble_eq_true rfl) rfl dX7_init_36 (fun f_41 H_42 locs h_43 x_44 hw => ?_)
  refine W.widen (k := 3) (n := 24) (Nat.le_of_ble_eq_true rfl) (Nat.le_of_ble_eq_true rfl) ?_
  have xt_45 : py_ext L f L_26 f_41 h := fun b hb hn => by
    have n1 : b ≠ q_1 := fun h => hq_5 (h ▸ hb)
    obtain ⟨m1, e1⟩ := x_7 b hb
    obtain ⟨m2, e2⟩ := x_12 b m1 hn
    have n3 : b ≠ q_13 := fun h => hq_17 (h ▸ m2)
    obtain ⟨m3, e3⟩ := x_19 b m2
    obtain ⟨m4, e4⟩ := x_24 b m3 hn
    have n5 : b ≠ q_25 := fun h => hq_29 (h ▸ m4)
    obtain ⟨m5, e5⟩ := x_31 b m4
    obtain ⟨m6, e6⟩ := x_36 b m5 hn
    obtain ⟨m7, e7⟩ := x_40 b m6 hn
    obtain ⟨m8, e8⟩ := x_44 b m7 hn
    exact ⟨m8, e8.trans (e7.trans (e6.trans (e5.trans (e4.trans (e3.trans (e2.trans (e1.trans (rfl))))))))⟩
  exact py_vret G hr hlk hw ⟨_, h_43, rfl, xt_45⟩ dX7_init_39

def w_X5_init : List Cond := .code yX5_init cX5_init 1 none :: ([Cond.methodLink RX5 3 objectInit, Cond.instanceMethod objectInit, Cond.code objectInit ⟨#[0xb1]⟩ 1 none, Cond.arrayClass .int, Cond.fieldLink RX5 11 "HeadYear$Moves" "there" "[I"] ++ (u_ws RX5 TX5 1 ++ ([])))
theorem in_X5_init_X5 : ∀ w ∈ u_ws RX5 TX5 1, w ∈ w_X5_init := fun _ h => List.mem_cons_of_mem _ (List.mem_append_right _ (List.mem_append_left _ h))
set_option maxHeartbeats 4000000 in
set_option maxRecDepth 100000 in
theorem c_X5_init (l : Launch) (E : py_E) (L : List Nat) (f : py_F) (sz : Nat) (h : Nat) (hh : py_at L f h (.inr (5, [.null]))) : Met l yX5_init w_X5_init ({ frames := 1, cells := 1, slots := 8, locals := 12 }) (py_Pc E [.ref h] L f sz) (py_Qv E L f sz (fun L1 f1 => py_ext L f L1 f1 h)) 1 8 (va_A (va_pl L f) sz) := by
  refine Met.ofW (cc := cX5_init) (maxL := 1) (ret := none) (by decide) rfl ?_
  intro p e s m args below meth c s₁ B hml hv
  obtain ⟨rfl, rfl, hw⟩ := py_start hv
  have G : CallFix p m c cX5_init 1 s _ w_X5_init RX5 := ⟨B.exec, B.bytes, hml, findClass_of_methodNamed B.named, atoms_spec (ws := w_X5_init) B.pre⟩
  have hr := B.returns
  have hlk := B.notSynchronized
  have hin : meth.name = "<init>" := (name_of_methodNamed B.named B.method).1
  have hl := lv_entry ([.ref h]) (n := 1) (Nat.le_of_ble_eq_true rfl)
  rw [lg_entry_eq]
  generalize (lg_sl ([.ref h]) ++ List.replicate (1 - (lg_sl ([.ref h])).length) Slot.unset).toArray = ls at hl ⊢
  have hl : lv_has ls 1 [(0, .ref h)] := hl
  refine lv_aload_n G.1 G.2.1 dX5_init_0 rfl (lv_at hl 0 rfl) ?_
  refine py_objInit G hl.1 (by decide +kernel) (by decide +kernel) (by decide +kernel) dX5_init_1 (Nat.le_of_ble_eq_true rfl) (Nat.le_of_ble_eq_true rfl) ?_
  refine lv_aload_n G.1 G.2.1 dX5_init_4 rfl (lv_at hl 0 rfl) ?_
  refine lv_bipush (v := 8) G.1 G.2.1 dX5_init_5 (by decide) ?_
  refine py_newI (N := 8) G hw (by decide +kernel) (by decide) (by decide) (Nat.le_of_ble_eq_true rfl) (Nat.le_of_ble_eq_true rfl) (Nat.le_of_ble_eq_true rfl) dX5_init_7 (fun q_1 L_2 f_3 H_4 hq_5 h_6 x_7 hw => ?_)
  have ne_8 : h ≠ q_1 := py_ne_new hh hq_5
  have hh := hh.all x_7
  refine py_putF (C := RX5) (T := TX5) (N := 1) (k := 0) (v := .ref q_1) (fs' := [.ref q_1]) (ty0 := tyX5) G hin hw tyX5_ok nmX5 in_X5_init_X5 rfl hh (by decide) (by decide +kernel) rfl rfl rfl rfl rfl (Nat.le_of_ble_eq_true rfl) rfl dX5_init_9 (fun f_9 H_10 locs h_11 x_12 hw => ?_)
  refine W.widen (k := 1) (n := 8) (Nat.le_of_ble_eq_true rfl) (Nat.le_of_ble_eq_true rfl) ?_
  have xt_13 : py_ext L f L_2 f_9 h := fun b hb hn => by
    have n1 : b ≠ q_1 := fun h => hq_5 (h ▸ hb)
    obtain ⟨m1, e1⟩ := x_7 b hb
    obtain ⟨m2, e2⟩ := x_12 b m1 hn
    exact ⟨m2, e2.trans (e1.trans (rfl))⟩
  exact py_vret G hr hlk hw xt_13 dX5_init_12

def w_X6_init : List Cond := .code yX6_init cX6_init 3 none :: ([Cond.methodLink RX6 3 objectInit, Cond.instanceMethod objectInit, Cond.code objectInit ⟨#[0xb1]⟩ 1 none, Cond.arrayClass .int, Cond.fieldLink RX6 11 "HeadYear$Odds" "letters" "[I", Cond.arrayClass .long, Cond.fieldLink RX6 17 "HeadYear$Odds" "dying" "[J", Cond.fieldLink RX6 23 "HeadYear$Odds" "parts" "[J", Cond.fieldLink RX6 26 "HeadYear$Odds" "after" "[J", Cond.fieldLink RX6 29 "HeadYear$Odds" "gone" "J", Cond.fieldLink RX6 33 "HeadYear$Odds" "folk" "LHeadYear$Folk;", Cond.fieldLink RX6 37 "HeadYear$Odds" "law" "LHeadYear$Law;"] ++ (u_ws RX6 TX6 7 ++ ([])))
theorem in_X6_init_X6 : ∀ w ∈ u_ws RX6 TX6 7, w ∈ w_X6_init := fun _ h => List.mem_cons_of_mem _ (List.mem_append_right _ (List.mem_append_left _ h))
set_option maxHeartbeats 4000000 in
set_option maxRecDepth 100000 in
theorem c_X6_init (l : Launch) (E : py_E) (L : List Nat) (f : py_F) (sz : Nat) (h : Nat) (fo : Nat) (nl : Nat) (hh : py_at L f h (.inr (6, [.null, .null, .null, .null, .null, .null, .long 0]))) : Met l yX6_init w_X6_init ({ frames := 1, cells := 4, slots := 364, locals := 12 }) (py_Pc E [.ref h, .ref fo, .ref nl] L f sz) (py_Qv E L f sz (fun L1 f1 => py_ext L f L1 f1 h)) 4 364 (va_A (va_pl L f) sz) := by
  refine Met.ofW (cc := cX6_init) (maxL := 3) (ret := none) (by decide) rfl ?_
  intro p e s m args below meth c s₁ B hml hv
  obtain ⟨rfl, rfl, hw⟩ := py_start hv
  have G : CallFix p m c cX6_init 3 s _ w_X6_init RX6 := ⟨B.exec, B.bytes, hml, findClass_of_methodNamed B.named, atoms_spec (ws := w_X6_init) B.pre⟩
  have hr := B.returns
  have hlk := B.notSynchronized
  have hin : meth.name = "<init>" := (name_of_methodNamed B.named B.method).1
  have hl := lv_entry ([.ref h, .ref fo, .ref nl]) (n := 3) (Nat.le_of_ble_eq_true rfl)
  rw [lg_entry_eq]
  generalize (lg_sl ([.ref h, .ref fo, .ref nl]) ++ List.replicate (3 - (lg_sl ([.ref h, .ref fo, .ref nl])).length) Slot.unset).toArray = ls at hl ⊢
  have hl : lv_has ls 3 [(0, .ref h), (1, .ref fo), (2, .ref nl)] := hl
  refine lv_aload_n G.1 G.2.1 dX6_init_0 rfl (lv_at hl 0 rfl) ?_
  refine py_objInit G hl.1 (by decide +kernel) (by decide +kernel) (by decide +kernel) dX6_init_1 (Nat.le_of_ble_eq_true rfl) (Nat.le_of_ble_eq_true rfl) ?_
  refine lv_aload_n G.1 G.2.1 dX6_init_4 rfl (lv_at hl 0 rfl) ?_
  refine lv_bipush (v := 6) G.1 G.2.1 dX6_init_5 (by decide) ?_
  refine py_newI (N := 6) G hw (by decide +kernel) (by decide) (by decide) (Nat.le_of_ble_eq_true rfl) (Nat.le_of_ble_eq_true rfl) (Nat.le_of_ble_eq_true rfl) dX6_init_7 (fun q_1 L_2 f_3 H_4 hq_5 h_6 x_7 hw => ?_)
  have ne_8 : h ≠ q_1 := py_ne_new hh hq_5
  have hh := hh.all x_7
  refine py_putF (C := RX6) (T := TX6) (N := 7) (k := 0) (v := .ref q_1) (fs' := [.ref q_1, .null, .null, .null, .null, .null, .long 0]) (ty0 := tyX6) G hin hw tyX6_ok nmX6 in_X6_init_X6 rfl hh (by decide) (by decide +kernel) rfl rfl rfl rfl rfl (Nat.le_of_ble_eq_true rfl) rfl dX6_init_9 (fun f_9 H_10 locs h_11 x_12 hw => ?_)
  refine lv_aload_n G.1 G.2.1 dX6_init_12 rfl (lv_at hl 0 rfl) ?_
  refine lv_bipush (v := 22) G.1 G.2.1 dX6_init_13 (by decide) ?_
  refine py_newJ (N := 22) G hw (by decide +kernel) (by decide) (by decide) (Nat.le_of_ble_eq_true rfl) (Nat.le_of_ble_eq_true rfl) (Nat.le_of_ble_eq_true rfl) dX6_init_15 (fun q_13 L_14 f_15 H_16 hq_17 h_18 x_19 hw => ?_)
  have ne_20 : h ≠ q_13 := py_ne_new h_11 hq_17
  have h_11 := h_11.all x_19
  refine py_putF (C := RX6) (T := TX6) (N := 7) (k := 1) (v := .ref q_13) (fs' := [.ref q_1, .ref q_13, .null, .null, .null, .null, .long 0]) (ty0 := tyX6) G hin hw tyX6_ok nmX6 in_X6_init_X6 rfl h_11 (by decide) (by decide +kernel) rfl rfl rfl rfl rfl (Nat.le_of_ble_eq_true rfl) rfl dX6_init_17 (fun f_21 H_22 locs h_23 x_24 hw => ?_)
  refine lv_aload_n G.1 G.2.1 dX6_init_20 rfl (lv_at hl 0 rfl) ?_
  refine lv_sipush (v := 168) G.1 G.2.1 dX6_init_21 (by decide) ?_
  refine py_newJ (N := 168) G hw (by decide +kernel) (by decide) (by decide) (Nat.le_of_ble_eq_true rfl) (Nat.le_of_ble_eq_true rfl) (Nat.le_of_ble_eq_true rfl) dX6_init_24 (fun q_25 L_26 f_27 H_28 hq_29 h_30 x_31 hw => ?_)
  have ne_32 : h ≠ q_25 := py_ne_new h_23 hq_29
  have h_23 := h_23.all x_31
  refine py_put (C := RX6) (T := TX6) (N := 7) (k := 3) (v := .ref q_25) (fs' := [.ref q_1, .ref q_13, .null, .ref q_25, .null, .null, .long 0]) (ty0 := tyX6) G hw tyX6_ok nmX6 in_X6_init_X6 rfl h_23 (by decide) (by decide +kernel) rfl rfl rfl rfl (Nat.le_of_ble_eq_true rfl) rfl dX6_init_26 (fun f_33 H_34 locs h_35 x_36 hw => ?_)
  refine lv_aload_n G.1 G.2.1 dX6_init_29 rfl (lv_at hl 0 rfl) ?_
  refine lv_sipush (v := 168) G.1 G.2.1 dX6_init_30 (by decide) ?_
  refine py_newJ (N := 168) G hw (by decide +kernel) (by decide) (by decide) (Nat.le_of_ble_eq_true rfl) (Nat.le_of_ble_eq_true rfl) (Nat.le_of_ble_eq_true rfl) dX6_init_33 (fun q_37 L_38 f_39 H_40 hq_41 h_42 x_43 hw => ?_)
  have ne_44 : h ≠ q_37 := py_ne_new h_35 hq_41
  have h_35 := h_35.all x_43
  refine py_put (C := RX6) (T := TX6) (N := 7) (k := 4) (v := .ref q_37) (fs' := [.ref q_1, .ref q_13, .null, .ref q_25, .ref q_37, .null, .long 0]) (ty0 := tyX6) G hw tyX6_ok nmX6 in_X6_init_X6 rfl h_35 (by decide) (by decide +kernel) rfl rfl rfl rfl (Nat.le_of_ble_eq_true rfl) rfl dX6_init_35 (fun f_45 H_46 locs h_47 x_48 hw => ?_)
  refine lv_aload_n G.1 G.2.1 dX6_init_38 rfl (lv_at hl 0 rfl) ?_
  refine lv_lconst (v := 0) G.1 G.2.1 dX6_init_39 (by decide) ?_
  refine py_put (C := RX6) (T := TX6) (N := 7) (k := 6) (v := .long 0) (fs' := [.ref q_1, .ref q_13, .null, .ref q_25, .ref q_37, .null, .long 0]) (ty0 := tyX6) G hw tyX6_ok nmX6 in_X6_init_X6 rfl h_47 (by decide) (by decide +kernel) rfl rfl rfl rfl (Nat.le_of_ble_eq_true rfl) rfl dX6_init_40 (fun f_49 H_50 locs h_51 x_52 hw => ?_)
  refine lv_aload_n G.1 G.2.1 dX6_init_43 rfl (lv_at hl 0 rfl) ?_
  refine lv_aload_n G.1 G.2.1 dX6_init_44 rfl (lv_at hl 1 rfl) ?_
  refine py_putF (C := RX6) (T := TX6) (N := 7) (k := 2) (v := .ref fo) (fs' := [.ref q_1, .ref q_13, .ref fo, .ref q_25, .ref q_37, .null, .long 0]) (ty0 := tyX6) G hin hw tyX6_ok nmX6 in_X6_init_X6 rfl h_51 (by decide) (by decide +kernel) rfl rfl rfl rfl rfl (Nat.le_of_ble_eq_true rfl) rfl dX6_init_45 (fun f_53 H_54 locs h_55 x_56 hw => ?_)
  refine lv_aload_n G.1 G.2.1 dX6_init_48 rfl (lv_at hl 0 rfl) ?_
  refine lv_aload_n G.1 G.2.1 dX6_init_49 rfl (lv_at hl 2 rfl) ?_
  refine py_put (C := RX6) (T := TX6) (N := 7) (k := 5) (v := .ref nl) (fs' := [.ref q_1, .ref q_13, .ref fo, .ref q_25, .ref q_37, .ref nl, .long 0]) (ty0 := tyX6) G hw tyX6_ok nmX6 in_X6_init_X6 rfl h_55 (by decide) (by decide +kernel) rfl rfl rfl rfl (Nat.le_of_ble_eq_true rfl) rfl dX6_init_50 (fun f_57 H_58 locs h_59 x_60 hw => ?_)
  refine W.widen (k := 4) (n := 364) (Nat.le_of_ble_eq_true rfl) (Nat.le_of_ble_eq_true rfl) ?_
  have xt_61 : py_ext L f L_38 f_57 h := fun b hb hn => by
    have n1 : b ≠ q_1 := fun h => hq_5 (h ▸ hb)
    obtain ⟨m1, e1⟩ := x_7 b hb
    obtain ⟨m2, e2⟩ := x_12 b m1 hn
    have n3 : b ≠ q_13 := fun h => hq_17 (h ▸ m2)
    obtain ⟨m3, e3⟩ := x_19 b m2
    obtain ⟨m4, e4⟩ := x_24 b m3 hn
    have n5 : b ≠ q_25 := fun h => hq_29 (h ▸ m4)
    obtain ⟨m5, e5⟩ := x_31 b m4
    obtain ⟨m6, e6⟩ := x_36 b m5 hn
    have n7 : b ≠ q_37 := fun h => hq_41 (h ▸ m6)
    obtain ⟨m7, e7⟩ := x_43 b m6
    obtain ⟨m8, e8⟩ := x_48 b m7 hn
    obtain ⟨m9, e9⟩ := x_52 b m8 hn
    obtain ⟨m10, e10⟩ := x_56 b m9 hn
    obtain ⟨m11, e11⟩ := x_60 b m10 hn
    exact ⟨m11, e11.trans (e10.trans (e9.trans (e8.trans (e7.trans (e6.trans (e5.trans (e4.trans (e3.trans (e2.trans (e1.trans (rfl)))))))))))⟩
  exact py_vret G hr hlk hw xt_61 dX6_init_53

def w_X3_add : List Cond := .code yX3_add cX3_add 3 none :: ([Cond.fieldLink RX3 18 "HeadYear$Law" "length" "I", Cond.fieldLink RX3 9 "HeadYear$Law" "code" "[I"] ++ (u_ws RX3 TX3 3 ++ ([])))
theorem in_X3_add_X3 : ∀ w ∈ u_ws RX3 TX3 3, w ∈ w_X3_add := fun _ h => List.mem_cons_of_mem _ (List.mem_append_right _ (List.mem_append_left _ h))
set_option maxHeartbeats 4000000 in
set_option maxRecDepth 100000 in
theorem c_X3_add (l : Launch) (E : py_E) (L : List Nat) (f : py_F) (sz : Nat) (h : Nat) (sg vl : Int32) (co st : Nat) (n n1 : Int32) (g : Nat → Int32) (hh : py_at L f h (.inr (3, [.ref co, .ref st, .int n]))) (hc : py_at L f co (.inl (E.2.1, 160, .inl g))) (hn : n < 160) (hin : vp_in n 160) (hn1 : n + 1 = n1) : Met l yX3_add w_X3_add ({ frames := 0, cells := 0, slots := 0, locals := 0 }) (py_Pc E [.ref h, .int sg, .int vl] L f sz) (py_Qv E L f sz (fun L1 f1 => ∃ g1 : Nat → Int32, py_at L1 f1 h (.inr (3, [.ref co, .ref st, .int n1])) ∧ py_at L1 f1 co (.inl (E.2.1, 160, .inl g1)) ∧ py_ext2 L f L1 f1 h co)) 0 0 (va_A (va_pl L f) sz) := by
  refine Met.ofW (cc := cX3_add) (maxL := 3) (ret := none) (by decide) rfl ?_
  intro p e s m args below meth c s₁ B hml hv
  obtain ⟨rfl, rfl, hw⟩ := py_start hv
  have G : CallFix p m c cX3_add 3 s _ w_X3_add RX3 := ⟨B.exec, B.bytes, hml, findClass_of_methodNamed B.named, atoms_spec (ws := w_X3_add) B.pre⟩
  have hr := B.returns
  have hlk := B.notSynchronized
  have hl := lv_entry ([.ref h, .int sg, .int vl]) (n := 3) (Nat.le_of_ble_eq_true rfl)
  rw [lg_entry_eq]
  generalize (lg_sl ([.ref h, .int sg, .int vl]) ++ List.replicate (3 - (lg_sl ([.ref h, .int sg, .int vl])).length) Slot.unset).toArray = ls at hl ⊢
  have hl : lv_has ls 3 [(0, .ref h), (1, .int sg), (2, .int vl)] := hl
  refine lv_aload_n G.1 G.2.1 dX3_add_0 rfl (lv_at hl 0 rfl) ?_
  refine py_get (C := RX3) (T := TX3) (N := 3) (k := 2) (v := .int n) G hw in_X3_add_X3 rfl hh (by decide) (by decide +kernel) rfl dX3_add_1 ?_
  refine lv_aload_n G.1 G.2.1 dX3_add_4 rfl (lv_at hl 0 rfl) ?_
  refine py_get (C := RX3) (T := TX3) (N := 3) (k := 0) (v := .ref co) G hw in_X3_add_X3 rfl hh (by decide) (by decide +kernel) rfl dX3_add_5 ?_
  refine py_alen (v := 160) G hw hc rfl dX3_add_8 ?_
  refine lv_icmp_ge (tgt := 37) G.1 G.2.1 dX3_add_9 (by decide) (fun c_1 => ?_) (fun c_1 => ?_)
  · skip
    exact absurd c_1 (Int32.not_le.mpr hn)
  · skip
    refine lv_aload_n G.1 G.2.1 dX3_add_12 rfl (lv_at hl 0 rfl) ?_
    refine py_get (C := RX3) (T := TX3) (N := 3) (k := 0) (v := .ref co) G hw in_X3_add_X3 rfl hh (by decide) (by decide +kernel) rfl dX3_add_13 ?_
    refine lv_aload_n G.1 G.2.1 dX3_add_16 rfl (lv_at hl 0 rfl) ?_
    refine py_get (C := RX3) (T := TX3) (N := 3) (k := 2) (v := .int n) G hw in_X3_add_X3 rfl hh (by decide) (by decide +kernel) rfl dX3_add_17 ?_
    refine lv_iload_n G.1 G.2.1 dX3_add_20 rfl (lv_at hl 1 rfl) ?_
    refine lv_bipush (v := 16) G.1 G.2.1 dX3_add_21 (by decide) ?_
    refine lv_ishl G.1 G.2.1 dX3_add_23 ?_
    refine lv_topi (fun x_2 ex_2 => ?_)
    refine lv_iload_n G.1 G.2.1 dX3_add_24 rfl (lv_at hl 2 rfl) ?_
    refine lv_ior G.1 G.2.1 dX3_add_25 ?_
    refine lv_topi (fun x_3 ex_3 => ?_)
    refine py_iast G hw hc hin dX3_add_26 (fun f_4 H_5 locs h_6 x_7 hw => ?_)
    generalize upd g _ _ = g_8 at h_6
    have hh := hh.ext x_7 (py_ne_arr hh hc)
    refine lv_aload_n G.1 G.2.1 dX3_add_27 rfl (lv_at hl 0 rfl) ?_
    refine lv_dup G.1 G.2.1 dX3_add_28 rfl ?_
    refine py_get (C := RX3) (T := TX3) (N := 3) (k := 2) (v := .int n) G hw in_X3_add_X3 rfl hh (by decide) (by decide +kernel) rfl dX3_add_29 ?_
    refine lv_iconst (v := 1) G.1 G.2.1 dX3_add_32 (by decide) ?_
    refine lv_iadd G.1 G.2.1 dX3_add_33 ?_
    refine lv_topi (fun x_9 ex_9 => ?_)
    refine py_put (C := RX3) (T := TX3) (N := 3) (k := 2) (v := .int x_9) (fs' := [.ref co, .ref st, .int x_9]) (ty0 := tyX3) G hw tyX3_ok nmX3 in_X3_add_X3 rfl hh (by decide) (by decide +kernel) rfl rfl rfl rfl (Nat.le_of_ble_eq_true rfl) rfl dX3_add_34 (fun f_10 H_11 locs h_12 x_13 hw => ?_)
    have h_6 := h_6.ext x_13 (Ne.symm (py_ne_arr hh h_6))
    have xt : py_ext2 L f L f_10 h co := fun b hb h1 h2 => by
      obtain ⟨m0, e0⟩ := x_7 b hb h2
      obtain ⟨m1, e1⟩ := x_13 b m0 h1
      exact ⟨m1, e1.trans (e0.trans (rfl))⟩
    have hz := h_12
    rw [ex_9, hn1] at hz
    exact py_vret G hr hlk hw ⟨_, hz, h_6, xt⟩ dX3_add_37

def w_X3_bornLessDead : List Cond := .code yX3_bornLessDead cX3_bornLessDead 1 (some (.object "HeadYear$Law")) :: ([Cond.classLink RX3 10 RX3, Cond.instantiable RX3 3, Cond.initialized RX3, Cond.methodLink RX3 22 yX3_init, Cond.instanceMethod yX3_init, Cond.methodLink RX3 23 yX3_add, Cond.instanceMethod yX3_add, Cond.selects RX3 yX3_add yX3_add] ++ (u_ws RX3 TX3 3 ++ (w_X3_init ++ (w_X3_add ++ ([])))))
theorem in_X3_bornLessDead_X3 : ∀ w ∈ u_ws RX3 TX3 3, w ∈ w_X3_bornLessDead := fun _ h => List.mem_cons_of_mem _ (List.mem_append_right _ (List.mem_append_left _ h))
theorem gg_X3_bornLessDead_X3_init : GoodIn w_X3_bornLessDead w_X3_init := goodIn_sub (fun _ h => List.mem_cons_of_mem _ (List.mem_append_right _ (List.mem_append_right _ (List.mem_append_left _ h)))) (by decide +kernel)
theorem gg_X3_bornLessDead_X3_add : GoodIn w_X3_bornLessDead w_X3_add := goodIn_sub (fun _ h => List.mem_cons_of_mem _ (List.mem_append_right _ (List.mem_append_right _ (List.mem_append_right _ (List.mem_append_left _ h))))) (by decide +kernel)
theorem g_X3_bornLessDead_X3_add_23 : GoodIn w_X3_bornLessDead (wsV RX3 23 RX3 yX3_add w_X3_add) := goodIn_app (goodIn_of _ (by decide +kernel)) gg_X3_bornLessDead_X3_add
theorem g_X3_bornLessDead_X3_init_22 : GoodIn w_X3_bornLessDead w_X3_init := gg_X3_bornLessDead_X3_init
set_option maxHeartbeats 4000000 in
set_option maxRecDepth 100000 in
theorem c_X3_bornLessDead (l : Launch) (E : py_E) (L : List Nat) (f : py_F) (sz : Nat)  : Met l yX3_bornLessDead w_X3_bornLessDead ({ frames := 2, cells := 3, slots := 195, locals := 32 }) (py_Pc E [] L f sz) (py_Qr E L f sz (fun r L1 f1 => py_all L f L1 f1)) 3 195 (va_A (va_pl L f) sz) := by
  refine Met.ofW (cc := cX3_bornLessDead) (maxL := 1) (ret := (some (.object "HeadYear$Law"))) (by decide) rfl ?_
  intro p e s m args below meth c s₁ B hml hv
  obtain ⟨rfl, rfl, hw⟩ := py_start hv
  have G : CallFix p m c cX3_bornLessDead 1 s _ w_X3_bornLessDead RX3 := ⟨B.exec, B.bytes, hml, findClass_of_methodNamed B.named, atoms_spec (ws := w_X3_bornLessDead) B.pre⟩
  have hr := B.returns
  have hlk := B.notSynchronized
  have hl := lv_entry ([]) (n := 1) (Nat.le_of_ble_eq_true rfl)
  rw [lg_entry_eq]
  generalize (lg_sl ([]) ++ List.replicate (1 - (lg_sl ([])).length) Slot.unset).toArray = ls at hl ⊢
  have hl : lv_has ls 1 [] := hl
  refine py_new (C := RX3) (T := TX3) (N := 3) (ci := 3) (fs := [.null, .null, .int 0]) (ty0 := tyX3) G hw tyX3_ok in_X3_bornLessDead_X3 rfl (by decide +kernel) (by decide +kernel) (by decide +kernel) (fun j hj => match j, hj with | 0, _ => rfl | 1, _ => rfl | 2, _ => rfl | n + 3, h => absurd h (by omega)) (Nat.le_of_ble_eq_true rfl) (Nat.le_of_ble_eq_true rfl) dX3_bornLessDead_0 (fun q_1 L_2 f_3 H_4 hq_5 h_6 x_7 hw => ?_)
  refine lv_dup G.1 G.2.1 dX3_bornLessDead_3 rfl ?_
  refine py_callv hw (va_runI (As := []) (rest := [.ref q_1]) G (c_X3_init l E L_2 f_3 H_4.size q_1 h_6) (cwI 0 G.2.2.2.2 g_X3_bornLessDead_X3_init_22 rfl rfl rfl (G.2.2.2.2 (Cond.initialized RX3) (by decide +kernel)) (G.2.2.2.2 (Cond.methodLink RX3 22 yX3_init) (by decide +kernel)) (G.2.2.2.2 (Cond.instanceMethod yX3_init) (by decide +kernel)) rfl (by decide +kernel) ⟨(Nat.le_of_ble_eq_true rfl), (Nat.le_of_ble_eq_true rfl)⟩) (py_preS hw) rfl rfl hl.1 rfl (lv_room (Nat.le_of_ble_eq_true rfl)) dX3_bornLessDead_4 ⟨(Nat.le_of_ble_eq_true rfl), (Nat.le_of_ble_eq_true rfl)⟩) (fun L_8 f_9 H_10 locs hp_11 hw => ?_)
  obtain ⟨co_14, st_18, h_15, h_16, hco_17, x_13⟩ := hp_11
  refine lv_astore_n (lv' := [(0, .ref q_1)]) G.1 G.2.1 dX3_bornLessDead_7 rfl hl (by decide) rfl (fun ls hl => ?_)
  refine lv_aload_n G.1 G.2.1 dX3_bornLessDead_8 rfl (lv_at hl 0 rfl) ?_
  refine lv_bipush (v := 121) G.1 G.2.1 dX3_bornLessDead_9 (by decide) ?_
  refine lv_iconst (v := 0) G.1 G.2.1 dX3_bornLessDead_11 (by decide) ?_
  refine py_callv hw (va_runV (As := [.int 121, .int 0]) (rest := []) G (c_X3_add l E L_8 f_9 H_10.size q_1 121 0 co_14 st_18 0 (1) (fun _ => 0) h_15 h_16 (by decide) (py_inr (by decide)) (by decide) ) (cwV 2 G.2.2.2.2 g_X3_bornLessDead_X3_add_23 rfl rfl rfl (by decide +kernel) ⟨(Nat.le_of_ble_eq_true rfl), (Nat.le_of_ble_eq_true rfl)⟩) (py_preV hw (C := RX3) (T := TX3) (N := 3) rfl h_15) rfl rfl hl.1 rfl (lv_room (Nat.le_of_ble_eq_true rfl)) dX3_bornLessDead_12 ⟨(Nat.le_of_ble_eq_true rfl), (Nat.le_of_ble_eq_true rfl)⟩) (fun L_19 f_20 H_21 locs hp_22 hw => ?_)
  obtain ⟨g_24, h_25, h_26, x_27⟩ := hp_22
  refine lv_aload_n G.1 G.2.1 dX3_bornLessDead_15 rfl (lv_at hl 0 rfl) ?_
  refine lv_bipush (v := 121) G.1 G.2.1 dX3_bornLessDead_16 (by decide) ?_
  refine lv_iconst (v := 1) G.1 G.2.1 dX3_bornLessDead_18 (by decide) ?_
  refine py_callv hw (va_runV (As := [.int 121, .int 1]) (rest := []) G (c_X3_add l E L_19 f_20 H_21.size q_1 121 1 co_14 st_18 1 (2) g_24 h_25 h_26 (by decide) (py_inr (by decide)) (by decide) ) (cwV 2 G.2.2.2.2 g_X3_bornLessDead_X3_add_23 rfl rfl rfl (by decide +kernel) ⟨(Nat.le_of_ble_eq_true rfl), (Nat.le_of_ble_eq_true rfl)⟩) (py_preV hw (C := RX3) (T := TX3) (N := 3) rfl h_25) rfl rfl hl.1 rfl (lv_room (Nat.le_of_ble_eq_true rfl)) dX3_bornLessDead_19 ⟨(Nat.le_of_ble_eq_true rfl), (Nat.le_of_ble_eq_true rfl)⟩) (fun L_28 f_29 H_30 locs hp_31 hw => ?_)
  obtain ⟨g_33, h_34, h_35, x_36⟩ := hp_31
  refine lv_aload_n G.1 G.2.1 dX3_bornLessDead_22 rfl (lv_at hl 0 rfl) ?_
  refine lv_bipush (v := 45) G.1 G.2.1 dX3_bornLessDead_23 (by decide) ?_
  refine lv_iconst (v := 0) G.1 G.2.1 dX3_bornLessDead_25 (by decide) ?_
  refine py_callv hw (va_runV (As := [.int 45, .int 0]) (rest := []) G (c_X3_add l E L_28 f_29 H_30.size q_1 45 0 co_14 st_18 2 (3) g_33 h_34 h_35 (by decide) (py_inr (by decide)) (by decide) ) (cwV 2 G.2.2.2.2 g_X3_bornLessDead_X3_add_23 rfl rfl rfl (by decide +kernel) ⟨(Nat.le_of_ble_eq_true rfl), (Nat.le_of_ble_eq_true rfl)⟩) (py_preV hw (C := RX3) (T := TX3) (N := 3) rfl h_34) rfl rfl hl.1 rfl (lv_room (Nat.le_of_ble_eq_true rfl)) dX3_bornLessDead_26 ⟨(Nat.le_of_ble_eq_true rfl), (Nat.le_of_ble_eq_true rfl)⟩) (fun L_37 f_38 H_39 locs hp_40 hw => ?_)
  obtain ⟨g_42, h_43, h_44, x_45⟩ := hp_40
  refine lv_aload_n G.1 G.2.1 dX3_bornLessDead_29 rfl (lv_at hl 0 rfl) ?_
  refine lv_bipush (v := 59) G.1 G.2.1 dX3_bornLessDead_30 (by decide) ?_
  refine lv_iconst (v := 0) G.1 G.2.1 dX3_bornLessDead_32 (by decide) ?_
  refine py_callv hw (va_runV (As := [.int 59, .int 0]) (rest := []) G (c_X3_add l E L_37 f_38 H_39.size q_1 59 0 co_14 st_18 3 (4) g_42 h_43 h_44 (by decide) (py_inr (by decide)) (by decide) ) (cwV 2 G.2.2.2.2 g_X3_bornLessDead_X3_add_23 rfl rfl rfl (by decide +kernel) ⟨(Nat.le_of_ble_eq_true rfl), (Nat.le_of_ble_eq_true rfl)⟩) (py_preV hw (C := RX3) (T := TX3) (N := 3) rfl h_43) rfl rfl hl.1 rfl (lv_room (Nat.le_of_ble_eq_true rfl)) dX3_bornLessDead_33 ⟨(Nat.le_of_ble_eq_true rfl), (Nat.le_of_ble_eq_true rfl)⟩) (fun L_46 f_47 H_48 locs hp_49 hw => ?_)
  obtain ⟨g_51, h_52, h_53, x_54⟩ := hp_49
  refine lv_aload_n G.1 G.2.1 dX3_bornLessDead_36 rfl (lv_at hl 0 rfl) ?_
  refine W.widen (k := 3) (n := 195) (Nat.le_of_ble_eq_true rfl) (Nat.le_of_ble_eq_true rfl) ?_
  have xt : py_all L f L_46 f_47 := fun b hb => by
    have n0 : b ≠ q_1 := fun h => hq_5 (h ▸ hb)
    obtain ⟨m0, e0⟩ := x_7 b hb
    have nco : b ≠ co_14 := fun h => hco_17 (h ▸ m0)
    obtain ⟨m1, e1⟩ := x_13 b m0 n0
    obtain ⟨m2, e2⟩ := x_27 b m1 n0 nco
    obtain ⟨m3, e3⟩ := x_36 b m2 n0 nco
    obtain ⟨m4, e4⟩ := x_45 b m3 n0 nco
    obtain ⟨m5, e5⟩ := x_54 b m4 n0 nco
    exact ⟨m5, e5.trans (e4.trans (e3.trans (e2.trans (e1.trans (e0.trans (rfl))))))⟩
  exact py_rret G hr (Or.inl ⟨_, rfl⟩) hlk hw xt dX3_bornLessDead_37
end
section
theorem dX11_init_0 : decode cX11_init 0 = .ok (.aload_n 0, 1) := by decide +kernel
theorem dX11_init_1 : decode cX11_init 1 = .ok (.invokespecial 1, 3) := by decide +kernel
theorem dX11_init_4 : decode cX11_init 4 = .ok (.aload_n 0, 1) := by decide +kernel
theorem dX11_init_5 : decode cX11_init 5 = .ok (.new 7, 3) := by decide +kernel
theorem dX11_init_8 : decode cX11_init 8 = .ok (.dup, 1) := by decide +kernel
theorem dX11_init_9 : decode cX11_init 9 = .ok (.invokespecial 9, 3) := by decide +kernel
theorem dX11_init_12 : decode cX11_init 12 = .ok (.putfield 10, 3) := by decide +kernel
theorem dX11_init_15 : decode cX11_init 15 = .ok (.aload_n 0, 1) := by decide +kernel
theorem dX11_init_16 : decode cX11_init 16 = .ok (.new 16, 3) := by decide +kernel
theorem dX11_init_19 : decode cX11_init 19 = .ok (.dup, 1) := by decide +kernel
theorem dX11_init_20 : decode cX11_init 20 = .ok (.invokespecial 18, 3) := by decide +kernel
theorem dX11_init_23 : decode cX11_init 23 = .ok (.putfield 19, 3) := by decide +kernel
theorem dX11_init_26 : decode cX11_init 26 = .ok (.aload_n 0, 1) := by decide +kernel
theorem dX11_init_27 : decode cX11_init 27 = .ok (.new 23, 3) := by decide +kernel
theorem dX11_init_30 : decode cX11_init 30 = .ok (.dup, 1) := by decide +kernel
theorem dX11_init_31 : decode cX11_init 31 = .ok (.invokespecial 25, 3) := by decide +kernel
theorem dX11_init_34 : decode cX11_init 34 = .ok (.putfield 26, 3) := by decide +kernel
theorem dX11_init_37 : decode cX11_init 37 = .ok (.aload_n 0, 1) := by decide +kernel
theorem dX11_init_38 : decode cX11_init 38 = .ok (.iconst 4, 1) := by decide +kernel
theorem dX11_init_39 : decode cX11_init 39 = .ok (.anewarray 30, 3) := by decide +kernel
theorem dX11_init_42 : decode cX11_init 42 = .ok (.putfield 32, 3) := by decide +kernel
theorem dX11_init_45 : decode cX11_init 45 = .ok (.aload_n 0, 1) := by decide +kernel
theorem dX11_init_46 : decode cX11_init 46 = .ok (.invokestatic 36, 3) := by decide +kernel
theorem dX11_init_49 : decode cX11_init 49 = .ok (.putfield 40, 3) := by decide +kernel
theorem dX11_init_52 : decode cX11_init 52 = .ok (.aload_n 0, 1) := by decide +kernel
theorem dX11_init_53 : decode cX11_init 53 = .ok (.new 44, 3) := by decide +kernel
theorem dX11_init_56 : decode cX11_init 56 = .ok (.dup, 1) := by decide +kernel
theorem dX11_init_57 : decode cX11_init 57 = .ok (.invokespecial 46, 3) := by decide +kernel
theorem dX11_init_60 : decode cX11_init 60 = .ok (.putfield 47, 3) := by decide +kernel
theorem dX11_init_63 : decode cX11_init 63 = .ok (.aload_n 0, 1) := by decide +kernel
theorem dX11_init_64 : decode cX11_init 64 = .ok (.new 44, 3) := by decide +kernel
theorem dX11_init_67 : decode cX11_init 67 = .ok (.dup, 1) := by decide +kernel
theorem dX11_init_68 : decode cX11_init 68 = .ok (.invokespecial 46, 3) := by decide +kernel
theorem dX11_init_71 : decode cX11_init 71 = .ok (.putfield 51, 3) := by decide +kernel
theorem dX11_init_74 : decode cX11_init 74 = .ok (.aload_n 0, 1) := by decide +kernel
theorem dX11_init_75 : decode cX11_init 75 = .ok (.new 44, 3) := by decide +kernel
theorem dX11_init_78 : decode cX11_init 78 = .ok (.dup, 1) := by decide +kernel
theorem dX11_init_79 : decode cX11_init 79 = .ok (.invokespecial 46, 3) := by decide +kernel
theorem dX11_init_82 : decode cX11_init 82 = .ok (.putfield 54, 3) := by decide +kernel
theorem dX11_init_85 : decode cX11_init 85 = .ok (.aload_n 0, 1) := by decide +kernel
theorem dX11_init_86 : decode cX11_init 86 = .ok (.new 57, 3) := by decide +kernel
theorem dX11_init_89 : decode cX11_init 89 = .ok (.dup, 1) := by decide +kernel
theorem dX11_init_90 : decode cX11_init 90 = .ok (.invokespecial 59, 3) := by decide +kernel
theorem dX11_init_93 : decode cX11_init 93 = .ok (.putfield 60, 3) := by decide +kernel
theorem dX11_init_96 : decode cX11_init 96 = .ok (.aload_n 0, 1) := by decide +kernel
theorem dX11_init_97 : decode cX11_init 97 = .ok (.new 64, 3) := by decide +kernel
theorem dX11_init_100 : decode cX11_init 100 = .ok (.dup, 1) := by decide +kernel
theorem dX11_init_101 : decode cX11_init 101 = .ok (.invokespecial 66, 3) := by decide +kernel
theorem dX11_init_104 : decode cX11_init 104 = .ok (.putfield 67, 3) := by decide +kernel
theorem dX11_init_107 : decode cX11_init 107 = .ok (.aload_n 0, 1) := by decide +kernel
theorem dX11_init_108 : decode cX11_init 108 = .ok (.new 71, 3) := by decide +kernel
theorem dX11_init_111 : decode cX11_init 111 = .ok (.dup, 1) := by decide +kernel
theorem dX11_init_112 : decode cX11_init 112 = .ok (.invokespecial 73, 3) := by decide +kernel
theorem dX11_init_115 : decode cX11_init 115 = .ok (.putfield 74, 3) := by decide +kernel
theorem dX11_init_118 : decode cX11_init 118 = .ok (.aload_n 0, 1) := by decide +kernel
theorem dX11_init_119 : decode cX11_init 119 = .ok (.new 78, 3) := by decide +kernel
theorem dX11_init_122 : decode cX11_init 122 = .ok (.dup, 1) := by decide +kernel
theorem dX11_init_123 : decode cX11_init 123 = .ok (.invokespecial 80, 3) := by decide +kernel
theorem dX11_init_126 : decode cX11_init 126 = .ok (.putfield 81, 3) := by decide +kernel
theorem dX11_init_129 : decode cX11_init 129 = .ok (.aload_n 0, 1) := by decide +kernel
theorem dX11_init_130 : decode cX11_init 130 = .ok (.new 85, 3) := by decide +kernel
theorem dX11_init_133 : decode cX11_init 133 = .ok (.dup, 1) := by decide +kernel
theorem dX11_init_134 : decode cX11_init 134 = .ok (.aload_n 0, 1) := by decide +kernel
theorem dX11_init_135 : decode cX11_init 135 = .ok (.getfield 47, 3) := by decide +kernel
theorem dX11_init_138 : decode cX11_init 138 = .ok (.aload_n 0, 1) := by decide +kernel
theorem dX11_init_139 : decode cX11_init 139 = .ok (.getfield 40, 3) := by decide +kernel
theorem dX11_init_142 : decode cX11_init 142 = .ok (.invokespecial 87, 3) := by decide +kernel
theorem dX11_init_145 : decode cX11_init 145 = .ok (.putfield 90, 3) := by decide +kernel
theorem dX11_init_148 : decode cX11_init 148 = .ok (.aload_n 0, 1) := by decide +kernel
theorem dX11_init_149 : decode cX11_init 149 = .ok (.iconst 0, 1) := by decide +kernel
theorem dX11_init_150 : decode cX11_init 150 = .ok (.putfield 94, 3) := by decide +kernel
theorem dX11_init_153 : decode cX11_init 153 = .ok (.aload_n 0, 1) := by decide +kernel
theorem dX11_init_154 : decode cX11_init 154 = .ok (.iconst (-1), 1) := by decide +kernel
theorem dX11_init_155 : decode cX11_init 155 = .ok (.putfield 98, 3) := by decide +kernel
theorem dX11_init_158 : decode cX11_init 158 = .ok (.aload_n 0, 1) := by decide +kernel
theorem dX11_init_159 : decode cX11_init 159 = .ok (.iconst 0, 1) := by decide +kernel
theorem dX11_init_160 : decode cX11_init 160 = .ok (.putfield 101, 3) := by decide +kernel
theorem dX11_init_163 : decode cX11_init 163 = .ok (.return_, 1) := by decide +kernel
theorem dX12_init_0 : decode cX12_init 0 = .ok (.aload_n 0, 1) := by decide +kernel
theorem dX12_init_1 : decode cX12_init 1 = .ok (.invokespecial 3, 3) := by decide +kernel
theorem dX12_init_4 : decode cX12_init 4 = .ok (.aload_n 0, 1) := by decide +kernel
theorem dX12_init_5 : decode cX12_init 5 = .ok (.sipush 160, 3) := by decide +kernel
theorem dX12_init_8 : decode cX12_init 8 = .ok (.newarray .int, 2) := by decide +kernel
theorem dX12_init_10 : decode cX12_init 10 = .ok (.putfield 9, 3) := by decide +kernel
theorem dX12_init_13 : decode cX12_init 13 = .ok (.aload_n 0, 1) := by decide +kernel
theorem dX12_init_14 : decode cX12_init 14 = .ok (.sipush 1700, 3) := by decide +kernel
theorem dX12_init_17 : decode cX12_init 17 = .ok (.newarray .int, 2) := by decide +kernel
theorem dX12_init_19 : decode cX12_init 19 = .ok (.putfield 13, 3) := by decide +kernel
theorem dX12_init_22 : decode cX12_init 22 = .ok (.aload_n 0, 1) := by decide +kernel
theorem dX12_init_23 : decode cX12_init 23 = .ok (.sipush 1700, 3) := by decide +kernel
theorem dX12_init_26 : decode cX12_init 26 = .ok (.newarray .int, 2) := by decide +kernel
theorem dX12_init_28 : decode cX12_init 28 = .ok (.putfield 16, 3) := by decide +kernel
theorem dX12_init_31 : decode cX12_init 31 = .ok (.aload_n 0, 1) := by decide +kernel
theorem dX12_init_32 : decode cX12_init 32 = .ok (.iconst 5, 1) := by decide +kernel
theorem dX12_init_33 : decode cX12_init 33 = .ok (.newarray .int, 2) := by decide +kernel
theorem dX12_init_35 : decode cX12_init 35 = .ok (.putfield 19, 3) := by decide +kernel
theorem dX12_init_38 : decode cX12_init 38 = .ok (.aload_n 0, 1) := by decide +kernel
theorem dX12_init_39 : decode cX12_init 39 = .ok (.iconst 5, 1) := by decide +kernel
theorem dX12_init_40 : decode cX12_init 40 = .ok (.newarray .int, 2) := by decide +kernel
theorem dX12_init_42 : decode cX12_init 42 = .ok (.putfield 22, 3) := by decide +kernel
theorem dX12_init_45 : decode cX12_init 45 = .ok (.aload_n 0, 1) := by decide +kernel
theorem dX12_init_46 : decode cX12_init 46 = .ok (.sipush 450, 3) := by decide +kernel
theorem dX12_init_49 : decode cX12_init 49 = .ok (.newarray .int, 2) := by decide +kernel
theorem dX12_init_51 : decode cX12_init 51 = .ok (.putfield 25, 3) := by decide +kernel
theorem dX12_init_54 : decode cX12_init 54 = .ok (.aload_n 0, 1) := by decide +kernel
theorem dX12_init_55 : decode cX12_init 55 = .ok (.sipush 450, 3) := by decide +kernel
theorem dX12_init_58 : decode cX12_init 58 = .ok (.newarray .int, 2) := by decide +kernel
theorem dX12_init_60 : decode cX12_init 60 = .ok (.putfield 28, 3) := by decide +kernel
theorem dX12_init_63 : decode cX12_init 63 = .ok (.aload_n 0, 1) := by decide +kernel
theorem dX12_init_64 : decode cX12_init 64 = .ok (.sipush 450, 3) := by decide +kernel
theorem dX12_init_67 : decode cX12_init 67 = .ok (.newarray .int, 2) := by decide +kernel
theorem dX12_init_69 : decode cX12_init 69 = .ok (.putfield 31, 3) := by decide +kernel
theorem dX12_init_72 : decode cX12_init 72 = .ok (.aload_n 0, 1) := by decide +kernel
theorem dX12_init_73 : decode cX12_init 73 = .ok (.bipush 6, 2) := by decide +kernel
theorem dX12_init_75 : decode cX12_init 75 = .ok (.newarray .int, 2) := by decide +kernel
theorem dX12_init_77 : decode cX12_init 77 = .ok (.putfield 34, 3) := by decide +kernel
theorem dX12_init_80 : decode cX12_init 80 = .ok (.aload_n 0, 1) := by decide +kernel
theorem dX12_init_81 : decode cX12_init 81 = .ok (.bipush 80, 2) := by decide +kernel
theorem dX12_init_83 : decode cX12_init 83 = .ok (.newarray .int, 2) := by decide +kernel
theorem dX12_init_85 : decode cX12_init 85 = .ok (.putfield 37, 3) := by decide +kernel
theorem dX12_init_88 : decode cX12_init 88 = .ok (.aload_n 0, 1) := by decide +kernel
theorem dX12_init_89 : decode cX12_init 89 = .ok (.bipush 32, 2) := by decide +kernel
theorem dX12_init_91 : decode cX12_init 91 = .ok (.newarray .int, 2) := by decide +kernel
theorem dX12_init_93 : decode cX12_init 93 = .ok (.putfield 40, 3) := by decide +kernel
theorem dX12_init_96 : decode cX12_init 96 = .ok (.aload_n 0, 1) := by decide +kernel
theorem dX12_init_97 : decode cX12_init 97 = .ok (.bipush 40, 2) := by decide +kernel
theorem dX12_init_99 : decode cX12_init 99 = .ok (.newarray .int, 2) := by decide +kernel
theorem dX12_init_101 : decode cX12_init 101 = .ok (.putfield 43, 3) := by decide +kernel
theorem dX12_init_104 : decode cX12_init 104 = .ok (.aload_n 0, 1) := by decide +kernel
theorem dX12_init_105 : decode cX12_init 105 = .ok (.bipush 32, 2) := by decide +kernel
theorem dX12_init_107 : decode cX12_init 107 = .ok (.newarray .int, 2) := by decide +kernel
theorem dX12_init_109 : decode cX12_init 109 = .ok (.putfield 46, 3) := by decide +kernel
theorem dX12_init_112 : decode cX12_init 112 = .ok (.aload_n 0, 1) := by decide +kernel
theorem dX12_init_113 : decode cX12_init 113 = .ok (.bipush 10, 2) := by decide +kernel
theorem dX12_init_115 : decode cX12_init 115 = .ok (.newarray .int, 2) := by decide +kernel
theorem dX12_init_117 : decode cX12_init 117 = .ok (.putfield 49, 3) := by decide +kernel
theorem dX12_init_120 : decode cX12_init 120 = .ok (.aload_n 0, 1) := by decide +kernel
theorem dX12_init_121 : decode cX12_init 121 = .ok (.bipush 10, 2) := by decide +kernel
theorem dX12_init_123 : decode cX12_init 123 = .ok (.newarray .int, 2) := by decide +kernel
theorem dX12_init_125 : decode cX12_init 125 = .ok (.putfield 52, 3) := by decide +kernel
theorem dX12_init_128 : decode cX12_init 128 = .ok (.aload_n 0, 1) := by decide +kernel
theorem dX12_init_129 : decode cX12_init 129 = .ok (.bipush 90, 2) := by decide +kernel
theorem dX12_init_131 : decode cX12_init 131 = .ok (.newarray .int, 2) := by decide +kernel
theorem dX12_init_133 : decode cX12_init 133 = .ok (.putfield 55, 3) := by decide +kernel
theorem dX12_init_136 : decode cX12_init 136 = .ok (.aload_n 0, 1) := by decide +kernel
theorem dX12_init_137 : decode cX12_init 137 = .ok (.bipush 90, 2) := by decide +kernel
theorem dX12_init_139 : decode cX12_init 139 = .ok (.newarray .int, 2) := by decide +kernel
theorem dX12_init_141 : decode cX12_init 141 = .ok (.putfield 58, 3) := by decide +kernel
theorem dX12_init_144 : decode cX12_init 144 = .ok (.aload_n 0, 1) := by decide +kernel
theorem dX12_init_145 : decode cX12_init 145 = .ok (.bipush 90, 2) := by decide +kernel
theorem dX12_init_147 : decode cX12_init 147 = .ok (.newarray .int, 2) := by decide +kernel
theorem dX12_init_149 : decode cX12_init 149 = .ok (.putfield 61, 3) := by decide +kernel
theorem dX12_init_152 : decode cX12_init 152 = .ok (.aload_n 0, 1) := by decide +kernel
theorem dX12_init_153 : decode cX12_init 153 = .ok (.iconst (-1), 1) := by decide +kernel
theorem dX12_init_154 : decode cX12_init 154 = .ok (.putfield 64, 3) := by decide +kernel
theorem dX12_init_157 : decode cX12_init 157 = .ok (.aload_n 0, 1) := by decide +kernel
theorem dX12_init_158 : decode cX12_init 158 = .ok (.bipush 50, 2) := by decide +kernel
theorem dX12_init_160 : decode cX12_init 160 = .ok (.putfield 68, 3) := by decide +kernel
theorem dX12_init_163 : decode cX12_init 163 = .ok (.aload_n 0, 1) := by decide +kernel
theorem dX12_init_164 : decode cX12_init 164 = .ok (.bipush 10, 2) := by decide +kernel
theorem dX12_init_166 : decode cX12_init 166 = .ok (.putfield 71, 3) := by decide +kernel
theorem dX12_init_169 : decode cX12_init 169 = .ok (.aload_n 0, 1) := by decide +kernel
theorem dX12_init_170 : decode cX12_init 170 = .ok (.bipush 8, 2) := by decide +kernel
theorem dX12_init_172 : decode cX12_init 172 = .ok (.newarray .int, 2) := by decide +kernel
theorem dX12_init_174 : decode cX12_init 174 = .ok (.putfield 74, 3) := by decide +kernel
theorem dX12_init_177 : decode cX12_init 177 = .ok (.aload_n 0, 1) := by decide +kernel
theorem dX12_init_178 : decode cX12_init 178 = .ok (.bipush 10, 2) := by decide +kernel
theorem dX12_init_180 : decode cX12_init 180 = .ok (.newarray .int, 2) := by decide +kernel
theorem dX12_init_182 : decode cX12_init 182 = .ok (.putfield 77, 3) := by decide +kernel
theorem dX12_init_185 : decode cX12_init 185 = .ok (.aload_n 0, 1) := by decide +kernel
theorem dX12_init_186 : decode cX12_init 186 = .ok (.bipush 10, 2) := by decide +kernel
theorem dX12_init_188 : decode cX12_init 188 = .ok (.newarray .int, 2) := by decide +kernel
theorem dX12_init_190 : decode cX12_init 190 = .ok (.putfield 80, 3) := by decide +kernel
theorem dX12_init_193 : decode cX12_init 193 = .ok (.aload_n 0, 1) := by decide +kernel
theorem dX12_init_194 : decode cX12_init 194 = .ok (.sipush 600, 3) := by decide +kernel
theorem dX12_init_197 : decode cX12_init 197 = .ok (.newarray .int, 2) := by decide +kernel
theorem dX12_init_199 : decode cX12_init 199 = .ok (.putfield 83, 3) := by decide +kernel
theorem dX12_init_202 : decode cX12_init 202 = .ok (.aload_n 0, 1) := by decide +kernel
theorem dX12_init_203 : decode cX12_init 203 = .ok (.sipush 600, 3) := by decide +kernel
theorem dX12_init_206 : decode cX12_init 206 = .ok (.newarray .int, 2) := by decide +kernel
theorem dX12_init_208 : decode cX12_init 208 = .ok (.putfield 86, 3) := by decide +kernel
theorem dX12_init_211 : decode cX12_init 211 = .ok (.aload_n 0, 1) := by decide +kernel
theorem dX12_init_212 : decode cX12_init 212 = .ok (.bipush 40, 2) := by decide +kernel
theorem dX12_init_214 : decode cX12_init 214 = .ok (.newarray .int, 2) := by decide +kernel
theorem dX12_init_216 : decode cX12_init 216 = .ok (.putfield 89, 3) := by decide +kernel
theorem dX12_init_219 : decode cX12_init 219 = .ok (.aload_n 0, 1) := by decide +kernel
theorem dX12_init_220 : decode cX12_init 220 = .ok (.bipush 40, 2) := by decide +kernel
theorem dX12_init_222 : decode cX12_init 222 = .ok (.newarray .int, 2) := by decide +kernel
theorem dX12_init_224 : decode cX12_init 224 = .ok (.putfield 92, 3) := by decide +kernel
theorem dX12_init_227 : decode cX12_init 227 = .ok (.aload_n 0, 1) := by decide +kernel
theorem dX12_init_228 : decode cX12_init 228 = .ok (.bipush 40, 2) := by decide +kernel
theorem dX12_init_230 : decode cX12_init 230 = .ok (.newarray .int, 2) := by decide +kernel
theorem dX12_init_232 : decode cX12_init 232 = .ok (.putfield 95, 3) := by decide +kernel
theorem dX12_init_235 : decode cX12_init 235 = .ok (.aload_n 0, 1) := by decide +kernel
theorem dX12_init_236 : decode cX12_init 236 = .ok (.bipush 8, 2) := by decide +kernel
theorem dX12_init_238 : decode cX12_init 238 = .ok (.newarray .int, 2) := by decide +kernel
theorem dX12_init_240 : decode cX12_init 240 = .ok (.putfield 98, 3) := by decide +kernel
theorem dX12_init_243 : decode cX12_init 243 = .ok (.aload_n 0, 1) := by decide +kernel
theorem dX12_init_244 : decode cX12_init 244 = .ok (.sipush 168, 3) := by decide +kernel
theorem dX12_init_247 : decode cX12_init 247 = .ok (.newarray .long, 2) := by decide +kernel
theorem dX12_init_249 : decode cX12_init 249 = .ok (.putfield 101, 3) := by decide +kernel
theorem dX12_init_252 : decode cX12_init 252 = .ok (.aload_n 0, 1) := by decide +kernel
theorem dX12_init_253 : decode cX12_init 253 = .ok (.sipush 168, 3) := by decide +kernel
theorem dX12_init_256 : decode cX12_init 256 = .ok (.newarray .long, 2) := by decide +kernel
theorem dX12_init_258 : decode cX12_init 258 = .ok (.putfield 105, 3) := by decide +kernel
theorem dX12_init_261 : decode cX12_init 261 = .ok (.aload_n 0, 1) := by decide +kernel
theorem dX12_init_262 : decode cX12_init 262 = .ok (.bipush 22, 2) := by decide +kernel
theorem dX12_init_264 : decode cX12_init 264 = .ok (.newarray .long, 2) := by decide +kernel
theorem dX12_init_266 : decode cX12_init 266 = .ok (.putfield 108, 3) := by decide +kernel
theorem dX12_init_269 : decode cX12_init 269 = .ok (.aload_n 0, 1) := by decide +kernel
theorem dX12_init_270 : decode cX12_init 270 = .ok (.sipush 600, 3) := by decide +kernel
theorem dX12_init_273 : decode cX12_init 273 = .ok (.newarray .int, 2) := by decide +kernel
theorem dX12_init_275 : decode cX12_init 275 = .ok (.putfield 111, 3) := by decide +kernel
theorem dX12_init_278 : decode cX12_init 278 = .ok (.aload_n 0, 1) := by decide +kernel
theorem dX12_init_279 : decode cX12_init 279 = .ok (.sipush 600, 3) := by decide +kernel
theorem dX12_init_282 : decode cX12_init 282 = .ok (.newarray .int, 2) := by decide +kernel
theorem dX12_init_284 : decode cX12_init 284 = .ok (.putfield 114, 3) := by decide +kernel
theorem dX12_init_287 : decode cX12_init 287 = .ok (.return_, 1) := by decide +kernel
def w_X11_init : List Cond := .code yX11_init cX11_init 1 none :: ([Cond.methodLink RX11 1 objectInit, Cond.instanceMethod objectInit, Cond.code objectInit ⟨#[0xb1]⟩ 1 none, Cond.classLink RX11 7 RX8, Cond.instantiable RX8 4, Cond.initialized RX8, Cond.instanceMethod yX8_init, Cond.fieldLink RX11 10 "HeadYear" "tape" "LHeadYear$Tape;", Cond.classLink RX11 16 RX10, Cond.instantiable RX10 2, Cond.initialized RX10, Cond.instanceMethod yX10_init, Cond.fieldLink RX11 19 "HeadYear" "valleyReader" "LHeadYear$ValleyReader;", Cond.classLink RX11 23 RX4, Cond.instantiable RX4 1, Cond.initialized RX4, Cond.instanceMethod yX4_init, Cond.fieldLink RX11 26 "HeadYear" "lawReader" "LHeadYear$LawReader;", Cond.classLink RX11 30 RX3, Cond.fieldLink RX11 32 "HeadYear" "laws" "[LHeadYear$Law;", Cond.methodLink RX11 36 yX3_bornLessDead, Cond.static yX3_bornLessDead, Cond.initialized RX3, Cond.fieldLink RX11 40 "HeadYear" "noLaw" "LHeadYear$Law;", Cond.classLink RX11 44 RX2, Cond.instantiable RX2 12, Cond.initialized RX2, Cond.instanceMethod yX2_init, Cond.fieldLink RX11 47 "HeadYear" "folk" "LHeadYear$Folk;", Cond.fieldLink RX11 51 "HeadYear" "trial" "LHeadYear$Folk;", Cond.fieldLink RX11 54 "HeadYear" "imageFolk" "LHeadYear$Folk;", Cond.classLink RX11 57 RX1, Cond.instantiable RX1 3, Cond.initialized RX1, Cond.instanceMethod yX1_init, Cond.fieldLink RX11 60 "HeadYear" "diary" "LHeadYear$Diary;", Cond.classLink RX11 64 RX0, Cond.instantiable RX0 5, Cond.initialized RX0, Cond.instanceMethod yX0_init, Cond.fieldLink RX11 67 "HeadYear" "buyings" "LHeadYear$Buyings;", Cond.classLink RX11 71 RX7, Cond.instantiable RX7 5, Cond.initialized RX7, Cond.instanceMethod yX7_init, Cond.fieldLink RX11 74 "HeadYear" "seasons" "LHeadYear$Seasons;", Cond.classLink RX11 78 RX5, Cond.instantiable RX5 1, Cond.initialized RX5, Cond.instanceMethod yX5_init, Cond.fieldLink RX11 81 "HeadYear" "moves" "LHeadYear$Moves;", Cond.classLink RX11 85 RX6, Cond.instantiable RX6 7, Cond.initialized RX6, Cond.methodLink RX11 87 yX6_init, Cond.instanceMethod yX6_init, Cond.fieldLink RX11 90 "HeadYear" "chances" "LHeadYear$Odds;", Cond.fieldLink RX11 94 "HeadYear" "lawCount" "I", Cond.fieldLink RX11 98 "HeadYear" "heldLaw" "I", Cond.fieldLink RX11 101 "HeadYear" "imaged" "Z"] ++ (u_ws RX8 TX8 4 ++ (u_ws RX11 TX11 16 ++ (u_ws RX10 TX10 2 ++ (u_ws RX4 TX4 1 ++ (u_ws RX2 TX2 12 ++ (u_ws RX1 TX1 3 ++ (u_ws RX0 TX0 5 ++ (u_ws RX7 TX7 5 ++ (u_ws RX5 TX5 1 ++ (u_ws RX6 TX6 7 ++ (w_X8_init ++ (w_X10_init ++ (w_X4_init ++ (w_X3_bornLessDead ++ (w_X2_init ++ (w_X1_init ++ (w_X0_init ++ (w_X7_init ++ (w_X5_init ++ (w_X6_init ++ ([]))))))))))))))))))))))
theorem in_X11_init_X8 : ∀ w ∈ u_ws RX8 TX8 4, w ∈ w_X11_init := fun _ h => List.mem_cons_of_mem _ (List.mem_append_right _ (List.mem_append_left _ h))
theorem in_X11_init_X11 : ∀ w ∈ u_ws RX11 TX11 16, w ∈ w_X11_init := fun _ h => List.mem_cons_of_mem _ (List.mem_append_right _ (List.mem_append_right _ (List.mem_append_left _ h)))
theorem in_X11_init_X10 : ∀ w ∈ u_ws RX10 TX10 2, w ∈ w_X11_init := fun _ h => List.mem_cons_of_mem _ (List.mem_append_right _ (List.mem_append_right _ (List.mem_append_right _ (List.mem_append_left _ h))))
theorem in_X11_init_X4 : ∀ w ∈ u_ws RX4 TX4 1, w ∈ w_X11_init := fun _ h => List.mem_cons_of_mem _ (List.mem_append_right _ (List.mem_append_right _ (List.mem_append_right _ (List.mem_append_right _ (List.mem_append_left _ h)))))
theorem in_X11_init_X2 : ∀ w ∈ u_ws RX2 TX2 12, w ∈ w_X11_init := fun _ h => List.mem_cons_of_mem _ (List.mem_append_right _ (List.mem_append_right _ (List.mem_append_right _ (List.mem_append_right _ (List.mem_append_right _ (List.mem_append_left _ h))))))
theorem in_X11_init_X1 : ∀ w ∈ u_ws RX1 TX1 3, w ∈ w_X11_init := fun _ h => List.mem_cons_of_mem _ (List.mem_append_right _ (List.mem_append_right _ (List.mem_append_right _ (List.mem_append_right _ (List.mem_append_right _ (List.mem_append_right _ (List.mem_append_left _ h)))))))
theorem in_X11_init_X0 : ∀ w ∈ u_ws RX0 TX0 5, w ∈ w_X11_init := fun _ h => List.mem_cons_of_mem _ (List.mem_append_right _ (List.mem_append_right _ (List.mem_append_right _ (List.mem_append_right _ (List.mem_append_right _ (List.mem_append_right _ (List.mem_append_right _ (List.mem_append_left _ h))))))))
theorem in_X11_init_X7 : ∀ w ∈ u_ws RX7 TX7 5, w ∈ w_X11_init := fun _ h => List.mem_cons_of_mem _ (List.mem_append_right _ (List.mem_append_right _ (List.mem_append_right _ (List.mem_append_right _ (List.mem_append_right _ (List.mem_append_right _ (List.mem_append_right _ (List.mem_append_right _ (List.mem_append_left _ h)))))))))
theorem in_X11_init_X5 : ∀ w ∈ u_ws RX5 TX5 1, w ∈ w_X11_init := fun _ h => List.mem_cons_of_mem _ (List.mem_append_right _ (List.mem_append_right _ (List.mem_append_right _ (List.mem_append_right _ (List.mem_append_right _ (List.mem_append_right _ (List.mem_append_right _ (List.mem_append_right _ (List.mem_append_right _ (List.mem_append_left _ h))))))))))
theorem in_X11_init_X6 : ∀ w ∈ u_ws RX6 TX6 7, w ∈ w_X11_init := fun _ h => List.mem_cons_of_mem _ (List.mem_append_right _ (List.mem_append_right _ (List.mem_append_right _ (List.mem_append_right _ (List.mem_append_right _ (List.mem_append_right _ (List.mem_append_right _ (List.mem_append_right _ (List.mem_append_right _ (List.mem_append_right _ (List.mem_append_left _ h)))))))))))
theorem gg_X11_init_X8_init : GoodIn w_X11_init w_X8_init := goodIn_sub (fun _ h => List.mem_cons_of_mem _ (List.mem_append_right _ (List.mem_append_right _ (List.mem_append_right _ (List.mem_append_right _ (List.mem_append_right _ (List.mem_append_right _ (List.mem_append_right _ (List.mem_append_right _ (List.mem_append_right _ (List.mem_append_right _ (List.mem_append_right _ (List.mem_append_left _ h))))))))))))) (by decide +kernel)
theorem gg_X11_init_X10_init : GoodIn w_X11_init w_X10_init := goodIn_sub (fun _ h => List.mem_cons_of_mem _ (List.mem_append_right _ (List.mem_append_right _ (List.mem_append_right _ (List.mem_append_right _ (List.mem_append_right _ (List.mem_append_right _ (List.mem_append_right _ (List.mem_append_right _ (List.mem_append_right _ (List.mem_append_right _ (List.mem_append_right _ (List.mem_append_right _ (List.mem_append_left _ h)))))))))))))) (by decide +kernel)
theorem gg_X11_init_X4_init : GoodIn w_X11_init w_X4_init := goodIn_sub (fun _ h => List.mem_cons_of_mem _ (List.mem_append_right _ (List.mem_append_right _ (List.mem_append_right _ (List.mem_append_right _ (List.mem_append_right _ (List.mem_append_right _ (List.mem_append_right _ (List.mem_append_right _ (List.mem_append_right _ (List.mem_append_right _ (List.mem_append_right _ (List.mem_append_right _ (List.mem_append_right _ (List.mem_append_left _ h))))))))))))))) (by decide +kernel)
theorem gg_X11_init_X3_bornLessDead : GoodIn w_X11_init w_X3_bornLessDead := goodIn_sub (fun _ h => List.mem_cons_of_mem _ (List.mem_append_right _ (List.mem_append_right _ (List.mem_append_right _ (List.mem_append_right _ (List.mem_append_right _ (List.mem_append_right _ (List.mem_append_right _ (List.mem_append_right _ (List.mem_append_right _ (List.mem_append_right _ (List.mem_append_right _ (List.mem_append_right _ (List.mem_append_right _ (List.mem_append_right _ (List.mem_append_left _ h)))))))))))))))) (by decide +kernel)
theorem gg_X11_init_X2_init : GoodIn w_X11_init w_X2_init := goodIn_sub (fun _ h => List.mem_cons_of_mem _ (List.mem_append_right _ (List.mem_append_right _ (List.mem_append_right _ (List.mem_append_right _ (List.mem_append_right _ (List.mem_append_right _ (List.mem_append_right _ (List.mem_append_right _ (List.mem_append_right _ (List.mem_append_right _ (List.mem_append_right _ (List.mem_append_right _ (List.mem_append_right _ (List.mem_append_right _ (List.mem_append_right _ (List.mem_append_left _ h))))))))))))))))) (by decide +kernel)
theorem gg_X11_init_X1_init : GoodIn w_X11_init w_X1_init := goodIn_sub (fun _ h => List.mem_cons_of_mem _ (List.mem_append_right _ (List.mem_append_right _ (List.mem_append_right _ (List.mem_append_right _ (List.mem_append_right _ (List.mem_append_right _ (List.mem_append_right _ (List.mem_append_right _ (List.mem_append_right _ (List.mem_append_right _ (List.mem_append_right _ (List.mem_append_right _ (List.mem_append_right _ (List.mem_append_right _ (List.mem_append_right _ (List.mem_append_right _ (List.mem_append_left _ h)))))))))))))))))) (by decide +kernel)
theorem gg_X11_init_X0_init : GoodIn w_X11_init w_X0_init := goodIn_sub (fun _ h => List.mem_cons_of_mem _ (List.mem_append_right _ (List.mem_append_right _ (List.mem_append_right _ (List.mem_append_right _ (List.mem_append_right _ (List.mem_append_right _ (List.mem_append_right _ (List.mem_append_right _ (List.mem_append_right _ (List.mem_append_right _ (List.mem_append_right _ (List.mem_append_right _ (List.mem_append_right _ (List.mem_append_right _ (List.mem_append_right _ (List.mem_append_right _ (List.mem_append_right _ (List.mem_append_left _ h))))))))))))))))))) (by decide +kernel)
theorem gg_X11_init_X7_init : GoodIn w_X11_init w_X7_init := goodIn_sub (fun _ h => List.mem_cons_of_mem _ (List.mem_append_right _ (List.mem_append_right _ (List.mem_append_right _ (List.mem_append_right _ (List.mem_append_right _ (List.mem_append_right _ (List.mem_append_right _ (List.mem_append_right _ (List.mem_append_right _ (List.mem_append_right _ (List.mem_append_right _ (List.mem_append_right _ (List.mem_append_right _ (List.mem_append_right _ (List.mem_append_right _ (List.mem_append_right _ (List.mem_append_right _ (List.mem_append_right _ (List.mem_append_left _ h)))))))))))))))))))) (by decide +kernel)
theorem gg_X11_init_X5_init : GoodIn w_X11_init w_X5_init := goodIn_sub (fun _ h => List.mem_cons_of_mem _ (List.mem_append_right _ (List.mem_append_right _ (List.mem_append_right _ (List.mem_append_right _ (List.mem_append_right _ (List.mem_append_right _ (List.mem_append_right _ (List.mem_append_right _ (List.mem_append_right _ (List.mem_append_right _ (List.mem_append_right _ (List.mem_append_right _ (List.mem_append_right _ (List.mem_append_right _ (List.mem_append_right _ (List.mem_append_right _ (List.mem_append_right _ (List.mem_append_right _ (List.mem_append_right _ (List.mem_append_left _ h))))))))))))))))))))) (by decide +kernel)
theorem gg_X11_init_X6_init : GoodIn w_X11_init w_X6_init := goodIn_sub (fun _ h => List.mem_cons_of_mem _ (List.mem_append_right _ (List.mem_append_right _ (List.mem_append_right _ (List.mem_append_right _ (List.mem_append_right _ (List.mem_append_right _ (List.mem_append_right _ (List.mem_append_right _ (List.mem_append_right _ (List.mem_append_right _ (List.mem_append_right _ (List.mem_append_right _ (List.mem_append_right _ (List.mem_append_right _ (List.mem_append_right _ (List.mem_append_right _ (List.mem_append_right _ (List.mem_append_right _ (List.mem_append_right _ (List.mem_append_right _ (List.mem_append_left _ h)))))))))))))))))))))) (by decide +kernel)
theorem g_X11_init_X0_init_66 : GoodIn w_X11_init w_X0_init := gg_X11_init_X0_init
theorem g_X11_init_X10_init_18 : GoodIn w_X11_init w_X10_init := gg_X11_init_X10_init
theorem g_X11_init_X1_init_59 : GoodIn w_X11_init w_X1_init := gg_X11_init_X1_init
theorem g_X11_init_X2_init_46 : GoodIn w_X11_init w_X2_init := gg_X11_init_X2_init
theorem g_X11_init_X3_bornLessDead_36 : GoodIn w_X11_init (va_wsS RX11 36 yX3_bornLessDead w_X3_bornLessDead) := goodIn_app (goodIn_of _ (by decide +kernel)) gg_X11_init_X3_bornLessDead
theorem g_X11_init_X4_init_25 : GoodIn w_X11_init w_X4_init := gg_X11_init_X4_init
theorem g_X11_init_X5_init_80 : GoodIn w_X11_init w_X5_init := gg_X11_init_X5_init
theorem g_X11_init_X6_init_87 : GoodIn w_X11_init w_X6_init := gg_X11_init_X6_init
theorem g_X11_init_X7_init_73 : GoodIn w_X11_init w_X7_init := gg_X11_init_X7_init
theorem g_X11_init_X8_init_9 : GoodIn w_X11_init w_X8_init := gg_X11_init_X8_init
set_option maxHeartbeats 4000000 in
set_option maxRecDepth 100000 in
theorem c_X11_init (l : Launch) (E : py_E) (L : List Nat) (f : py_F) (sz : Nat) (h : Nat) (hh : py_at L f h (.inr (11, [.null, .null, .null, .null, .null, .null, .null, .null, .null, .null, .null, .null, .null, .int 0, .int 0, .int 0]))) : Met l yX11_init w_X11_init ({ frames := 3, cells := 96, slots := 2936, locals := 52 }) (py_Pc E [.ref h] L f sz) (py_Qv E L f sz (fun L1 f1 => fr_H E L1 f1 h ∧ py_ext L f L1 f1 h)) 96 2936 (va_A (va_pl L f) sz) := by
  refine Met.ofW (cc := cX11_init) (maxL := 1) (ret := none) (by decide) rfl ?_
  intro p e s m args below meth c s₁ B hml hv
  obtain ⟨rfl, rfl, hw⟩ := py_start hv
  have G : CallFix p m c cX11_init 1 s _ w_X11_init RX11 := ⟨B.exec, B.bytes, hml, findClass_of_methodNamed B.named, atoms_spec (ws := w_X11_init) B.pre⟩
  have hr := B.returns
  have hlk := B.notSynchronized
  have hin : meth.name = "<init>" := (name_of_methodNamed B.named B.method).1
  have hl := lv_entry ([.ref h]) (n := 1) (Nat.le_of_ble_eq_true rfl)
  rw [lg_entry_eq]
  generalize (lg_sl ([.ref h]) ++ List.replicate (1 - (lg_sl ([.ref h])).length) Slot.unset).toArray = ls at hl ⊢
  have hl : lv_has ls 1 [(0, .ref h)] := hl
  refine lv_aload_n G.1 G.2.1 dX11_init_0 rfl (lv_at hl 0 rfl) ?_
  refine py_objInit G hl.1 (by decide +kernel) (by decide +kernel) (by decide +kernel) dX11_init_1 (Nat.le_of_ble_eq_true rfl) (Nat.le_of_ble_eq_true rfl) ?_
  refine lv_aload_n G.1 G.2.1 dX11_init_4 rfl (lv_at hl 0 rfl) ?_
  refine py_new (C := RX8) (T := TX8) (N := 4) (ci := 8) (fs := [.null, .int 0, .int 0, .int 0]) (ty0 := tyX8) G hw tyX8_ok in_X11_init_X8 rfl (by decide +kernel) (by decide +kernel) (by decide +kernel) (fun j hj => match j, hj with | 0, _ => rfl | 1, _ => rfl | 2, _ => rfl | 3, _ => rfl | n + 4, h => absurd h (by omega)) (Nat.le_of_ble_eq_true rfl) (Nat.le_of_ble_eq_true rfl) dX11_init_5 (fun q_1 L_2 f_3 H_4 hq_5 h_6 x_7 hw => ?_)
  have ne_8 : h ≠ q_1 := py_ne_new hh hq_5
  have hh := hh.all x_7
  refine lv_dup G.1 G.2.1 dX11_init_8 rfl ?_
  refine py_callv hw (va_runIN (As := []) (rest := [.ref q_1, .ref h]) G (c_X8_init l E L_2 f_3 H_4.size q_1 h_6) ⟨va_cnB 0 G.2.2.2.2 g_X11_init_X8_init_9 rfl rfl rfl (hw.1.2.2 (RX11, 9, yX8_init) (List.mem_of_getElem? (i := 0) rfl)) (G.2.2.2.2 (Cond.initialized RX8) (by decide +kernel)) (by decide +kernel) ⟨(Nat.le_of_ble_eq_true rfl), (Nat.le_of_ble_eq_true rfl)⟩, rfl, G.2.2.2.2 (Cond.instanceMethod yX8_init) (by decide +kernel)⟩ (py_preS hw) rfl rfl hl.1 rfl (lv_room (Nat.le_of_ble_eq_true rfl)) dX11_init_9 ⟨(Nat.le_of_ble_eq_true rfl), (Nat.le_of_ble_eq_true rfl)⟩) (fun L_9 f_10 H_11 locs hp_12 hw => ?_)
  obtain ⟨byt_15, h_16, h_17, x_14⟩ := hp_12
  have hh := hh.ext x_14 ne_8
  refine py_putF (C := RX11) (T := TX11) (N := 16) (k := 0) (v := .ref q_1) (fs' := [.ref q_1, .null, .null, .null, .null, .null, .null, .null, .null, .null, .null, .null, .null, .int 0, .int 0, .int 0]) (ty0 := tyX11) G hin hw tyX11_ok nmX11 in_X11_init_X11 rfl hh (by decide) (by decide +kernel) rfl rfl rfl rfl rfl (Nat.le_of_ble_eq_true rfl) rfl dX11_init_12 (fun f_18 H_19 locs h_20 x_21 hw => ?_)
  have h_16 := h_16.ext x_21 (Ne.symm ne_8)
  have h_17 := h_17.ext x_21 (Ne.symm (py_ne_arr hh h_17))
  refine lv_aload_n G.1 G.2.1 dX11_init_15 rfl (lv_at hl 0 rfl) ?_
  refine py_new (C := RX10) (T := TX10) (N := 2) (ci := 10) (fs := [.null, .null]) (ty0 := tyX10) G hw tyX10_ok in_X11_init_X10 rfl (by decide +kernel) (by decide +kernel) (by decide +kernel) (fun j hj => match j, hj with | 0, _ => rfl | 1, _ => rfl | n + 2, h => absurd h (by omega)) (Nat.le_of_ble_eq_true rfl) (Nat.le_of_ble_eq_true rfl) dX11_init_16 (fun q_22 L_23 f_24 H_25 hq_26 h_27 x_28 hw => ?_)
  have ne_29 : h ≠ q_22 := py_ne_new h_20 hq_26
  have h_20 := h_20.all x_28
  have ne_30 : q_1 ≠ q_22 := py_ne_new h_16 hq_26
  have h_16 := h_16.all x_28
  have ne_31 : byt_15 ≠ q_22 := py_ne_new h_17 hq_26
  have h_17 := h_17.all x_28
  refine lv_dup G.1 G.2.1 dX11_init_19 rfl ?_
  refine py_callv hw (va_runIN (As := []) (rest := [.ref q_22, .ref h]) G (c_X10_init l E L_23 f_24 H_25.size q_22 h_27) ⟨va_cnB 0 G.2.2.2.2 g_X11_init_X10_init_18 rfl rfl rfl (hw.1.2.2 (RX11, 18, yX10_init) (List.mem_of_getElem? (i := 1) rfl)) (G.2.2.2.2 (Cond.initialized RX10) (by decide +kernel)) (by decide +kernel) ⟨(Nat.le_of_ble_eq_true rfl), (Nat.le_of_ble_eq_true rfl)⟩, rfl, G.2.2.2.2 (Cond.instanceMethod yX10_init) (by decide +kernel)⟩ (py_preS hw) rfl rfl hl.1 rfl (lv_room (Nat.le_of_ble_eq_true rfl)) dX11_init_20 ⟨(Nat.le_of_ble_eq_true rfl), (Nat.le_of_ble_eq_true rfl)⟩) (fun L_32 f_33 H_34 locs hp_35 hw => ?_)
  obtain ⟨itm_38, dr_39, xd_40, h_41, h_42, hl_43, x_37⟩ := hp_35
  have h_20 := h_20.ext x_37 ne_29
  have h_16 := h_16.ext x_37 ne_30
  have h_17 := h_17.ext x_37 ne_31
  refine py_putF (C := RX11) (T := TX11) (N := 16) (k := 1) (v := .ref q_22) (fs' := [.ref q_1, .ref q_22, .null, .null, .null, .null, .null, .null, .null, .null, .null, .null, .null, .int 0, .int 0, .int 0]) (ty0 := tyX11) G hin hw tyX11_ok nmX11 in_X11_init_X11 rfl h_20 (by decide) (by decide +kernel) rfl rfl rfl rfl rfl (Nat.le_of_ble_eq_true rfl) rfl dX11_init_23 (fun f_44 H_45 locs h_46 x_47 hw => ?_)
  have h_16 := h_16.ext x_47 (Ne.symm ne_8)
  have h_17 := h_17.ext x_47 (Ne.symm (py_ne_arr h_20 h_17))
  have h_41 := h_41.ext x_47 (Ne.symm ne_29)
  have h_42 := h_42.ext x_47 (py_ne_kind h_42 h_20 (by decide))
  refine lv_aload_n G.1 G.2.1 dX11_init_26 rfl (lv_at hl 0 rfl) ?_
  refine py_new (C := RX4) (T := TX4) (N := 1) (ci := 4) (fs := [.null]) (ty0 := tyX4) G hw tyX4_ok in_X11_init_X4 rfl (by decide +kernel) (by decide +kernel) (by decide +kernel) (fun j hj => match j, hj with | 0, _ => rfl | n + 1, h => absurd h (by omega)) (Nat.le_of_ble_eq_true rfl) (Nat.le_of_ble_eq_true rfl) dX11_init_27 (fun q_48 L_49 f_50 H_51 hq_52 h_53 x_54 hw => ?_)
  have ne_55 : h ≠ q_48 := py_ne_new h_46 hq_52
  have h_46 := h_46.all x_54
  have ne_56 : q_1 ≠ q_48 := py_ne_new h_16 hq_52
  have h_16 := h_16.all x_54
  have ne_57 : byt_15 ≠ q_48 := py_ne_new h_17 hq_52
  have h_17 := h_17.all x_54
  have ne_58 : q_22 ≠ q_48 := py_ne_new h_41 hq_52
  have h_41 := h_41.all x_54
  have ne_59 : dr_39 ≠ q_48 := py_ne_new h_42 hq_52
  have h_42 := h_42.all x_54
  refine lv_dup G.1 G.2.1 dX11_init_30 rfl ?_
  refine py_callv hw (va_runIN (As := []) (rest := [.ref q_48, .ref h]) G (c_X4_init l E L_49 f_50 H_51.size q_48 h_53) ⟨va_cnB 0 G.2.2.2.2 g_X11_init_X4_init_25 rfl rfl rfl (hw.1.2.2 (RX11, 25, yX4_init) (List.mem_of_getElem? (i := 3) rfl)) (G.2.2.2.2 (Cond.initialized RX4) (by decide +kernel)) (by decide +kernel) ⟨(Nat.le_of_ble_eq_true rfl), (Nat.le_of_ble_eq_true rfl)⟩, rfl, G.2.2.2.2 (Cond.instanceMethod yX4_init) (by decide +kernel)⟩ (py_preS hw) rfl rfl hl.1 rfl (lv_room (Nat.le_of_ble_eq_true rfl)) dX11_init_31 ⟨(Nat.le_of_ble_eq_true rfl), (Nat.le_of_ble_eq_true rfl)⟩) (fun L_60 f_61 H_62 locs hp_63 hw => ?_)
  obtain ⟨dl_66, xl_67, h_68, h_69, hl_70, x_65⟩ := hp_63
  have h_46 := h_46.ext x_65 ne_55
  have h_16 := h_16.ext x_65 ne_56
  have h_17 := h_17.ext x_65 ne_57
  have h_41 := h_41.ext x_65 ne_58
  have h_42 := h_42.ext x_65 ne_59
  refine py_putF (C := RX11) (T := TX11) (N := 16) (k := 2) (v := .ref q_48) (fs' := [.ref q_1, .ref q_22, .ref q_48, .null, .null, .null, .null, .null, .null, .null, .null, .null, .null, .int 0, .int 0, .int 0]) (ty0 := tyX11) G hin hw tyX11_ok nmX11 in_X11_init_X11 rfl h_46 (by decide) (by decide +kernel) rfl rfl rfl rfl rfl (Nat.le_of_ble_eq_true rfl) rfl dX11_init_34 (fun f_71 H_72 locs h_73 x_74 hw => ?_)
  have h_16 := h_16.ext x_74 (Ne.symm ne_8)
  have h_17 := h_17.ext x_74 (Ne.symm (py_ne_arr h_46 h_17))
  have h_41 := h_41.ext x_74 (Ne.symm ne_29)
  have h_42 := h_42.ext x_74 (py_ne_kind h_42 h_46 (by decide))
  have h_68 := h_68.ext x_74 (Ne.symm ne_55)
  have h_69 := h_69.ext x_74 (py_ne_kind h_69 h_46 (by decide))
  refine lv_aload_n G.1 G.2.1 dX11_init_37 rfl (lv_at hl 0 rfl) ?_
  refine lv_iconst (v := 4) G.1 G.2.1 dX11_init_38 (by decide) ?_
  refine py_newR (N := 4) G hw (by decide +kernel) (by decide) (by decide) (Nat.le_of_ble_eq_true rfl) (Nat.le_of_ble_eq_true rfl) (Nat.le_of_ble_eq_true rfl) dX11_init_39 (fun q_75 L_76 f_77 H_78 hq_79 h_80 x_81 hw => ?_)
  have ne_82 : h ≠ q_75 := py_ne_new h_73 hq_79
  have h_73 := h_73.all x_81
  have ne_83 : q_1 ≠ q_75 := py_ne_new h_16 hq_79
  have h_16 := h_16.all x_81
  have ne_84 : byt_15 ≠ q_75 := py_ne_new h_17 hq_79
  have h_17 := h_17.all x_81
  have ne_85 : q_22 ≠ q_75 := py_ne_new h_41 hq_79
  have h_41 := h_41.all x_81
  have ne_86 : dr_39 ≠ q_75 := py_ne_new h_42 hq_79
  have h_42 := h_42.all x_81
  have ne_87 : q_48 ≠ q_75 := py_ne_new h_68 hq_79
  have h_68 := h_68.all x_81
  have ne_88 : dl_66 ≠ q_75 := py_ne_new h_69 hq_79
  have h_69 := h_69.all x_81
  refine py_putF (C := RX11) (T := TX11) (N := 16) (k := 3) (v := .ref q_75) (fs' := [.ref q_1, .ref q_22, .ref q_48, .ref q_75, .null, .null, .null, .null, .null, .null, .null, .null, .null, .int 0, .int 0, .int 0]) (ty0 := tyX11) G hin hw tyX11_ok nmX11 in_X11_init_X11 rfl h_73 (by decide) (by decide +kernel) rfl rfl rfl rfl rfl (Nat.le_of_ble_eq_true rfl) rfl dX11_init_42 (fun f_89 H_90 locs h_91 x_92 hw => ?_)
  have h_16 := h_16.ext x_92 (Ne.symm ne_8)
  have h_17 := h_17.ext x_92 (Ne.symm (py_ne_arr h_73 h_17))
  have h_41 := h_41.ext x_92 (Ne.symm ne_29)
  have h_42 := h_42.ext x_92 (py_ne_kind h_42 h_73 (by decide))
  have h_68 := h_68.ext x_92 (Ne.symm ne_55)
  have h_69 := h_69.ext x_92 (py_ne_kind h_69 h_73 (by decide))
  refine lv_aload_n G.1 G.2.1 dX11_init_45 rfl (lv_at hl 0 rfl) ?_
  refine py_callr hw (va_runS (As := []) (rest := [.ref h]) G (c_X3_bornLessDead l E L_76 f_89 H_90.size ) (va_cwS 0 G.2.2.2.2 g_X11_init_X3_bornLessDead_36 rfl rfl rfl (by decide +kernel) ⟨(Nat.le_of_ble_eq_true rfl), (Nat.le_of_ble_eq_true rfl)⟩) (py_preS hw) rfl rfl hl.1 rfl (lv_room (Nat.le_of_ble_eq_true rfl)) dX11_init_46 ⟨(Nat.le_of_ble_eq_true rfl), (Nat.le_of_ble_eq_true rfl)⟩) (fun r_97 L_93 f_94 H_95 locs hp_96 hw => ?_)
  have h_91 := h_91.all hp_96
  have h_16 := h_16.all hp_96
  have h_17 := h_17.all hp_96
  have h_41 := h_41.all hp_96
  have h_42 := h_42.all hp_96
  have h_68 := h_68.all hp_96
  have h_69 := h_69.all hp_96
  refine py_putF (C := RX11) (T := TX11) (N := 16) (k := 4) (v := .ref r_97) (fs' := [.ref q_1, .ref q_22, .ref q_48, .ref q_75, .ref r_97, .null, .null, .null, .null, .null, .null, .null, .null, .int 0, .int 0, .int 0]) (ty0 := tyX11) G hin hw tyX11_ok nmX11 in_X11_init_X11 rfl h_91 (by decide) (by decide +kernel) rfl rfl rfl rfl rfl (Nat.le_of_ble_eq_true rfl) rfl dX11_init_49 (fun f_98 H_99 locs h_100 x_101 hw => ?_)
  have h_16 := h_16.ext x_101 (Ne.symm ne_8)
  have h_17 := h_17.ext x_101 (Ne.symm (py_ne_arr h_91 h_17))
  have h_41 := h_41.ext x_101 (Ne.symm ne_29)
  have h_42 := h_42.ext x_101 (py_ne_kind h_42 h_91 (by decide))
  have h_68 := h_68.ext x_101 (Ne.symm ne_55)
  have h_69 := h_69.ext x_101 (py_ne_kind h_69 h_91 (by decide))
  refine lv_aload_n G.1 G.2.1 dX11_init_52 rfl (lv_at hl 0 rfl) ?_
  refine py_new (C := RX2) (T := TX2) (N := 12) (ci := 2) (fs := [.null, .null, .null, .null, .null, .null, .null, .null, .null, .null, .long 0, .int 0]) (ty0 := tyX2) G hw tyX2_ok in_X11_init_X2 rfl (by decide +kernel) (by decide +kernel) (by decide +kernel) (fun j hj => match j, hj with | 0, _ => rfl | 1, _ => rfl | 2, _ => rfl | 3, _ => rfl | 4, _ => rfl | 5, _ => rfl | 6, _ => rfl | 7, _ => rfl | 8, _ => rfl | 9, _ => rfl | 10, _ => rfl | 11, _ => rfl | n + 12, h => absurd h (by omega)) (Nat.le_of_ble_eq_true rfl) (Nat.le_of_ble_eq_true rfl) dX11_init_53 (fun q_102 L_103 f_104 H_105 hq_106 h_107 x_108 hw => ?_)
  have ne_109 : h ≠ q_102 := py_ne_new h_100 hq_106
  have h_100 := h_100.all x_108
  have ne_110 : q_1 ≠ q_102 := py_ne_new h_16 hq_106
  have h_16 := h_16.all x_108
  have ne_111 : byt_15 ≠ q_102 := py_ne_new h_17 hq_106
  have h_17 := h_17.all x_108
  have ne_112 : q_22 ≠ q_102 := py_ne_new h_41 hq_106
  have h_41 := h_41.all x_108
  have ne_113 : dr_39 ≠ q_102 := py_ne_new h_42 hq_106
  have h_42 := h_42.all x_108
  have ne_114 : q_48 ≠ q_102 := py_ne_new h_68 hq_106
  have h_68 := h_68.all x_108
  have ne_115 : dl_66 ≠ q_102 := py_ne_new h_69 hq_106
  have h_69 := h_69.all x_108
  refine lv_dup G.1 G.2.1 dX11_init_56 rfl ?_
  refine py_callv hw (va_runIN (As := []) (rest := [.ref q_102, .ref h]) G (c_X2_init l E L_103 f_104 H_105.size q_102 h_107) ⟨va_cnB 0 G.2.2.2.2 g_X11_init_X2_init_46 rfl rfl rfl (hw.1.2.2 (RX11, 46, yX2_init) (List.mem_of_getElem? (i := 5) rfl)) (G.2.2.2.2 (Cond.initialized RX2) (by decide +kernel)) (by decide +kernel) ⟨(Nat.le_of_ble_eq_true rfl), (Nat.le_of_ble_eq_true rfl)⟩, rfl, G.2.2.2.2 (Cond.instanceMethod yX2_init) (by decide +kernel)⟩ (py_preS hw) rfl rfl hl.1 rfl (lv_room (Nat.le_of_ble_eq_true rfl)) dX11_init_57 ⟨(Nat.le_of_ble_eq_true rfl), (Nat.le_of_ble_eq_true rfl)⟩) (fun L_116 f_117 H_118 locs hp_119 hw => ?_)
  obtain ⟨xs_122, va_123, xv_124, h_125, hp_127, hp_128, hp_129, h_126, hp_130, hp_131, hp_132, x_121⟩ := hp_119
  have h_100 := h_100.ext x_121 ne_109
  have h_16 := h_16.ext x_121 ne_110
  have h_17 := h_17.ext x_121 ne_111
  have h_41 := h_41.ext x_121 ne_112
  have h_42 := h_42.ext x_121 ne_113
  have h_68 := h_68.ext x_121 ne_114
  have h_69 := h_69.ext x_121 ne_115
  refine py_putF (C := RX11) (T := TX11) (N := 16) (k := 5) (v := .ref q_102) (fs' := [.ref q_1, .ref q_22, .ref q_48, .ref q_75, .ref r_97, .ref q_102, .null, .null, .null, .null, .null, .null, .null, .int 0, .int 0, .int 0]) (ty0 := tyX11) G hin hw tyX11_ok nmX11 in_X11_init_X11 rfl h_100 (by decide) (by decide +kernel) rfl rfl rfl rfl rfl (Nat.le_of_ble_eq_true rfl) rfl dX11_init_60 (fun f_133 H_134 locs h_135 x_136 hw => ?_)
  have h_16 := h_16.ext x_136 (Ne.symm ne_8)
  have h_17 := h_17.ext x_136 (Ne.symm (py_ne_arr h_100 h_17))
  have h_41 := h_41.ext x_136 (Ne.symm ne_29)
  have h_42 := h_42.ext x_136 (py_ne_kind h_42 h_100 (by decide))
  have h_68 := h_68.ext x_136 (Ne.symm ne_55)
  have h_69 := h_69.ext x_136 (py_ne_kind h_69 h_100 (by decide))
  have h_125 := h_125.ext x_136 (Ne.symm ne_109)
  have h_126 := h_126.ext x_136 (py_ne_kind h_126 h_100 (by decide))
  refine lv_aload_n G.1 G.2.1 dX11_init_63 rfl (lv_at hl 0 rfl) ?_
  refine py_new (C := RX2) (T := TX2) (N := 12) (ci := 2) (fs := [.null, .null, .null, .null, .null, .null, .null, .null, .null, .null, .long 0, .int 0]) (ty0 := tyX2) G hw tyX2_ok in_X11_init_X2 rfl (by decide +kernel) (by decide +kernel) (by decide +kernel) (fun j hj => match j, hj with | 0, _ => rfl | 1, _ => rfl | 2, _ => rfl | 3, _ => rfl | 4, _ => rfl | 5, _ => rfl | 6, _ => rfl | 7, _ => rfl | 8, _ => rfl | 9, _ => rfl | 10, _ => rfl | 11, _ => rfl | n + 12, h => absurd h (by omega)) (Nat.le_of_ble_eq_true rfl) (Nat.le_of_ble_eq_true rfl) dX11_init_64 (fun q_137 L_138 f_139 H_140 hq_141 h_142 x_143 hw => ?_)
  have ne_144 : h ≠ q_137 := py_ne_new h_135 hq_141
  have h_135 := h_135.all x_143
  have ne_145 : q_1 ≠ q_137 := py_ne_new h_16 hq_141
  have h_16 := h_16.all x_143
  have ne_146 : byt_15 ≠ q_137 := py_ne_new h_17 hq_141
  have h_17 := h_17.all x_143
  have ne_147 : q_22 ≠ q_137 := py_ne_new h_41 hq_141
  have h_41 := h_41.all x_143
  have ne_148 : dr_39 ≠ q_137 := py_ne_new h_42 hq_141
  have h_42 := h_42.all x_143
  have ne_149 : q_48 ≠ q_137 := py_ne_new h_68 hq_141
  have h_68 := h_68.all x_143
  have ne_150 : dl_66 ≠ q_137 := py_ne_new h_69 hq_141
  have h_69 := h_69.all x_143
  have ne_151 : q_102 ≠ q_137 := py_ne_new h_125 hq_141
  have h_125 := h_125.all x_143
  have ne_152 : va_123 ≠ q_137 := py_ne_new h_126 hq_141
  have h_126 := h_126.all x_143
  refine lv_dup G.1 G.2.1 dX11_init_67 rfl ?_
  refine py_callv hw (va_runIN (As := []) (rest := [.ref q_137, .ref h]) G (c_X2_init l E L_138 f_139 H_140.size q_137 h_142) ⟨va_cnB 0 G.2.2.2.2 g_X11_init_X2_init_46 rfl rfl rfl (hw.1.2.2 (RX11, 46, yX2_init) (List.mem_of_getElem? (i := 5) rfl)) (G.2.2.2.2 (Cond.initialized RX2) (by decide +kernel)) (by decide +kernel) ⟨(Nat.le_of_ble_eq_true rfl), (Nat.le_of_ble_eq_true rfl)⟩, rfl, G.2.2.2.2 (Cond.instanceMethod yX2_init) (by decide +kernel)⟩ (py_preS hw) rfl rfl hl.1 rfl (lv_room (Nat.le_of_ble_eq_true rfl)) dX11_init_68 ⟨(Nat.le_of_ble_eq_true rfl), (Nat.le_of_ble_eq_true rfl)⟩) (fun L_153 f_154 H_155 locs hp_156 hw => ?_)
  obtain ⟨xs_159, va_160, xv_161, h_162, hp_164, hp_165, hp_166, h_163, hp_167, hp_168, hp_169, x_158⟩ := hp_156
  have h_135 := h_135.ext x_158 ne_144
  have h_16 := h_16.ext x_158 ne_145
  have h_17 := h_17.ext x_158 ne_146
  have h_41 := h_41.ext x_158 ne_147
  have h_42 := h_42.ext x_158 ne_148
  have h_68 := h_68.ext x_158 ne_149
  have h_69 := h_69.ext x_158 ne_150
  have h_125 := h_125.ext x_158 ne_151
  have h_126 := h_126.ext x_158 ne_152
  refine py_putF (C := RX11) (T := TX11) (N := 16) (k := 6) (v := .ref q_137) (fs' := [.ref q_1, .ref q_22, .ref q_48, .ref q_75, .ref r_97, .ref q_102, .ref q_137, .null, .null, .null, .null, .null, .null, .int 0, .int 0, .int 0]) (ty0 := tyX11) G hin hw tyX11_ok nmX11 in_X11_init_X11 rfl h_135 (by decide) (by decide +kernel) rfl rfl rfl rfl rfl (Nat.le_of_ble_eq_true rfl) rfl dX11_init_71 (fun f_170 H_171 locs h_172 x_173 hw => ?_)
  have h_16 := h_16.ext x_173 (Ne.symm ne_8)
  have h_17 := h_17.ext x_173 (Ne.symm (py_ne_arr h_135 h_17))
  have h_41 := h_41.ext x_173 (Ne.symm ne_29)
  have h_42 := h_42.ext x_173 (py_ne_kind h_42 h_135 (by decide))
  have h_68 := h_68.ext x_173 (Ne.symm ne_55)
  have h_69 := h_69.ext x_173 (py_ne_kind h_69 h_135 (by decide))
  have h_125 := h_125.ext x_173 (Ne.symm ne_109)
  have h_126 := h_126.ext x_173 (py_ne_kind h_126 h_135 (by decide))
  have h_162 := h_162.ext x_173 (Ne.symm ne_144)
  have h_163 := h_163.ext x_173 (py_ne_kind h_163 h_135 (by decide))
  refine lv_aload_n G.1 G.2.1 dX11_init_74 rfl (lv_at hl 0 rfl) ?_
  refine py_new (C := RX2) (T := TX2) (N := 12) (ci := 2) (fs := [.null, .null, .null, .null, .null, .null, .null, .null, .null, .null, .long 0, .int 0]) (ty0 := tyX2) G hw tyX2_ok in_X11_init_X2 rfl (by decide +kernel) (by decide +kernel) (by decide +kernel) (fun j hj => match j, hj with | 0, _ => rfl | 1, _ => rfl | 2, _ => rfl | 3, _ => rfl | 4, _ => rfl | 5, _ => rfl | 6, _ => rfl | 7, _ => rfl | 8, _ => rfl | 9, _ => rfl | 10, _ => rfl | 11, _ => rfl | n + 12, h => absurd h (by omega)) (Nat.le_of_ble_eq_true rfl) (Nat.le_of_ble_eq_true rfl) dX11_init_75 (fun q_174 L_175 f_176 H_177 hq_178 h_179 x_180 hw => ?_)
  have ne_181 : h ≠ q_174 := py_ne_new h_172 hq_178
  have h_172 := h_172.all x_180
  have ne_182 : q_1 ≠ q_174 := py_ne_new h_16 hq_178
  have h_16 := h_16.all x_180
  have ne_183 : byt_15 ≠ q_174 := py_ne_new h_17 hq_178
  have h_17 := h_17.all x_180
  have ne_184 : q_22 ≠ q_174 := py_ne_new h_41 hq_178
  have h_41 := h_41.all x_180
  have ne_185 : dr_39 ≠ q_174 := py_ne_new h_42 hq_178
  have h_42 := h_42.all x_180
  have ne_186 : q_48 ≠ q_174 := py_ne_new h_68 hq_178
  have h_68 := h_68.all x_180
  have ne_187 : dl_66 ≠ q_174 := py_ne_new h_69 hq_178
  have h_69 := h_69.all x_180
  have ne_188 : q_102 ≠ q_174 := py_ne_new h_125 hq_178
  have h_125 := h_125.all x_180
  have ne_189 : va_123 ≠ q_174 := py_ne_new h_126 hq_178
  have h_126 := h_126.all x_180
  have ne_190 : q_137 ≠ q_174 := py_ne_new h_162 hq_178
  have h_162 := h_162.all x_180
  have ne_191 : va_160 ≠ q_174 := py_ne_new h_163 hq_178
  have h_163 := h_163.all x_180
  refine lv_dup G.1 G.2.1 dX11_init_78 rfl ?_
  refine py_callv hw (va_runIN (As := []) (rest := [.ref q_174, .ref h]) G (c_X2_init l E L_175 f_176 H_177.size q_174 h_179) ⟨va_cnB 0 G.2.2.2.2 g_X11_init_X2_init_46 rfl rfl rfl (hw.1.2.2 (RX11, 46, yX2_init) (List.mem_of_getElem? (i := 5) rfl)) (G.2.2.2.2 (Cond.initialized RX2) (by decide +kernel)) (by decide +kernel) ⟨(Nat.le_of_ble_eq_true rfl), (Nat.le_of_ble_eq_true rfl)⟩, rfl, G.2.2.2.2 (Cond.instanceMethod yX2_init) (by decide +kernel)⟩ (py_preS hw) rfl rfl hl.1 rfl (lv_room (Nat.le_of_ble_eq_true rfl)) dX11_init_79 ⟨(Nat.le_of_ble_eq_true rfl), (Nat.le_of_ble_eq_true rfl)⟩) (fun L_192 f_193 H_194 locs hp_195 hw => ?_)
  obtain ⟨xs_198, va_199, xv_200, h_201, hp_203, hp_204, hp_205, h_202, hp_206, hp_207, hp_208, x_197⟩ := hp_195
  have h_172 := h_172.ext x_197 ne_181
  have h_16 := h_16.ext x_197 ne_182
  have h_17 := h_17.ext x_197 ne_183
  have h_41 := h_41.ext x_197 ne_184
  have h_42 := h_42.ext x_197 ne_185
  have h_68 := h_68.ext x_197 ne_186
  have h_69 := h_69.ext x_197 ne_187
  have h_125 := h_125.ext x_197 ne_188
  have h_126 := h_126.ext x_197 ne_189
  have h_162 := h_162.ext x_197 ne_190
  have h_163 := h_163.ext x_197 ne_191
  refine py_putF (C := RX11) (T := TX11) (N := 16) (k := 7) (v := .ref q_174) (fs' := [.ref q_1, .ref q_22, .ref q_48, .ref q_75, .ref r_97, .ref q_102, .ref q_137, .ref q_174, .null, .null, .null, .null, .null, .int 0, .int 0, .int 0]) (ty0 := tyX11) G hin hw tyX11_ok nmX11 in_X11_init_X11 rfl h_172 (by decide) (by decide +kernel) rfl rfl rfl rfl rfl (Nat.le_of_ble_eq_true rfl) rfl dX11_init_82 (fun f_209 H_210 locs h_211 x_212 hw => ?_)
  have h_16 := h_16.ext x_212 (Ne.symm ne_8)
  have h_17 := h_17.ext x_212 (Ne.symm (py_ne_arr h_172 h_17))
  have h_41 := h_41.ext x_212 (Ne.symm ne_29)
  have h_42 := h_42.ext x_212 (py_ne_kind h_42 h_172 (by decide))
  have h_68 := h_68.ext x_212 (Ne.symm ne_55)
  have h_69 := h_69.ext x_212 (py_ne_kind h_69 h_172 (by decide))
  have h_125 := h_125.ext x_212 (Ne.symm ne_109)
  have h_126 := h_126.ext x_212 (py_ne_kind h_126 h_172 (by decide))
  have h_162 := h_162.ext x_212 (Ne.symm ne_144)
  have h_163 := h_163.ext x_212 (py_ne_kind h_163 h_172 (by decide))
  have h_201 := h_201.ext x_212 (Ne.symm ne_181)
  have h_202 := h_202.ext x_212 (py_ne_kind h_202 h_172 (by decide))
  refine lv_aload_n G.1 G.2.1 dX11_init_85 rfl (lv_at hl 0 rfl) ?_
  refine py_new (C := RX1) (T := TX1) (N := 3) (ci := 1) (fs := [.null, .null, .int 0]) (ty0 := tyX1) G hw tyX1_ok in_X11_init_X1 rfl (by decide +kernel) (by decide +kernel) (by decide +kernel) (fun j hj => match j, hj with | 0, _ => rfl | 1, _ => rfl | 2, _ => rfl | n + 3, h => absurd h (by omega)) (Nat.le_of_ble_eq_true rfl) (Nat.le_of_ble_eq_true rfl) dX11_init_86 (fun q_213 L_214 f_215 H_216 hq_217 h_218 x_219 hw => ?_)
  have ne_220 : h ≠ q_213 := py_ne_new h_211 hq_217
  have h_211 := h_211.all x_219
  have ne_221 : q_1 ≠ q_213 := py_ne_new h_16 hq_217
  have h_16 := h_16.all x_219
  have ne_222 : byt_15 ≠ q_213 := py_ne_new h_17 hq_217
  have h_17 := h_17.all x_219
  have ne_223 : q_22 ≠ q_213 := py_ne_new h_41 hq_217
  have h_41 := h_41.all x_219
  have ne_224 : dr_39 ≠ q_213 := py_ne_new h_42 hq_217
  have h_42 := h_42.all x_219
  have ne_225 : q_48 ≠ q_213 := py_ne_new h_68 hq_217
  have h_68 := h_68.all x_219
  have ne_226 : dl_66 ≠ q_213 := py_ne_new h_69 hq_217
  have h_69 := h_69.all x_219
  have ne_227 : q_102 ≠ q_213 := py_ne_new h_125 hq_217
  have h_125 := h_125.all x_219
  have ne_228 : va_123 ≠ q_213 := py_ne_new h_126 hq_217
  have h_126 := h_126.all x_219
  have ne_229 : q_137 ≠ q_213 := py_ne_new h_162 hq_217
  have h_162 := h_162.all x_219
  have ne_230 : va_160 ≠ q_213 := py_ne_new h_163 hq_217
  have h_163 := h_163.all x_219
  have ne_231 : q_174 ≠ q_213 := py_ne_new h_201 hq_217
  have h_201 := h_201.all x_219
  have ne_232 : va_199 ≠ q_213 := py_ne_new h_202 hq_217
  have h_202 := h_202.all x_219
  refine lv_dup G.1 G.2.1 dX11_init_89 rfl ?_
  refine py_callv hw (va_runIN (As := []) (rest := [.ref q_213, .ref h]) G (c_X1_init l E L_214 f_215 H_216.size q_213 h_218) ⟨va_cnB 0 G.2.2.2.2 g_X11_init_X1_init_59 rfl rfl rfl (hw.1.2.2 (RX11, 59, yX1_init) (List.mem_of_getElem? (i := 7) rfl)) (G.2.2.2.2 (Cond.initialized RX1) (by decide +kernel)) (by decide +kernel) ⟨(Nat.le_of_ble_eq_true rfl), (Nat.le_of_ble_eq_true rfl)⟩, rfl, G.2.2.2.2 (Cond.instanceMethod yX1_init) (by decide +kernel)⟩ (py_preS hw) rfl rfl hl.1 rfl (lv_room (Nat.le_of_ble_eq_true rfl)) dX11_init_90 ⟨(Nat.le_of_ble_eq_true rfl), (Nat.le_of_ble_eq_true rfl)⟩) (fun L_233 f_234 H_235 locs hp_236 hw => ?_)
  obtain ⟨xs_239, h_240, hl_241, hp_242, x_238⟩ := hp_236
  have h_211 := h_211.ext x_238 ne_220
  have h_16 := h_16.ext x_238 ne_221
  have h_17 := h_17.ext x_238 ne_222
  have h_41 := h_41.ext x_238 ne_223
  have h_42 := h_42.ext x_238 ne_224
  have h_68 := h_68.ext x_238 ne_225
  have h_69 := h_69.ext x_238 ne_226
  have h_125 := h_125.ext x_238 ne_227
  have h_126 := h_126.ext x_238 ne_228
  have h_162 := h_162.ext x_238 ne_229
  have h_163 := h_163.ext x_238 ne_230
  have h_201 := h_201.ext x_238 ne_231
  have h_202 := h_202.ext x_238 ne_232
  refine py_putF (C := RX11) (T := TX11) (N := 16) (k := 8) (v := .ref q_213) (fs' := [.ref q_1, .ref q_22, .ref q_48, .ref q_75, .ref r_97, .ref q_102, .ref q_137, .ref q_174, .ref q_213, .null, .null, .null, .null, .int 0, .int 0, .int 0]) (ty0 := tyX11) G hin hw tyX11_ok nmX11 in_X11_init_X11 rfl h_211 (by decide) (by decide +kernel) rfl rfl rfl rfl rfl (Nat.le_of_ble_eq_true rfl) rfl dX11_init_93 (fun f_243 H_244 locs h_245 x_246 hw => ?_)
  have h_16 := h_16.ext x_246 (Ne.symm ne_8)
  have h_17 := h_17.ext x_246 (Ne.symm (py_ne_arr h_211 h_17))
  have h_41 := h_41.ext x_246 (Ne.symm ne_29)
  have h_42 := h_42.ext x_246 (py_ne_kind h_42 h_211 (by decide))
  have h_68 := h_68.ext x_246 (Ne.symm ne_55)
  have h_69 := h_69.ext x_246 (py_ne_kind h_69 h_211 (by decide))
  have h_125 := h_125.ext x_246 (Ne.symm ne_109)
  have h_126 := h_126.ext x_246 (py_ne_kind h_126 h_211 (by decide))
  have h_162 := h_162.ext x_246 (Ne.symm ne_144)
  have h_163 := h_163.ext x_246 (py_ne_kind h_163 h_211 (by decide))
  have h_201 := h_201.ext x_246 (Ne.symm ne_181)
  have h_202 := h_202.ext x_246 (py_ne_kind h_202 h_211 (by decide))
  have h_240 := h_240.ext x_246 (Ne.symm ne_220)
  refine lv_aload_n G.1 G.2.1 dX11_init_96 rfl (lv_at hl 0 rfl) ?_
  refine py_new (C := RX0) (T := TX0) (N := 5) (ci := 0) (fs := [.null, .null, .null, .int 0, .int 0]) (ty0 := tyX0) G hw tyX0_ok in_X11_init_X0 rfl (by decide +kernel) (by decide +kernel) (by decide +kernel) (fun j hj => match j, hj with | 0, _ => rfl | 1, _ => rfl | 2, _ => rfl | 3, _ => rfl | 4, _ => rfl | n + 5, h => absurd h (by omega)) (Nat.le_of_ble_eq_true rfl) (Nat.le_of_ble_eq_true rfl) dX11_init_97 (fun q_247 L_248 f_249 H_250 hq_251 h_252 x_253 hw => ?_)
  have ne_254 : h ≠ q_247 := py_ne_new h_245 hq_251
  have h_245 := h_245.all x_253
  have ne_255 : q_1 ≠ q_247 := py_ne_new h_16 hq_251
  have h_16 := h_16.all x_253
  have ne_256 : byt_15 ≠ q_247 := py_ne_new h_17 hq_251
  have h_17 := h_17.all x_253
  have ne_257 : q_22 ≠ q_247 := py_ne_new h_41 hq_251
  have h_41 := h_41.all x_253
  have ne_258 : dr_39 ≠ q_247 := py_ne_new h_42 hq_251
  have h_42 := h_42.all x_253
  have ne_259 : q_48 ≠ q_247 := py_ne_new h_68 hq_251
  have h_68 := h_68.all x_253
  have ne_260 : dl_66 ≠ q_247 := py_ne_new h_69 hq_251
  have h_69 := h_69.all x_253
  have ne_261 : q_102 ≠ q_247 := py_ne_new h_125 hq_251
  have h_125 := h_125.all x_253
  have ne_262 : va_123 ≠ q_247 := py_ne_new h_126 hq_251
  have h_126 := h_126.all x_253
  have ne_263 : q_137 ≠ q_247 := py_ne_new h_162 hq_251
  have h_162 := h_162.all x_253
  have ne_264 : va_160 ≠ q_247 := py_ne_new h_163 hq_251
  have h_163 := h_163.all x_253
  have ne_265 : q_174 ≠ q_247 := py_ne_new h_201 hq_251
  have h_201 := h_201.all x_253
  have ne_266 : va_199 ≠ q_247 := py_ne_new h_202 hq_251
  have h_202 := h_202.all x_253
  have ne_267 : q_213 ≠ q_247 := py_ne_new h_240 hq_251
  have h_240 := h_240.all x_253
  refine lv_dup G.1 G.2.1 dX11_init_100 rfl ?_
  refine py_callv hw (va_runIN (As := []) (rest := [.ref q_247, .ref h]) G (c_X0_init l E L_248 f_249 H_250.size q_247 h_252) ⟨va_cnB 0 G.2.2.2.2 g_X11_init_X0_init_66 rfl rfl rfl (hw.1.2.2 (RX11, 66, yX0_init) (List.mem_of_getElem? (i := 8) rfl)) (G.2.2.2.2 (Cond.initialized RX0) (by decide +kernel)) (by decide +kernel) ⟨(Nat.le_of_ble_eq_true rfl), (Nat.le_of_ble_eq_true rfl)⟩, rfl, G.2.2.2.2 (Cond.instanceMethod yX0_init) (by decide +kernel)⟩ (py_preS hw) rfl rfl hl.1 rfl (lv_room (Nat.le_of_ble_eq_true rfl)) dX11_init_101 ⟨(Nat.le_of_ble_eq_true rfl), (Nat.le_of_ble_eq_true rfl)⟩) (fun L_268 f_269 H_270 locs hp_271 hw => ?_)
  obtain ⟨xs_274, h_275, hl_276, hp_277, x_273⟩ := hp_271
  have h_245 := h_245.ext x_273 ne_254
  have h_16 := h_16.ext x_273 ne_255
  have h_17 := h_17.ext x_273 ne_256
  have h_41 := h_41.ext x_273 ne_257
  have h_42 := h_42.ext x_273 ne_258
  have h_68 := h_68.ext x_273 ne_259
  have h_69 := h_69.ext x_273 ne_260
  have h_125 := h_125.ext x_273 ne_261
  have h_126 := h_126.ext x_273 ne_262
  have h_162 := h_162.ext x_273 ne_263
  have h_163 := h_163.ext x_273 ne_264
  have h_201 := h_201.ext x_273 ne_265
  have h_202 := h_202.ext x_273 ne_266
  have h_240 := h_240.ext x_273 ne_267
  refine py_putF (C := RX11) (T := TX11) (N := 16) (k := 9) (v := .ref q_247) (fs' := [.ref q_1, .ref q_22, .ref q_48, .ref q_75, .ref r_97, .ref q_102, .ref q_137, .ref q_174, .ref q_213, .ref q_247, .null, .null, .null, .int 0, .int 0, .int 0]) (ty0 := tyX11) G hin hw tyX11_ok nmX11 in_X11_init_X11 rfl h_245 (by decide) (by decide +kernel) rfl rfl rfl rfl rfl (Nat.le_of_ble_eq_true rfl) rfl dX11_init_104 (fun f_278 H_279 locs h_280 x_281 hw => ?_)
  have h_16 := h_16.ext x_281 (Ne.symm ne_8)
  have h_17 := h_17.ext x_281 (Ne.symm (py_ne_arr h_245 h_17))
  have h_41 := h_41.ext x_281 (Ne.symm ne_29)
  have h_42 := h_42.ext x_281 (py_ne_kind h_42 h_245 (by decide))
  have h_68 := h_68.ext x_281 (Ne.symm ne_55)
  have h_69 := h_69.ext x_281 (py_ne_kind h_69 h_245 (by decide))
  have h_125 := h_125.ext x_281 (Ne.symm ne_109)
  have h_126 := h_126.ext x_281 (py_ne_kind h_126 h_245 (by decide))
  have h_162 := h_162.ext x_281 (Ne.symm ne_144)
  have h_163 := h_163.ext x_281 (py_ne_kind h_163 h_245 (by decide))
  have h_201 := h_201.ext x_281 (Ne.symm ne_181)
  have h_202 := h_202.ext x_281 (py_ne_kind h_202 h_245 (by decide))
  have h_240 := h_240.ext x_281 (Ne.symm ne_220)
  have h_275 := h_275.ext x_281 (Ne.symm ne_254)
  refine lv_aload_n G.1 G.2.1 dX11_init_107 rfl (lv_at hl 0 rfl) ?_
  refine py_new (C := RX7) (T := TX7) (N := 5) (ci := 7) (fs := [.null, .null, .null, .int 0, .int 0]) (ty0 := tyX7) G hw tyX7_ok in_X11_init_X7 rfl (by decide +kernel) (by decide +kernel) (by decide +kernel) (fun j hj => match j, hj with | 0, _ => rfl | 1, _ => rfl | 2, _ => rfl | 3, _ => rfl | 4, _ => rfl | n + 5, h => absurd h (by omega)) (Nat.le_of_ble_eq_true rfl) (Nat.le_of_ble_eq_true rfl) dX11_init_108 (fun q_282 L_283 f_284 H_285 hq_286 h_287 x_288 hw => ?_)
  have ne_289 : h ≠ q_282 := py_ne_new h_280 hq_286
  have h_280 := h_280.all x_288
  have ne_290 : q_1 ≠ q_282 := py_ne_new h_16 hq_286
  have h_16 := h_16.all x_288
  have ne_291 : byt_15 ≠ q_282 := py_ne_new h_17 hq_286
  have h_17 := h_17.all x_288
  have ne_292 : q_22 ≠ q_282 := py_ne_new h_41 hq_286
  have h_41 := h_41.all x_288
  have ne_293 : dr_39 ≠ q_282 := py_ne_new h_42 hq_286
  have h_42 := h_42.all x_288
  have ne_294 : q_48 ≠ q_282 := py_ne_new h_68 hq_286
  have h_68 := h_68.all x_288
  have ne_295 : dl_66 ≠ q_282 := py_ne_new h_69 hq_286
  have h_69 := h_69.all x_288
  have ne_296 : q_102 ≠ q_282 := py_ne_new h_125 hq_286
  have h_125 := h_125.all x_288
  have ne_297 : va_123 ≠ q_282 := py_ne_new h_126 hq_286
  have h_126 := h_126.all x_288
  have ne_298 : q_137 ≠ q_282 := py_ne_new h_162 hq_286
  have h_162 := h_162.all x_288
  have ne_299 : va_160 ≠ q_282 := py_ne_new h_163 hq_286
  have h_163 := h_163.all x_288
  have ne_300 : q_174 ≠ q_282 := py_ne_new h_201 hq_286
  have h_201 := h_201.all x_288
  have ne_301 : va_199 ≠ q_282 := py_ne_new h_202 hq_286
  have h_202 := h_202.all x_288
  have ne_302 : q_213 ≠ q_282 := py_ne_new h_240 hq_286
  have h_240 := h_240.all x_288
  have ne_303 : q_247 ≠ q_282 := py_ne_new h_275 hq_286
  have h_275 := h_275.all x_288
  refine lv_dup G.1 G.2.1 dX11_init_111 rfl ?_
  refine py_callv hw (va_runIN (As := []) (rest := [.ref q_282, .ref h]) G (c_X7_init l E L_283 f_284 H_285.size q_282 h_287) ⟨va_cnB 0 G.2.2.2.2 g_X11_init_X7_init_73 rfl rfl rfl (hw.1.2.2 (RX11, 73, yX7_init) (List.mem_of_getElem? (i := 9) rfl)) (G.2.2.2.2 (Cond.initialized RX7) (by decide +kernel)) (by decide +kernel) ⟨(Nat.le_of_ble_eq_true rfl), (Nat.le_of_ble_eq_true rfl)⟩, rfl, G.2.2.2.2 (Cond.instanceMethod yX7_init) (by decide +kernel)⟩ (py_preS hw) rfl rfl hl.1 rfl (lv_room (Nat.le_of_ble_eq_true rfl)) dX11_init_112 ⟨(Nat.le_of_ble_eq_true rfl), (Nat.le_of_ble_eq_true rfl)⟩) (fun L_304 f_305 H_306 locs hp_307 hw => ?_)
  obtain ⟨xs_310, h_311, hl_312, x_309⟩ := hp_307
  have h_280 := h_280.ext x_309 ne_289
  have h_16 := h_16.ext x_309 ne_290
  have h_17 := h_17.ext x_309 ne_291
  have h_41 := h_41.ext x_309 ne_292
  have h_42 := h_42.ext x_309 ne_293
  have h_68 := h_68.ext x_309 ne_294
  have h_69 := h_69.ext x_309 ne_295
  have h_125 := h_125.ext x_309 ne_296
  have h_126 := h_126.ext x_309 ne_297
  have h_162 := h_162.ext x_309 ne_298
  have h_163 := h_163.ext x_309 ne_299
  have h_201 := h_201.ext x_309 ne_300
  have h_202 := h_202.ext x_309 ne_301
  have h_240 := h_240.ext x_309 ne_302
  have h_275 := h_275.ext x_309 ne_303
  refine py_putF (C := RX11) (T := TX11) (N := 16) (k := 10) (v := .ref q_282) (fs' := [.ref q_1, .ref q_22, .ref q_48, .ref q_75, .ref r_97, .ref q_102, .ref q_137, .ref q_174, .ref q_213, .ref q_247, .ref q_282, .null, .null, .int 0, .int 0, .int 0]) (ty0 := tyX11) G hin hw tyX11_ok nmX11 in_X11_init_X11 rfl h_280 (by decide) (by decide +kernel) rfl rfl rfl rfl rfl (Nat.le_of_ble_eq_true rfl) rfl dX11_init_115 (fun f_313 H_314 locs h_315 x_316 hw => ?_)
  have h_16 := h_16.ext x_316 (Ne.symm ne_8)
  have h_17 := h_17.ext x_316 (Ne.symm (py_ne_arr h_280 h_17))
  have h_41 := h_41.ext x_316 (Ne.symm ne_29)
  have h_42 := h_42.ext x_316 (py_ne_kind h_42 h_280 (by decide))
  have h_68 := h_68.ext x_316 (Ne.symm ne_55)
  have h_69 := h_69.ext x_316 (py_ne_kind h_69 h_280 (by decide))
  have h_125 := h_125.ext x_316 (Ne.symm ne_109)
  have h_126 := h_126.ext x_316 (py_ne_kind h_126 h_280 (by decide))
  have h_162 := h_162.ext x_316 (Ne.symm ne_144)
  have h_163 := h_163.ext x_316 (py_ne_kind h_163 h_280 (by decide))
  have h_201 := h_201.ext x_316 (Ne.symm ne_181)
  have h_202 := h_202.ext x_316 (py_ne_kind h_202 h_280 (by decide))
  have h_240 := h_240.ext x_316 (Ne.symm ne_220)
  have h_275 := h_275.ext x_316 (Ne.symm ne_254)
  have h_311 := h_311.ext x_316 (Ne.symm ne_289)
  refine lv_aload_n G.1 G.2.1 dX11_init_118 rfl (lv_at hl 0 rfl) ?_
  refine py_new (C := RX5) (T := TX5) (N := 1) (ci := 5) (fs := [.null]) (ty0 := tyX5) G hw tyX5_ok in_X11_init_X5 rfl (by decide +kernel) (by decide +kernel) (by decide +kernel) (fun j hj => match j, hj with | 0, _ => rfl | n + 1, h => absurd h (by omega)) (Nat.le_of_ble_eq_true rfl) (Nat.le_of_ble_eq_true rfl) dX11_init_119 (fun q_317 L_318 f_319 H_320 hq_321 h_322 x_323 hw => ?_)
  have ne_324 : h ≠ q_317 := py_ne_new h_315 hq_321
  have h_315 := h_315.all x_323
  have ne_325 : q_1 ≠ q_317 := py_ne_new h_16 hq_321
  have h_16 := h_16.all x_323
  have ne_326 : byt_15 ≠ q_317 := py_ne_new h_17 hq_321
  have h_17 := h_17.all x_323
  have ne_327 : q_22 ≠ q_317 := py_ne_new h_41 hq_321
  have h_41 := h_41.all x_323
  have ne_328 : dr_39 ≠ q_317 := py_ne_new h_42 hq_321
  have h_42 := h_42.all x_323
  have ne_329 : q_48 ≠ q_317 := py_ne_new h_68 hq_321
  have h_68 := h_68.all x_323
  have ne_330 : dl_66 ≠ q_317 := py_ne_new h_69 hq_321
  have h_69 := h_69.all x_323
  have ne_331 : q_102 ≠ q_317 := py_ne_new h_125 hq_321
  have h_125 := h_125.all x_323
  have ne_332 : va_123 ≠ q_317 := py_ne_new h_126 hq_321
  have h_126 := h_126.all x_323
  have ne_333 : q_137 ≠ q_317 := py_ne_new h_162 hq_321
  have h_162 := h_162.all x_323
  have ne_334 : va_160 ≠ q_317 := py_ne_new h_163 hq_321
  have h_163 := h_163.all x_323
  have ne_335 : q_174 ≠ q_317 := py_ne_new h_201 hq_321
  have h_201 := h_201.all x_323
  have ne_336 : va_199 ≠ q_317 := py_ne_new h_202 hq_321
  have h_202 := h_202.all x_323
  have ne_337 : q_213 ≠ q_317 := py_ne_new h_240 hq_321
  have h_240 := h_240.all x_323
  have ne_338 : q_247 ≠ q_317 := py_ne_new h_275 hq_321
  have h_275 := h_275.all x_323
  have ne_339 : q_282 ≠ q_317 := py_ne_new h_311 hq_321
  have h_311 := h_311.all x_323
  refine lv_dup G.1 G.2.1 dX11_init_122 rfl ?_
  refine py_callv hw (va_runIN (As := []) (rest := [.ref q_317, .ref h]) G (c_X5_init l E L_318 f_319 H_320.size q_317 h_322) ⟨va_cnB 0 G.2.2.2.2 g_X11_init_X5_init_80 rfl rfl rfl (hw.1.2.2 (RX11, 80, yX5_init) (List.mem_of_getElem? (i := 10) rfl)) (G.2.2.2.2 (Cond.initialized RX5) (by decide +kernel)) (by decide +kernel) ⟨(Nat.le_of_ble_eq_true rfl), (Nat.le_of_ble_eq_true rfl)⟩, rfl, G.2.2.2.2 (Cond.instanceMethod yX5_init) (by decide +kernel)⟩ (py_preS hw) rfl rfl hl.1 rfl (lv_room (Nat.le_of_ble_eq_true rfl)) dX11_init_123 ⟨(Nat.le_of_ble_eq_true rfl), (Nat.le_of_ble_eq_true rfl)⟩) (fun L_340 f_341 H_342 locs hp_343 hw => ?_)
  have x_345 := hp_343
  have h_315 := h_315.ext x_345 ne_324
  have h_16 := h_16.ext x_345 ne_325
  have h_17 := h_17.ext x_345 ne_326
  have h_41 := h_41.ext x_345 ne_327
  have h_42 := h_42.ext x_345 ne_328
  have h_68 := h_68.ext x_345 ne_329
  have h_69 := h_69.ext x_345 ne_330
  have h_125 := h_125.ext x_345 ne_331
  have h_126 := h_126.ext x_345 ne_332
  have h_162 := h_162.ext x_345 ne_333
  have h_163 := h_163.ext x_345 ne_334
  have h_201 := h_201.ext x_345 ne_335
  have h_202 := h_202.ext x_345 ne_336
  have h_240 := h_240.ext x_345 ne_337
  have h_275 := h_275.ext x_345 ne_338
  have h_311 := h_311.ext x_345 ne_339
  refine py_putF (C := RX11) (T := TX11) (N := 16) (k := 11) (v := .ref q_317) (fs' := [.ref q_1, .ref q_22, .ref q_48, .ref q_75, .ref r_97, .ref q_102, .ref q_137, .ref q_174, .ref q_213, .ref q_247, .ref q_282, .ref q_317, .null, .int 0, .int 0, .int 0]) (ty0 := tyX11) G hin hw tyX11_ok nmX11 in_X11_init_X11 rfl h_315 (by decide) (by decide +kernel) rfl rfl rfl rfl rfl (Nat.le_of_ble_eq_true rfl) rfl dX11_init_126 (fun f_346 H_347 locs h_348 x_349 hw => ?_)
  have h_16 := h_16.ext x_349 (Ne.symm ne_8)
  have h_17 := h_17.ext x_349 (Ne.symm (py_ne_arr h_315 h_17))
  have h_41 := h_41.ext x_349 (Ne.symm ne_29)
  have h_42 := h_42.ext x_349 (py_ne_kind h_42 h_315 (by decide))
  have h_68 := h_68.ext x_349 (Ne.symm ne_55)
  have h_69 := h_69.ext x_349 (py_ne_kind h_69 h_315 (by decide))
  have h_125 := h_125.ext x_349 (Ne.symm ne_109)
  have h_126 := h_126.ext x_349 (py_ne_kind h_126 h_315 (by decide))
  have h_162 := h_162.ext x_349 (Ne.symm ne_144)
  have h_163 := h_163.ext x_349 (py_ne_kind h_163 h_315 (by decide))
  have h_201 := h_201.ext x_349 (Ne.symm ne_181)
  have h_202 := h_202.ext x_349 (py_ne_kind h_202 h_315 (by decide))
  have h_240 := h_240.ext x_349 (Ne.symm ne_220)
  have h_275 := h_275.ext x_349 (Ne.symm ne_254)
  have h_311 := h_311.ext x_349 (Ne.symm ne_289)
  refine lv_aload_n G.1 G.2.1 dX11_init_129 rfl (lv_at hl 0 rfl) ?_
  refine py_new (C := RX6) (T := TX6) (N := 7) (ci := 6) (fs := [.null, .null, .null, .null, .null, .null, .long 0]) (ty0 := tyX6) G hw tyX6_ok in_X11_init_X6 rfl (by decide +kernel) (by decide +kernel) (by decide +kernel) (fun j hj => match j, hj with | 0, _ => rfl | 1, _ => rfl | 2, _ => rfl | 3, _ => rfl | 4, _ => rfl | 5, _ => rfl | 6, _ => rfl | n + 7, h => absurd h (by omega)) (Nat.le_of_ble_eq_true rfl) (Nat.le_of_ble_eq_true rfl) dX11_init_130 (fun q_350 L_351 f_352 H_353 hq_354 h_355 x_356 hw => ?_)
  have ne_357 : h ≠ q_350 := py_ne_new h_348 hq_354
  have h_348 := h_348.all x_356
  have ne_358 : q_1 ≠ q_350 := py_ne_new h_16 hq_354
  have h_16 := h_16.all x_356
  have ne_359 : byt_15 ≠ q_350 := py_ne_new h_17 hq_354
  have h_17 := h_17.all x_356
  have ne_360 : q_22 ≠ q_350 := py_ne_new h_41 hq_354
  have h_41 := h_41.all x_356
  have ne_361 : dr_39 ≠ q_350 := py_ne_new h_42 hq_354
  have h_42 := h_42.all x_356
  have ne_362 : q_48 ≠ q_350 := py_ne_new h_68 hq_354
  have h_68 := h_68.all x_356
  have ne_363 : dl_66 ≠ q_350 := py_ne_new h_69 hq_354
  have h_69 := h_69.all x_356
  have ne_364 : q_102 ≠ q_350 := py_ne_new h_125 hq_354
  have h_125 := h_125.all x_356
  have ne_365 : va_123 ≠ q_350 := py_ne_new h_126 hq_354
  have h_126 := h_126.all x_356
  have ne_366 : q_137 ≠ q_350 := py_ne_new h_162 hq_354
  have h_162 := h_162.all x_356
  have ne_367 : va_160 ≠ q_350 := py_ne_new h_163 hq_354
  have h_163 := h_163.all x_356
  have ne_368 : q_174 ≠ q_350 := py_ne_new h_201 hq_354
  have h_201 := h_201.all x_356
  have ne_369 : va_199 ≠ q_350 := py_ne_new h_202 hq_354
  have h_202 := h_202.all x_356
  have ne_370 : q_213 ≠ q_350 := py_ne_new h_240 hq_354
  have h_240 := h_240.all x_356
  have ne_371 : q_247 ≠ q_350 := py_ne_new h_275 hq_354
  have h_275 := h_275.all x_356
  have ne_372 : q_282 ≠ q_350 := py_ne_new h_311 hq_354
  have h_311 := h_311.all x_356
  refine lv_dup G.1 G.2.1 dX11_init_133 rfl ?_
  refine lv_aload_n G.1 G.2.1 dX11_init_134 rfl (lv_at hl 0 rfl) ?_
  refine py_get (C := RX11) (T := TX11) (N := 16) (k := 5) (v := .ref q_102) G hw in_X11_init_X11 rfl h_348 (by decide) (by decide +kernel) rfl dX11_init_135 ?_
  refine lv_aload_n G.1 G.2.1 dX11_init_138 rfl (lv_at hl 0 rfl) ?_
  refine py_get (C := RX11) (T := TX11) (N := 16) (k := 4) (v := .ref r_97) G hw in_X11_init_X11 rfl h_348 (by decide) (by decide +kernel) rfl dX11_init_139 ?_
  refine py_callv hw (va_runI (As := [.ref q_102, .ref r_97]) (rest := [.ref q_350, .ref h]) G (c_X6_init l E L_351 f_352 H_353.size q_350 q_102 r_97 h_355) (cwI 2 G.2.2.2.2 g_X11_init_X6_init_87 rfl rfl rfl (G.2.2.2.2 (Cond.initialized RX6) (by decide +kernel)) (G.2.2.2.2 (Cond.methodLink RX11 87 yX6_init) (by decide +kernel)) (G.2.2.2.2 (Cond.instanceMethod yX6_init) (by decide +kernel)) rfl (by decide +kernel) ⟨(Nat.le_of_ble_eq_true rfl), (Nat.le_of_ble_eq_true rfl)⟩) (py_preS hw) rfl rfl hl.1 rfl (lv_room (Nat.le_of_ble_eq_true rfl)) dX11_init_142 ⟨(Nat.le_of_ble_eq_true rfl), (Nat.le_of_ble_eq_true rfl)⟩) (fun L_373 f_374 H_375 locs hp_376 hw => ?_)
  have x_378 := hp_376
  have h_348 := h_348.ext x_378 ne_357
  have h_16 := h_16.ext x_378 ne_358
  have h_17 := h_17.ext x_378 ne_359
  have h_41 := h_41.ext x_378 ne_360
  have h_42 := h_42.ext x_378 ne_361
  have h_68 := h_68.ext x_378 ne_362
  have h_69 := h_69.ext x_378 ne_363
  have h_125 := h_125.ext x_378 ne_364
  have h_126 := h_126.ext x_378 ne_365
  have h_162 := h_162.ext x_378 ne_366
  have h_163 := h_163.ext x_378 ne_367
  have h_201 := h_201.ext x_378 ne_368
  have h_202 := h_202.ext x_378 ne_369
  have h_240 := h_240.ext x_378 ne_370
  have h_275 := h_275.ext x_378 ne_371
  have h_311 := h_311.ext x_378 ne_372
  refine py_putF (C := RX11) (T := TX11) (N := 16) (k := 12) (v := .ref q_350) (fs' := [.ref q_1, .ref q_22, .ref q_48, .ref q_75, .ref r_97, .ref q_102, .ref q_137, .ref q_174, .ref q_213, .ref q_247, .ref q_282, .ref q_317, .ref q_350, .int 0, .int 0, .int 0]) (ty0 := tyX11) G hin hw tyX11_ok nmX11 in_X11_init_X11 rfl h_348 (by decide) (by decide +kernel) rfl rfl rfl rfl rfl (Nat.le_of_ble_eq_true rfl) rfl dX11_init_145 (fun f_379 H_380 locs h_381 x_382 hw => ?_)
  have h_16 := h_16.ext x_382 (Ne.symm ne_8)
  have h_17 := h_17.ext x_382 (Ne.symm (py_ne_arr h_348 h_17))
  have h_41 := h_41.ext x_382 (Ne.symm ne_29)
  have h_42 := h_42.ext x_382 (py_ne_kind h_42 h_348 (by decide))
  have h_68 := h_68.ext x_382 (Ne.symm ne_55)
  have h_69 := h_69.ext x_382 (py_ne_kind h_69 h_348 (by decide))
  have h_125 := h_125.ext x_382 (Ne.symm ne_109)
  have h_126 := h_126.ext x_382 (py_ne_kind h_126 h_348 (by decide))
  have h_162 := h_162.ext x_382 (Ne.symm ne_144)
  have h_163 := h_163.ext x_382 (py_ne_kind h_163 h_348 (by decide))
  have h_201 := h_201.ext x_382 (Ne.symm ne_181)
  have h_202 := h_202.ext x_382 (py_ne_kind h_202 h_348 (by decide))
  have h_240 := h_240.ext x_382 (Ne.symm ne_220)
  have h_275 := h_275.ext x_382 (Ne.symm ne_254)
  have h_311 := h_311.ext x_382 (Ne.symm ne_289)
  refine lv_aload_n G.1 G.2.1 dX11_init_148 rfl (lv_at hl 0 rfl) ?_
  refine lv_iconst (v := 0) G.1 G.2.1 dX11_init_149 (by decide) ?_
  refine py_put (C := RX11) (T := TX11) (N := 16) (k := 13) (v := .int 0) (fs' := [.ref q_1, .ref q_22, .ref q_48, .ref q_75, .ref r_97, .ref q_102, .ref q_137, .ref q_174, .ref q_213, .ref q_247, .ref q_282, .ref q_317, .ref q_350, .int 0, .int 0, .int 0]) (ty0 := tyX11) G hw tyX11_ok nmX11 in_X11_init_X11 rfl h_381 (by decide) (by decide +kernel) rfl rfl rfl rfl (Nat.le_of_ble_eq_true rfl) rfl dX11_init_150 (fun f_383 H_384 locs h_385 x_386 hw => ?_)
  have h_16 := h_16.ext x_386 (Ne.symm ne_8)
  have h_17 := h_17.ext x_386 (Ne.symm (py_ne_arr h_381 h_17))
  have h_41 := h_41.ext x_386 (Ne.symm ne_29)
  have h_42 := h_42.ext x_386 (py_ne_kind h_42 h_381 (by decide))
  have h_68 := h_68.ext x_386 (Ne.symm ne_55)
  have h_69 := h_69.ext x_386 (py_ne_kind h_69 h_381 (by decide))
  have h_125 := h_125.ext x_386 (Ne.symm ne_109)
  have h_126 := h_126.ext x_386 (py_ne_kind h_126 h_381 (by decide))
  have h_162 := h_162.ext x_386 (Ne.symm ne_144)
  have h_163 := h_163.ext x_386 (py_ne_kind h_163 h_381 (by decide))
  have h_201 := h_201.ext x_386 (Ne.symm ne_181)
  have h_202 := h_202.ext x_386 (py_ne_kind h_202 h_381 (by decide))
  have h_240 := h_240.ext x_386 (Ne.symm ne_220)
  have h_275 := h_275.ext x_386 (Ne.symm ne_254)
  have h_311 := h_311.ext x_386 (Ne.symm ne_289)
  refine lv_aload_n G.1 G.2.1 dX11_init_153 rfl (lv_at hl 0 rfl) ?_
  refine lv_iconst (v := (-1)) G.1 G.2.1 dX11_init_154 (by decide) ?_
  refine py_put (C := RX11) (T := TX11) (N := 16) (k := 14) (v := .int (-1)) (fs' := [.ref q_1, .ref q_22, .ref q_48, .ref q_75, .ref r_97, .ref q_102, .ref q_137, .ref q_174, .ref q_213, .ref q_247, .ref q_282, .ref q_317, .ref q_350, .int 0, .int (-1), .int 0]) (ty0 := tyX11) G hw tyX11_ok nmX11 in_X11_init_X11 rfl h_385 (by decide) (by decide +kernel) rfl rfl rfl rfl (Nat.le_of_ble_eq_true rfl) rfl dX11_init_155 (fun f_387 H_388 locs h_389 x_390 hw => ?_)
  have h_16 := h_16.ext x_390 (Ne.symm ne_8)
  have h_17 := h_17.ext x_390 (Ne.symm (py_ne_arr h_385 h_17))
  have h_41 := h_41.ext x_390 (Ne.symm ne_29)
  have h_42 := h_42.ext x_390 (py_ne_kind h_42 h_385 (by decide))
  have h_68 := h_68.ext x_390 (Ne.symm ne_55)
  have h_69 := h_69.ext x_390 (py_ne_kind h_69 h_385 (by decide))
  have h_125 := h_125.ext x_390 (Ne.symm ne_109)
  have h_126 := h_126.ext x_390 (py_ne_kind h_126 h_385 (by decide))
  have h_162 := h_162.ext x_390 (Ne.symm ne_144)
  have h_163 := h_163.ext x_390 (py_ne_kind h_163 h_385 (by decide))
  have h_201 := h_201.ext x_390 (Ne.symm ne_181)
  have h_202 := h_202.ext x_390 (py_ne_kind h_202 h_385 (by decide))
  have h_240 := h_240.ext x_390 (Ne.symm ne_220)
  have h_275 := h_275.ext x_390 (Ne.symm ne_254)
  have h_311 := h_311.ext x_390 (Ne.symm ne_289)
  refine lv_aload_n G.1 G.2.1 dX11_init_158 rfl (lv_at hl 0 rfl) ?_
  refine lv_iconst (v := 0) G.1 G.2.1 dX11_init_159 (by decide) ?_
  refine py_put (C := RX11) (T := TX11) (N := 16) (k := 15) (v := .int 0) (fs' := [.ref q_1, .ref q_22, .ref q_48, .ref q_75, .ref r_97, .ref q_102, .ref q_137, .ref q_174, .ref q_213, .ref q_247, .ref q_282, .ref q_317, .ref q_350, .int 0, .int (-1), .int 0]) (ty0 := tyX11) G hw tyX11_ok nmX11 in_X11_init_X11 rfl h_389 (by decide) (by decide +kernel) rfl rfl rfl rfl (Nat.le_of_ble_eq_true rfl) rfl dX11_init_160 (fun f_391 H_392 locs h_393 x_394 hw => ?_)
  have h_16 := h_16.ext x_394 (Ne.symm ne_8)
  have h_17 := h_17.ext x_394 (Ne.symm (py_ne_arr h_389 h_17))
  have h_41 := h_41.ext x_394 (Ne.symm ne_29)
  have h_42 := h_42.ext x_394 (py_ne_kind h_42 h_389 (by decide))
  have h_68 := h_68.ext x_394 (Ne.symm ne_55)
  have h_69 := h_69.ext x_394 (py_ne_kind h_69 h_389 (by decide))
  have h_125 := h_125.ext x_394 (Ne.symm ne_109)
  have h_126 := h_126.ext x_394 (py_ne_kind h_126 h_389 (by decide))
  have h_162 := h_162.ext x_394 (Ne.symm ne_144)
  have h_163 := h_163.ext x_394 (py_ne_kind h_163 h_389 (by decide))
  have h_201 := h_201.ext x_394 (Ne.symm ne_181)
  have h_202 := h_202.ext x_394 (py_ne_kind h_202 h_389 (by decide))
  have h_240 := h_240.ext x_394 (Ne.symm ne_220)
  have h_275 := h_275.ext x_394 (Ne.symm ne_254)
  have h_311 := h_311.ext x_394 (Ne.symm ne_289)
  refine W.widen (k := 96) (n := 2936) (Nat.le_of_ble_eq_true rfl) (Nat.le_of_ble_eq_true rfl) ?_
  have xt_395 : py_ext L f L_373 f_391 h := fun b hb hn => by
    have n1 : b ≠ q_1 := fun h => hq_5 (h ▸ hb)
    obtain ⟨m1, e1⟩ := x_7 b hb
    obtain ⟨m2, e2⟩ := x_14 b m1 n1
    obtain ⟨m3, e3⟩ := x_21 b m2 hn
    have n4 : b ≠ q_22 := fun h => hq_26 (h ▸ m3)
    obtain ⟨m4, e4⟩ := x_28 b m3
    obtain ⟨m5, e5⟩ := x_37 b m4 n4
    obtain ⟨m6, e6⟩ := x_47 b m5 hn
    have n7 : b ≠ q_48 := fun h => hq_52 (h ▸ m6)
    obtain ⟨m7, e7⟩ := x_54 b m6
    obtain ⟨m8, e8⟩ := x_65 b m7 n7
    obtain ⟨m9, e9⟩ := x_74 b m8 hn
    have n10 : b ≠ q_75 := fun h => hq_79 (h ▸ m9)
    obtain ⟨m10, e10⟩ := x_81 b m9
    obtain ⟨m11, e11⟩ := x_92 b m10 hn
    obtain ⟨m12, e12⟩ := hp_96 b m11
    obtain ⟨m13, e13⟩ := x_101 b m12 hn
    have n14 : b ≠ q_102 := fun h => hq_106 (h ▸ m13)
    obtain ⟨m14, e14⟩ := x_108 b m13
    obtain ⟨m15, e15⟩ := x_121 b m14 n14
    obtain ⟨m16, e16⟩ := x_136 b m15 hn
    have n17 : b ≠ q_137 := fun h => hq_141 (h ▸ m16)
    obtain ⟨m17, e17⟩ := x_143 b m16
    obtain ⟨m18, e18⟩ := x_158 b m17 n17
    obtain ⟨m19, e19⟩ := x_173 b m18 hn
    have n20 : b ≠ q_174 := fun h => hq_178 (h ▸ m19)
    obtain ⟨m20, e20⟩ := x_180 b m19
    obtain ⟨m21, e21⟩ := x_197 b m20 n20
    obtain ⟨m22, e22⟩ := x_212 b m21 hn
    have n23 : b ≠ q_213 := fun h => hq_217 (h ▸ m22)
    obtain ⟨m23, e23⟩ := x_219 b m22
    obtain ⟨m24, e24⟩ := x_238 b m23 n23
    obtain ⟨m25, e25⟩ := x_246 b m24 hn
    have n26 : b ≠ q_247 := fun h => hq_251 (h ▸ m25)
    obtain ⟨m26, e26⟩ := x_253 b m25
    obtain ⟨m27, e27⟩ := x_273 b m26 n26
    obtain ⟨m28, e28⟩ := x_281 b m27 hn
    have n29 : b ≠ q_282 := fun h => hq_286 (h ▸ m28)
    obtain ⟨m29, e29⟩ := x_288 b m28
    obtain ⟨m30, e30⟩ := x_309 b m29 n29
    obtain ⟨m31, e31⟩ := x_316 b m30 hn
    have n32 : b ≠ q_317 := fun h => hq_321 (h ▸ m31)
    obtain ⟨m32, e32⟩ := x_323 b m31
    obtain ⟨m33, e33⟩ := x_345 b m32 n32
    obtain ⟨m34, e34⟩ := x_349 b m33 hn
    have n35 : b ≠ q_350 := fun h => hq_354 (h ▸ m34)
    obtain ⟨m35, e35⟩ := x_356 b m34
    obtain ⟨m36, e36⟩ := x_378 b m35 n35
    obtain ⟨m37, e37⟩ := x_382 b m36 hn
    obtain ⟨m38, e38⟩ := x_386 b m37 hn
    obtain ⟨m39, e39⟩ := x_390 b m38 hn
    obtain ⟨m40, e40⟩ := x_394 b m39 hn
    exact ⟨m40, e40.trans (e39.trans (e38.trans (e37.trans (e36.trans (e35.trans (e34.trans (e33.trans (e32.trans (e31.trans (e30.trans (e29.trans (e28.trans (e27.trans (e26.trans (e25.trans (e24.trans (e23.trans (e22.trans (e21.trans (e20.trans (e19.trans (e18.trans (e17.trans (e16.trans (e15.trans (e14.trans (e13.trans (e12.trans (e11.trans (e10.trans (e9.trans (e8.trans (e7.trans (e6.trans (e5.trans (e4.trans (e3.trans (e2.trans (e1.trans (rfl))))))))))))))))))))))))))))))))))))))))⟩
  exact py_vret G hr hlk hw ⟨⟨q_1, byt_15, q_22, itm_38, dr_39, q_48, dl_66, q_75, r_97, q_102, va_123, q_137, q_174, q_213, q_247, q_282, q_317, q_350, _, _, _, _, _, _, _, _, h_393, h_16, h_17, h_41, h_42, hl_43, h_68, h_69, hl_70, h_125, hp_127, hp_128, hp_129, h_126, hp_130, hp_131, hp_132, h_240, hl_241, hp_242, h_275, hl_276, hp_277, h_311, hl_312⟩, xt_395⟩ dX11_init_163

def w_X12_init : List Cond := .code yX12_init cX12_init 1 none :: ([Cond.methodLink RX12 3 objectInit, Cond.instanceMethod objectInit, Cond.code objectInit ⟨#[0xb1]⟩ 1 none, Cond.arrayClass .int, Cond.fieldLink RX12 9 "HeadYearModel" "tape" "[I", Cond.fieldLink RX12 13 "HeadYearModel" "code" "[I", Cond.fieldLink RX12 16 "HeadYearModel" "value" "[I", Cond.fieldLink RX12 19 "HeadYearModel" "codes" "[I", Cond.fieldLink RX12 22 "HeadYearModel" "clauses" "[I", Cond.fieldLink RX12 25 "HeadYearModel" "testFrom" "[I", Cond.fieldLink RX12 28 "HeadYearModel" "sumFrom" "[I", Cond.fieldLink RX12 31 "HeadYearModel" "sumTo" "[I", Cond.fieldLink RX12 34 "HeadYearModel" "letters" "[I", Cond.fieldLink RX12 37 "HeadYearModel" "stack" "[I", Cond.fieldLink RX12 40 "HeadYearModel" "readLevel" "[I", Cond.fieldLink RX12 43 "HeadYearModel" "readFamily" "[I", Cond.fieldLink RX12 46 "HeadYearModel" "levelRow" "[I", Cond.fieldLink RX12 49 "HeadYearModel" "birth" "[I", Cond.fieldLink RX12 52 "HeadYearModel" "twin" "[I", Cond.fieldLink RX12 55 "HeadYearModel" "now" "[I", Cond.fieldLink RX12 58 "HeadYearModel" "aside" "[I", Cond.fieldLink RX12 61 "HeadYearModel" "image" "[I", Cond.fieldLink RX12 64 "HeadYearModel" "holding" "I", Cond.fieldLink RX12 68 "HeadYearModel" "find" "I", Cond.fieldLink RX12 71 "HeadYearModel" "price" "I", Cond.fieldLink RX12 74 "HeadYearModel" "lacks" "[I", Cond.fieldLink RX12 77 "HeadYearModel" "toLevel" "[I", Cond.fieldLink RX12 80 "HeadYearModel" "toHut" "[I", Cond.fieldLink RX12 83 "HeadYearModel" "diaryLevel" "[I", Cond.fieldLink RX12 86 "HeadYearModel" "diaryHeads" "[I", Cond.fieldLink RX12 89 "HeadYearModel" "buyer" "[I", Cond.fieldLink RX12 92 "HeadYearModel" "buyBy" "[I", Cond.fieldLink RX12 95 "HeadYearModel" "buyCost" "[I", Cond.fieldLink RX12 98 "HeadYearModel" "far" "[I", Cond.arrayClass .long, Cond.fieldLink RX12 101 "HeadYearModel" "parts" "[J", Cond.fieldLink RX12 105 "HeadYearModel" "then" "[J", Cond.fieldLink RX12 108 "HeadYearModel" "dying" "[J", Cond.fieldLink RX12 111 "HeadYearModel" "imageLevel" "[I", Cond.fieldLink RX12 114 "HeadYearModel" "imageHeads" "[I"] ++ (u_ws RX12 TX12 54 ++ ([])))
theorem in_X12_init_X12 : ∀ w ∈ u_ws RX12 TX12 54, w ∈ w_X12_init := fun _ h => List.mem_cons_of_mem _ (List.mem_append_right _ (List.mem_append_left _ h))
set_option maxHeartbeats 4000000 in
set_option maxRecDepth 100000 in
theorem c_X12_init (l : Launch) (E : py_E) (L : List Nat) (f : py_F) (sz : Nat) (h : Nat) (hh : py_at L f h (.inr (12, [.int 0, .null, .int 0, .int 0, .int 0, .int 0, .null, .null, .null, .null, .null, .null, .null, .int 0, .int 0, .null, .null, .null, .null, .int 0, .int 0, .null, .null, .null, .int 0, .int 0, .null, .null, .null, .int 0, .long 0, .int 0, .int 0, .int 0, .int 0, .null, .null, .null, .null, .null, .null, .null, .null, .int 0, .null, .null, .null, .null, .long 0, .null, .null, .int 0, .long 0, .int 0]))) : Met l yX12_init w_X12_init ({ frames := 1, cells := 32, slots := 8314, locals := 12 }) (py_Pc E [.ref h] L f sz) (py_Qv E L f sz (fun L1 f1 => fr_M E L1 f1 h ∧ py_ext L f L1 f1 h)) 32 8314 (va_A (va_pl L f) sz) := by
  refine Met.ofW (cc := cX12_init) (maxL := 1) (ret := none) (by decide) rfl ?_
  intro p e s m args below meth c s₁ B hml hv
  obtain ⟨rfl, rfl, hw⟩ := py_start hv
  have G : CallFix p m c cX12_init 1 s _ w_X12_init RX12 := ⟨B.exec, B.bytes, hml, findClass_of_methodNamed B.named, atoms_spec (ws := w_X12_init) B.pre⟩
  have hr := B.returns
  have hlk := B.notSynchronized
  have hin : meth.name = "<init>" := (name_of_methodNamed B.named B.method).1
  have hl := lv_entry ([.ref h]) (n := 1) (Nat.le_of_ble_eq_true rfl)
  rw [lg_entry_eq]
  generalize (lg_sl ([.ref h]) ++ List.replicate (1 - (lg_sl ([.ref h])).length) Slot.unset).toArray = ls at hl ⊢
  have hl : lv_has ls 1 [(0, .ref h)] := hl
  refine lv_aload_n G.1 G.2.1 dX12_init_0 rfl (lv_at hl 0 rfl) ?_
  refine py_objInit G hl.1 (by decide +kernel) (by decide +kernel) (by decide +kernel) dX12_init_1 (Nat.le_of_ble_eq_true rfl) (Nat.le_of_ble_eq_true rfl) ?_
  refine lv_aload_n G.1 G.2.1 dX12_init_4 rfl (lv_at hl 0 rfl) ?_
  refine lv_sipush (v := 160) G.1 G.2.1 dX12_init_5 (by decide) ?_
  refine py_newI (N := 160) G hw (by decide +kernel) (by decide) (by decide) (Nat.le_of_ble_eq_true rfl) (Nat.le_of_ble_eq_true rfl) (Nat.le_of_ble_eq_true rfl) dX12_init_8 (fun q_1 L_2 f_3 H_4 hq_5 h_6 x_7 hw => ?_)
  have ne_8 : h ≠ q_1 := py_ne_new hh hq_5
  have hh := hh.all x_7
  refine py_putF (C := RX12) (T := TX12) (N := 54) (k := 1) (v := .ref q_1) (fs' := [.int 0, .ref q_1, .int 0, .int 0, .int 0, .int 0, .null, .null, .null, .null, .null, .null, .null, .int 0, .int 0, .null, .null, .null, .null, .int 0, .int 0, .null, .null, .null, .int 0, .int 0, .null, .null, .null, .int 0, .long 0, .int 0, .int 0, .int 0, .int 0, .null, .null, .null, .null, .null, .null, .null, .null, .int 0, .null, .null, .null, .null, .long 0, .null, .null, .int 0, .long 0, .int 0]) (ty0 := tyX12) G hin hw tyX12_ok nmX12 in_X12_init_X12 rfl hh (by decide) (by decide +kernel) rfl rfl rfl rfl rfl (Nat.le_of_ble_eq_true rfl) rfl dX12_init_10 (fun f_9 H_10 locs h_11 x_12 hw => ?_)
  have h_6 := h_6.ext x_12 (Ne.symm ne_8)
  refine lv_aload_n G.1 G.2.1 dX12_init_13 rfl (lv_at hl 0 rfl) ?_
  refine lv_sipush (v := 1700) G.1 G.2.1 dX12_init_14 (by decide) ?_
  refine py_newI (N := 1700) G hw (by decide +kernel) (by decide) (by decide) (Nat.le_of_ble_eq_true rfl) (Nat.le_of_ble_eq_true rfl) (Nat.le_of_ble_eq_true rfl) dX12_init_17 (fun q_13 L_14 f_15 H_16 hq_17 h_18 x_19 hw => ?_)
  have ne_20 : h ≠ q_13 := py_ne_new h_11 hq_17
  have h_11 := h_11.all x_19
  have ne_21 : q_1 ≠ q_13 := py_ne_new h_6 hq_17
  have h_6 := h_6.all x_19
  refine py_putF (C := RX12) (T := TX12) (N := 54) (k := 6) (v := .ref q_13) (fs' := [.int 0, .ref q_1, .int 0, .int 0, .int 0, .int 0, .ref q_13, .null, .null, .null, .null, .null, .null, .int 0, .int 0, .null, .null, .null, .null, .int 0, .int 0, .null, .null, .null, .int 0, .int 0, .null, .null, .null, .int 0, .long 0, .int 0, .int 0, .int 0, .int 0, .null, .null, .null, .null, .null, .null, .null, .null, .int 0, .null, .null, .null, .null, .long 0, .null, .null, .int 0, .long 0, .int 0]) (ty0 := tyX12) G hin hw tyX12_ok nmX12 in_X12_init_X12 rfl h_11 (by decide) (by decide +kernel) rfl rfl rfl rfl rfl (Nat.le_of_ble_eq_true rfl) rfl dX12_init_19 (fun f_22 H_23 locs h_24 x_25 hw => ?_)
  have h_6 := h_6.ext x_25 (Ne.symm ne_8)
  refine lv_aload_n G.1 G.2.1 dX12_init_22 rfl (lv_at hl 0 rfl) ?_
  refine lv_sipush (v := 1700) G.1 G.2.1 dX12_init_23 (by decide) ?_
  refine py_newI (N := 1700) G hw (by decide +kernel) (by decide) (by decide) (Nat.le_of_ble_eq_true rfl) (Nat.le_of_ble_eq_true rfl) (Nat.le_of_ble_eq_true rfl) dX12_init_26 (fun q_26 L_27 f_28 H_29 hq_30 h_31 x_32 hw => ?_)
  have ne_33 : h ≠ q_26 := py_ne_new h_24 hq_30
  have h_24 := h_24.all x_32
  have ne_34 : q_1 ≠ q_26 := py_ne_new h_6 hq_30
  have h_6 := h_6.all x_32
  refine py_putF (C := RX12) (T := TX12) (N := 54) (k := 7) (v := .ref q_26) (fs' := [.int 0, .ref q_1, .int 0, .int 0, .int 0, .int 0, .ref q_13, .ref q_26, .null, .null, .null, .null, .null, .int 0, .int 0, .null, .null, .null, .null, .int 0, .int 0, .null, .null, .null, .int 0, .int 0, .null, .null, .null, .int 0, .long 0, .int 0, .int 0, .int 0, .int 0, .null, .null, .null, .null, .null, .null, .null, .null, .int 0, .null, .null, .null, .null, .long 0, .null, .null, .int 0, .long 0, .int 0]) (ty0 := tyX12) G hin hw tyX12_ok nmX12 in_X12_init_X12 rfl h_24 (by decide) (by decide +kernel) rfl rfl rfl rfl rfl (Nat.le_of_ble_eq_true rfl) rfl dX12_init_28 (fun f_35 H_36 locs h_37 x_38 hw => ?_)
  have h_6 := h_6.ext x_38 (Ne.symm ne_8)
  refine lv_aload_n G.1 G.2.1 dX12_init_31 rfl (lv_at hl 0 rfl) ?_
  refine lv_iconst (v := 5) G.1 G.2.1 dX12_init_32 (by decide) ?_
  refine py_newI (N := 5) G hw (by decide +kernel) (by decide) (by decide) (Nat.le_of_ble_eq_true rfl) (Nat.le_of_ble_eq_true rfl) (Nat.le_of_ble_eq_true rfl) dX12_init_33 (fun q_39 L_40 f_41 H_42 hq_43 h_44 x_45 hw => ?_)
  have ne_46 : h ≠ q_39 := py_ne_new h_37 hq_43
  have h_37 := h_37.all x_45
  have ne_47 : q_1 ≠ q_39 := py_ne_new h_6 hq_43
  have h_6 := h_6.all x_45
  refine py_putF (C := RX12) (T := TX12) (N := 54) (k := 8) (v := .ref q_39) (fs' := [.int 0, .ref q_1, .int 0, .int 0, .int 0, .int 0, .ref q_13, .ref q_26, .ref q_39, .null, .null, .null, .null, .int 0, .int 0, .null, .null, .null, .null, .int 0, .int 0, .null, .null, .null, .int 0, .int 0, .null, .null, .null, .int 0, .long 0, .int 0, .int 0, .int 0, .int 0, .null, .null, .null, .null, .null, .null, .null, .null, .int 0, .null, .null, .null, .null, .long 0, .null, .null, .int 0, .long 0, .int 0]) (ty0 := tyX12) G hin hw tyX12_ok nmX12 in_X12_init_X12 rfl h_37 (by decide) (by decide +kernel) rfl rfl rfl rfl rfl (Nat.le_of_ble_eq_true rfl) rfl dX12_init_35 (fun f_48 H_49 locs h_50 x_51 hw => ?_)
  have h_6 := h_6.ext x_51 (Ne.symm ne_8)
  have h_44 := h_44.ext x_51 (Ne.symm ne_46)
  refine lv_aload_n G.1 G.2.1 dX12_init_38 rfl (lv_at hl 0 rfl) ?_
  refine lv_iconst (v := 5) G.1 G.2.1 dX12_init_39 (by decide) ?_
  refine py_newI (N := 5) G hw (by decide +kernel) (by decide) (by decide) (Nat.le_of_ble_eq_true rfl) (Nat.le_of_ble_eq_true rfl) (Nat.le_of_ble_eq_true rfl) dX12_init_40 (fun q_52 L_53 f_54 H_55 hq_56 h_57 x_58 hw => ?_)
  have ne_59 : h ≠ q_52 := py_ne_new h_50 hq_56
  have h_50 := h_50.all x_58
  have ne_60 : q_1 ≠ q_52 := py_ne_new h_6 hq_56
  have h_6 := h_6.all x_58
  have ne_61 : q_39 ≠ q_52 := py_ne_new h_44 hq_56
  have h_44 := h_44.all x_58
  refine py_putF (C := RX12) (T := TX12) (N := 54) (k := 9) (v := .ref q_52) (fs' := [.int 0, .ref q_1, .int 0, .int 0, .int 0, .int 0, .ref q_13, .ref q_26, .ref q_39, .ref q_52, .null, .null, .null, .int 0, .int 0, .null, .null, .null, .null, .int 0, .int 0, .null, .null, .null, .int 0, .int 0, .null, .null, .null, .int 0, .long 0, .int 0, .int 0, .int 0, .int 0, .null, .null, .null, .null, .null, .null, .null, .null, .int 0, .null, .null, .null, .null, .long 0, .null, .null, .int 0, .long 0, .int 0]) (ty0 := tyX12) G hin hw tyX12_ok nmX12 in_X12_init_X12 rfl h_50 (by decide) (by decide +kernel) rfl rfl rfl rfl rfl (Nat.le_of_ble_eq_true rfl) rfl dX12_init_42 (fun f_62 H_63 locs h_64 x_65 hw => ?_)
  have h_6 := h_6.ext x_65 (Ne.symm ne_8)
  have h_44 := h_44.ext x_65 (Ne.symm ne_46)
  have h_57 := h_57.ext x_65 (Ne.symm ne_59)
  refine lv_aload_n G.1 G.2.1 dX12_init_45 rfl (lv_at hl 0 rfl) ?_
  refine lv_sipush (v := 450) G.1 G.2.1 dX12_init_46 (by decide) ?_
  refine py_newI (N := 450) G hw (by decide +kernel) (by decide) (by decide) (Nat.le_of_ble_eq_true rfl) (Nat.le_of_ble_eq_true rfl) (Nat.le_of_ble_eq_true rfl) dX12_init_49 (fun q_66 L_67 f_68 H_69 hq_70 h_71 x_72 hw => ?_)
  have ne_73 : h ≠ q_66 := py_ne_new h_64 hq_70
  have h_64 := h_64.all x_72
  have ne_74 : q_1 ≠ q_66 := py_ne_new h_6 hq_70
  have h_6 := h_6.all x_72
  have ne_75 : q_39 ≠ q_66 := py_ne_new h_44 hq_70
  have h_44 := h_44.all x_72
  have ne_76 : q_52 ≠ q_66 := py_ne_new h_57 hq_70
  have h_57 := h_57.all x_72
  refine py_putF (C := RX12) (T := TX12) (N := 54) (k := 10) (v := .ref q_66) (fs' := [.int 0, .ref q_1, .int 0, .int 0, .int 0, .int 0, .ref q_13, .ref q_26, .ref q_39, .ref q_52, .ref q_66, .null, .null, .int 0, .int 0, .null, .null, .null, .null, .int 0, .int 0, .null, .null, .null, .int 0, .int 0, .null, .null, .null, .int 0, .long 0, .int 0, .int 0, .int 0, .int 0, .null, .null, .null, .null, .null, .null, .null, .null, .int 0, .null, .null, .null, .null, .long 0, .null, .null, .int 0, .long 0, .int 0]) (ty0 := tyX12) G hin hw tyX12_ok nmX12 in_X12_init_X12 rfl h_64 (by decide) (by decide +kernel) rfl rfl rfl rfl rfl (Nat.le_of_ble_eq_true rfl) rfl dX12_init_51 (fun f_77 H_78 locs h_79 x_80 hw => ?_)
  have h_6 := h_6.ext x_80 (Ne.symm ne_8)
  have h_44 := h_44.ext x_80 (Ne.symm ne_46)
  have h_57 := h_57.ext x_80 (Ne.symm ne_59)
  refine lv_aload_n G.1 G.2.1 dX12_init_54 rfl (lv_at hl 0 rfl) ?_
  refine lv_sipush (v := 450) G.1 G.2.1 dX12_init_55 (by decide) ?_
  refine py_newI (N := 450) G hw (by decide +kernel) (by decide) (by decide) (Nat.le_of_ble_eq_true rfl) (Nat.le_of_ble_eq_true rfl) (Nat.le_of_ble_eq_true rfl) dX12_init_58 (fun q_81 L_82 f_83 H_84 hq_85 h_86 x_87 hw => ?_)
  have ne_88 : h ≠ q_81 := py_ne_new h_79 hq_85
  have h_79 := h_79.all x_87
  have ne_89 : q_1 ≠ q_81 := py_ne_new h_6 hq_85
  have h_6 := h_6.all x_87
  have ne_90 : q_39 ≠ q_81 := py_ne_new h_44 hq_85
  have h_44 := h_44.all x_87
  have ne_91 : q_52 ≠ q_81 := py_ne_new h_57 hq_85
  have h_57 := h_57.all x_87
  refine py_putF (C := RX12) (T := TX12) (N := 54) (k := 11) (v := .ref q_81) (fs' := [.int 0, .ref q_1, .int 0, .int 0, .int 0, .int 0, .ref q_13, .ref q_26, .ref q_39, .ref q_52, .ref q_66, .ref q_81, .null, .int 0, .int 0, .null, .null, .null, .null, .int 0, .int 0, .null, .null, .null, .int 0, .int 0, .null, .null, .null, .int 0, .long 0, .int 0, .int 0, .int 0, .int 0, .null, .null, .null, .null, .null, .null, .null, .null, .int 0, .null, .null, .null, .null, .long 0, .null, .null, .int 0, .long 0, .int 0]) (ty0 := tyX12) G hin hw tyX12_ok nmX12 in_X12_init_X12 rfl h_79 (by decide) (by decide +kernel) rfl rfl rfl rfl rfl (Nat.le_of_ble_eq_true rfl) rfl dX12_init_60 (fun f_92 H_93 locs h_94 x_95 hw => ?_)
  have h_6 := h_6.ext x_95 (Ne.symm ne_8)
  have h_44 := h_44.ext x_95 (Ne.symm ne_46)
  have h_57 := h_57.ext x_95 (Ne.symm ne_59)
  refine lv_aload_n G.1 G.2.1 dX12_init_63 rfl (lv_at hl 0 rfl) ?_
  refine lv_sipush (v := 450) G.1 G.2.1 dX12_init_64 (by decide) ?_
  refine py_newI (N := 450) G hw (by decide +kernel) (by decide) (by decide) (Nat.le_of_ble_eq_true rfl) (Nat.le_of_ble_eq_true rfl) (Nat.le_of_ble_eq_true rfl) dX12_init_67 (fun q_96 L_97 f_98 H_99 hq_100 h_101 x_102 hw => ?_)
  have ne_103 : h ≠ q_96 := py_ne_new h_94 hq_100
  have h_94 := h_94.all x_102
  have ne_104 : q_1 ≠ q_96 := py_ne_new h_6 hq_100
  have h_6 := h_6.all x_102
  have ne_105 : q_39 ≠ q_96 := py_ne_new h_44 hq_100
  have h_44 := h_44.all x_102
  have ne_106 : q_52 ≠ q_96 := py_ne_new h_57 hq_100
  have h_57 := h_57.all x_102
  refine py_putF (C := RX12) (T := TX12) (N := 54) (k := 12) (v := .ref q_96) (fs' := [.int 0, .ref q_1, .int 0, .int 0, .int 0, .int 0, .ref q_13, .ref q_26, .ref q_39, .ref q_52, .ref q_66, .ref q_81, .ref q_96, .int 0, .int 0, .null, .null, .null, .null, .int 0, .int 0, .null, .null, .null, .int 0, .int 0, .null, .null, .null, .int 0, .long 0, .int 0, .int 0, .int 0, .int 0, .null, .null, .null, .null, .null, .null, .null, .null, .int 0, .null, .null, .null, .null, .long 0, .null, .null, .int 0, .long 0, .int 0]) (ty0 := tyX12) G hin hw tyX12_ok nmX12 in_X12_init_X12 rfl h_94 (by decide) (by decide +kernel) rfl rfl rfl rfl rfl (Nat.le_of_ble_eq_true rfl) rfl dX12_init_69 (fun f_107 H_108 locs h_109 x_110 hw => ?_)
  have h_6 := h_6.ext x_110 (Ne.symm ne_8)
  have h_44 := h_44.ext x_110 (Ne.symm ne_46)
  have h_57 := h_57.ext x_110 (Ne.symm ne_59)
  refine lv_aload_n G.1 G.2.1 dX12_init_72 rfl (lv_at hl 0 rfl) ?_
  refine lv_bipush (v := 6) G.1 G.2.1 dX12_init_73 (by decide) ?_
  refine py_newI (N := 6) G hw (by decide +kernel) (by decide) (by decide) (Nat.le_of_ble_eq_true rfl) (Nat.le_of_ble_eq_true rfl) (Nat.le_of_ble_eq_true rfl) dX12_init_75 (fun q_111 L_112 f_113 H_114 hq_115 h_116 x_117 hw => ?_)
  have ne_118 : h ≠ q_111 := py_ne_new h_109 hq_115
  have h_109 := h_109.all x_117
  have ne_119 : q_1 ≠ q_111 := py_ne_new h_6 hq_115
  have h_6 := h_6.all x_117
  have ne_120 : q_39 ≠ q_111 := py_ne_new h_44 hq_115
  have h_44 := h_44.all x_117
  have ne_121 : q_52 ≠ q_111 := py_ne_new h_57 hq_115
  have h_57 := h_57.all x_117
  refine py_putF (C := RX12) (T := TX12) (N := 54) (k := 15) (v := .ref q_111) (fs' := [.int 0, .ref q_1, .int 0, .int 0, .int 0, .int 0, .ref q_13, .ref q_26, .ref q_39, .ref q_52, .ref q_66, .ref q_81, .ref q_96, .int 0, .int 0, .ref q_111, .null, .null, .null, .int 0, .int 0, .null, .null, .null, .int 0, .int 0, .null, .null, .null, .int 0, .long 0, .int 0, .int 0, .int 0, .int 0, .null, .null, .null, .null, .null, .null, .null, .null, .int 0, .null, .null, .null, .null, .long 0, .null, .null, .int 0, .long 0, .int 0]) (ty0 := tyX12) G hin hw tyX12_ok nmX12 in_X12_init_X12 rfl h_109 (by decide) (by decide +kernel) rfl rfl rfl rfl rfl (Nat.le_of_ble_eq_true rfl) rfl dX12_init_77 (fun f_122 H_123 locs h_124 x_125 hw => ?_)
  have h_6 := h_6.ext x_125 (Ne.symm ne_8)
  have h_44 := h_44.ext x_125 (Ne.symm ne_46)
  have h_57 := h_57.ext x_125 (Ne.symm ne_59)
  refine lv_aload_n G.1 G.2.1 dX12_init_80 rfl (lv_at hl 0 rfl) ?_
  refine lv_bipush (v := 80) G.1 G.2.1 dX12_init_81 (by decide) ?_
  refine py_newI (N := 80) G hw (by decide +kernel) (by decide) (by decide) (Nat.le_of_ble_eq_true rfl) (Nat.le_of_ble_eq_true rfl) (Nat.le_of_ble_eq_true rfl) dX12_init_83 (fun q_126 L_127 f_128 H_129 hq_130 h_131 x_132 hw => ?_)
  have ne_133 : h ≠ q_126 := py_ne_new h_124 hq_130
  have h_124 := h_124.all x_132
  have ne_134 : q_1 ≠ q_126 := py_ne_new h_6 hq_130
  have h_6 := h_6.all x_132
  have ne_135 : q_39 ≠ q_126 := py_ne_new h_44 hq_130
  have h_44 := h_44.all x_132
  have ne_136 : q_52 ≠ q_126 := py_ne_new h_57 hq_130
  have h_57 := h_57.all x_132
  refine py_putF (C := RX12) (T := TX12) (N := 54) (k := 16) (v := .ref q_126) (fs' := [.int 0, .ref q_1, .int 0, .int 0, .int 0, .int 0, .ref q_13, .ref q_26, .ref q_39, .ref q_52, .ref q_66, .ref q_81, .ref q_96, .int 0, .int 0, .ref q_111, .ref q_126, .null, .null, .int 0, .int 0, .null, .null, .null, .int 0, .int 0, .null, .null, .null, .int 0, .long 0, .int 0, .int 0, .int 0, .int 0, .null, .null, .null, .null, .null, .null, .null, .null, .int 0, .null, .null, .null, .null, .long 0, .null, .null, .int 0, .long 0, .int 0]) (ty0 := tyX12) G hin hw tyX12_ok nmX12 in_X12_init_X12 rfl h_124 (by decide) (by decide +kernel) rfl rfl rfl rfl rfl (Nat.le_of_ble_eq_true rfl) rfl dX12_init_85 (fun f_137 H_138 locs h_139 x_140 hw => ?_)
  have h_6 := h_6.ext x_140 (Ne.symm ne_8)
  have h_44 := h_44.ext x_140 (Ne.symm ne_46)
  have h_57 := h_57.ext x_140 (Ne.symm ne_59)
  refine lv_aload_n G.1 G.2.1 dX12_init_88 rfl (lv_at hl 0 rfl) ?_
  refine lv_bipush (v := 32) G.1 G.2.1 dX12_init_89 (by decide) ?_
  refine py_newI (N := 32) G hw (by decide +kernel) (by decide) (by decide) (Nat.le_of_ble_eq_true rfl) (Nat.le_of_ble_eq_true rfl) (Nat.le_of_ble_eq_true rfl) dX12_init_91 (fun q_141 L_142 f_143 H_144 hq_145 h_146 x_147 hw => ?_)
  have ne_148 : h ≠ q_141 := py_ne_new h_139 hq_145
  have h_139 := h_139.all x_147
  have ne_149 : q_1 ≠ q_141 := py_ne_new h_6 hq_145
  have h_6 := h_6.all x_147
  have ne_150 : q_39 ≠ q_141 := py_ne_new h_44 hq_145
  have h_44 := h_44.all x_147
  have ne_151 : q_52 ≠ q_141 := py_ne_new h_57 hq_145
  have h_57 := h_57.all x_147
  refine py_putF (C := RX12) (T := TX12) (N := 54) (k := 17) (v := .ref q_141) (fs' := [.int 0, .ref q_1, .int 0, .int 0, .int 0, .int 0, .ref q_13, .ref q_26, .ref q_39, .ref q_52, .ref q_66, .ref q_81, .ref q_96, .int 0, .int 0, .ref q_111, .ref q_126, .ref q_141, .null, .int 0, .int 0, .null, .null, .null, .int 0, .int 0, .null, .null, .null, .int 0, .long 0, .int 0, .int 0, .int 0, .int 0, .null, .null, .null, .null, .null, .null, .null, .null, .int 0, .null, .null, .null, .null, .long 0, .null, .null, .int 0, .long 0, .int 0]) (ty0 := tyX12) G hin hw tyX12_ok nmX12 in_X12_init_X12 rfl h_139 (by decide) (by decide +kernel) rfl rfl rfl rfl rfl (Nat.le_of_ble_eq_true rfl) rfl dX12_init_93 (fun f_152 H_153 locs h_154 x_155 hw => ?_)
  have h_6 := h_6.ext x_155 (Ne.symm ne_8)
  have h_44 := h_44.ext x_155 (Ne.symm ne_46)
  have h_57 := h_57.ext x_155 (Ne.symm ne_59)
  refine lv_aload_n G.1 G.2.1 dX12_init_96 rfl (lv_at hl 0 rfl) ?_
  refine lv_bipush (v := 40) G.1 G.2.1 dX12_init_97 (by decide) ?_
  refine py_newI (N := 40) G hw (by decide +kernel) (by decide) (by decide) (Nat.le_of_ble_eq_true rfl) (Nat.le_of_ble_eq_true rfl) (Nat.le_of_ble_eq_true rfl) dX12_init_99 (fun q_156 L_157 f_158 H_159 hq_160 h_161 x_162 hw => ?_)
  have ne_163 : h ≠ q_156 := py_ne_new h_154 hq_160
  have h_154 := h_154.all x_162
  have ne_164 : q_1 ≠ q_156 := py_ne_new h_6 hq_160
  have h_6 := h_6.all x_162
  have ne_165 : q_39 ≠ q_156 := py_ne_new h_44 hq_160
  have h_44 := h_44.all x_162
  have ne_166 : q_52 ≠ q_156 := py_ne_new h_57 hq_160
  have h_57 := h_57.all x_162
  refine py_putF (C := RX12) (T := TX12) (N := 54) (k := 18) (v := .ref q_156) (fs' := [.int 0, .ref q_1, .int 0, .int 0, .int 0, .int 0, .ref q_13, .ref q_26, .ref q_39, .ref q_52, .ref q_66, .ref q_81, .ref q_96, .int 0, .int 0, .ref q_111, .ref q_126, .ref q_141, .ref q_156, .int 0, .int 0, .null, .null, .null, .int 0, .int 0, .null, .null, .null, .int 0, .long 0, .int 0, .int 0, .int 0, .int 0, .null, .null, .null, .null, .null, .null, .null, .null, .int 0, .null, .null, .null, .null, .long 0, .null, .null, .int 0, .long 0, .int 0]) (ty0 := tyX12) G hin hw tyX12_ok nmX12 in_X12_init_X12 rfl h_154 (by decide) (by decide +kernel) rfl rfl rfl rfl rfl (Nat.le_of_ble_eq_true rfl) rfl dX12_init_101 (fun f_167 H_168 locs h_169 x_170 hw => ?_)
  have h_6 := h_6.ext x_170 (Ne.symm ne_8)
  have h_44 := h_44.ext x_170 (Ne.symm ne_46)
  have h_57 := h_57.ext x_170 (Ne.symm ne_59)
  refine lv_aload_n G.1 G.2.1 dX12_init_104 rfl (lv_at hl 0 rfl) ?_
  refine lv_bipush (v := 32) G.1 G.2.1 dX12_init_105 (by decide) ?_
  refine py_newI (N := 32) G hw (by decide +kernel) (by decide) (by decide) (Nat.le_of_ble_eq_true rfl) (Nat.le_of_ble_eq_true rfl) (Nat.le_of_ble_eq_true rfl) dX12_init_107 (fun q_171 L_172 f_173 H_174 hq_175 h_176 x_177 hw => ?_)
  have ne_178 : h ≠ q_171 := py_ne_new h_169 hq_175
  have h_169 := h_169.all x_177
  have ne_179 : q_1 ≠ q_171 := py_ne_new h_6 hq_175
  have h_6 := h_6.all x_177
  have ne_180 : q_39 ≠ q_171 := py_ne_new h_44 hq_175
  have h_44 := h_44.all x_177
  have ne_181 : q_52 ≠ q_171 := py_ne_new h_57 hq_175
  have h_57 := h_57.all x_177
  refine py_putF (C := RX12) (T := TX12) (N := 54) (k := 21) (v := .ref q_171) (fs' := [.int 0, .ref q_1, .int 0, .int 0, .int 0, .int 0, .ref q_13, .ref q_26, .ref q_39, .ref q_52, .ref q_66, .ref q_81, .ref q_96, .int 0, .int 0, .ref q_111, .ref q_126, .ref q_141, .ref q_156, .int 0, .int 0, .ref q_171, .null, .null, .int 0, .int 0, .null, .null, .null, .int 0, .long 0, .int 0, .int 0, .int 0, .int 0, .null, .null, .null, .null, .null, .null, .null, .null, .int 0, .null, .null, .null, .null, .long 0, .null, .null, .int 0, .long 0, .int 0]) (ty0 := tyX12) G hin hw tyX12_ok nmX12 in_X12_init_X12 rfl h_169 (by decide) (by decide +kernel) rfl rfl rfl rfl rfl (Nat.le_of_ble_eq_true rfl) rfl dX12_init_109 (fun f_182 H_183 locs h_184 x_185 hw => ?_)
  have h_6 := h_6.ext x_185 (Ne.symm ne_8)
  have h_44 := h_44.ext x_185 (Ne.symm ne_46)
  have h_57 := h_57.ext x_185 (Ne.symm ne_59)
  refine lv_aload_n G.1 G.2.1 dX12_init_112 rfl (lv_at hl 0 rfl) ?_
  refine lv_bipush (v := 10) G.1 G.2.1 dX12_init_113 (by decide) ?_
  refine py_newI (N := 10) G hw (by decide +kernel) (by decide) (by decide) (Nat.le_of_ble_eq_true rfl) (Nat.le_of_ble_eq_true rfl) (Nat.le_of_ble_eq_true rfl) dX12_init_115 (fun q_186 L_187 f_188 H_189 hq_190 h_191 x_192 hw => ?_)
  have ne_193 : h ≠ q_186 := py_ne_new h_184 hq_190
  have h_184 := h_184.all x_192
  have ne_194 : q_1 ≠ q_186 := py_ne_new h_6 hq_190
  have h_6 := h_6.all x_192
  have ne_195 : q_39 ≠ q_186 := py_ne_new h_44 hq_190
  have h_44 := h_44.all x_192
  have ne_196 : q_52 ≠ q_186 := py_ne_new h_57 hq_190
  have h_57 := h_57.all x_192
  refine py_putF (C := RX12) (T := TX12) (N := 54) (k := 22) (v := .ref q_186) (fs' := [.int 0, .ref q_1, .int 0, .int 0, .int 0, .int 0, .ref q_13, .ref q_26, .ref q_39, .ref q_52, .ref q_66, .ref q_81, .ref q_96, .int 0, .int 0, .ref q_111, .ref q_126, .ref q_141, .ref q_156, .int 0, .int 0, .ref q_171, .ref q_186, .null, .int 0, .int 0, .null, .null, .null, .int 0, .long 0, .int 0, .int 0, .int 0, .int 0, .null, .null, .null, .null, .null, .null, .null, .null, .int 0, .null, .null, .null, .null, .long 0, .null, .null, .int 0, .long 0, .int 0]) (ty0 := tyX12) G hin hw tyX12_ok nmX12 in_X12_init_X12 rfl h_184 (by decide) (by decide +kernel) rfl rfl rfl rfl rfl (Nat.le_of_ble_eq_true rfl) rfl dX12_init_117 (fun f_197 H_198 locs h_199 x_200 hw => ?_)
  have h_6 := h_6.ext x_200 (Ne.symm ne_8)
  have h_44 := h_44.ext x_200 (Ne.symm ne_46)
  have h_57 := h_57.ext x_200 (Ne.symm ne_59)
  refine lv_aload_n G.1 G.2.1 dX12_init_120 rfl (lv_at hl 0 rfl) ?_
  refine lv_bipush (v := 10) G.1 G.2.1 dX12_init_121 (by decide) ?_
  refine py_newI (N := 10) G hw (by decide +kernel) (by decide) (by decide) (Nat.le_of_ble_eq_true rfl) (Nat.le_of_ble_eq_true rfl) (Nat.le_of_ble_eq_true rfl) dX12_init_123 (fun q_201 L_202 f_203 H_204 hq_205 h_206 x_207 hw => ?_)
  have ne_208 : h ≠ q_201 := py_ne_new h_199 hq_205
  have h_199 := h_199.all x_207
  have ne_209 : q_1 ≠ q_201 := py_ne_new h_6 hq_205
  have h_6 := h_6.all x_207
  have ne_210 : q_39 ≠ q_201 := py_ne_new h_44 hq_205
  have h_44 := h_44.all x_207
  have ne_211 : q_52 ≠ q_201 := py_ne_new h_57 hq_205
  have h_57 := h_57.all x_207
  refine py_putF (C := RX12) (T := TX12) (N := 54) (k := 23) (v := .ref q_201) (fs' := [.int 0, .ref q_1, .int 0, .int 0, .int 0, .int 0, .ref q_13, .ref q_26, .ref q_39, .ref q_52, .ref q_66, .ref q_81, .ref q_96, .int 0, .int 0, .ref q_111, .ref q_126, .ref q_141, .ref q_156, .int 0, .int 0, .ref q_171, .ref q_186, .ref q_201, .int 0, .int 0, .null, .null, .null, .int 0, .long 0, .int 0, .int 0, .int 0, .int 0, .null, .null, .null, .null, .null, .null, .null, .null, .int 0, .null, .null, .null, .null, .long 0, .null, .null, .int 0, .long 0, .int 0]) (ty0 := tyX12) G hin hw tyX12_ok nmX12 in_X12_init_X12 rfl h_199 (by decide) (by decide +kernel) rfl rfl rfl rfl rfl (Nat.le_of_ble_eq_true rfl) rfl dX12_init_125 (fun f_212 H_213 locs h_214 x_215 hw => ?_)
  have h_6 := h_6.ext x_215 (Ne.symm ne_8)
  have h_44 := h_44.ext x_215 (Ne.symm ne_46)
  have h_57 := h_57.ext x_215 (Ne.symm ne_59)
  refine lv_aload_n G.1 G.2.1 dX12_init_128 rfl (lv_at hl 0 rfl) ?_
  refine lv_bipush (v := 90) G.1 G.2.1 dX12_init_129 (by decide) ?_
  refine py_newI (N := 90) G hw (by decide +kernel) (by decide) (by decide) (Nat.le_of_ble_eq_true rfl) (Nat.le_of_ble_eq_true rfl) (Nat.le_of_ble_eq_true rfl) dX12_init_131 (fun q_216 L_217 f_218 H_219 hq_220 h_221 x_222 hw => ?_)
  have ne_223 : h ≠ q_216 := py_ne_new h_214 hq_220
  have h_214 := h_214.all x_222
  have ne_224 : q_1 ≠ q_216 := py_ne_new h_6 hq_220
  have h_6 := h_6.all x_222
  have ne_225 : q_39 ≠ q_216 := py_ne_new h_44 hq_220
  have h_44 := h_44.all x_222
  have ne_226 : q_52 ≠ q_216 := py_ne_new h_57 hq_220
  have h_57 := h_57.all x_222
  refine py_putF (C := RX12) (T := TX12) (N := 54) (k := 26) (v := .ref q_216) (fs' := [.int 0, .ref q_1, .int 0, .int 0, .int 0, .int 0, .ref q_13, .ref q_26, .ref q_39, .ref q_52, .ref q_66, .ref q_81, .ref q_96, .int 0, .int 0, .ref q_111, .ref q_126, .ref q_141, .ref q_156, .int 0, .int 0, .ref q_171, .ref q_186, .ref q_201, .int 0, .int 0, .ref q_216, .null, .null, .int 0, .long 0, .int 0, .int 0, .int 0, .int 0, .null, .null, .null, .null, .null, .null, .null, .null, .int 0, .null, .null, .null, .null, .long 0, .null, .null, .int 0, .long 0, .int 0]) (ty0 := tyX12) G hin hw tyX12_ok nmX12 in_X12_init_X12 rfl h_214 (by decide) (by decide +kernel) rfl rfl rfl rfl rfl (Nat.le_of_ble_eq_true rfl) rfl dX12_init_133 (fun f_227 H_228 locs h_229 x_230 hw => ?_)
  have h_6 := h_6.ext x_230 (Ne.symm ne_8)
  have h_44 := h_44.ext x_230 (Ne.symm ne_46)
  have h_57 := h_57.ext x_230 (Ne.symm ne_59)
  refine lv_aload_n G.1 G.2.1 dX12_init_136 rfl (lv_at hl 0 rfl) ?_
  refine lv_bipush (v := 90) G.1 G.2.1 dX12_init_137 (by decide) ?_
  refine py_newI (N := 90) G hw (by decide +kernel) (by decide) (by decide) (Nat.le_of_ble_eq_true rfl) (Nat.le_of_ble_eq_true rfl) (Nat.le_of_ble_eq_true rfl) dX12_init_139 (fun q_231 L_232 f_233 H_234 hq_235 h_236 x_237 hw => ?_)
  have ne_238 : h ≠ q_231 := py_ne_new h_229 hq_235
  have h_229 := h_229.all x_237
  have ne_239 : q_1 ≠ q_231 := py_ne_new h_6 hq_235
  have h_6 := h_6.all x_237
  have ne_240 : q_39 ≠ q_231 := py_ne_new h_44 hq_235
  have h_44 := h_44.all x_237
  have ne_241 : q_52 ≠ q_231 := py_ne_new h_57 hq_235
  have h_57 := h_57.all x_237
  refine py_putF (C := RX12) (T := TX12) (N := 54) (k := 27) (v := .ref q_231) (fs' := [.int 0, .ref q_1, .int 0, .int 0, .int 0, .int 0, .ref q_13, .ref q_26, .ref q_39, .ref q_52, .ref q_66, .ref q_81, .ref q_96, .int 0, .int 0, .ref q_111, .ref q_126, .ref q_141, .ref q_156, .int 0, .int 0, .ref q_171, .ref q_186, .ref q_201, .int 0, .int 0, .ref q_216, .ref q_231, .null, .int 0, .long 0, .int 0, .int 0, .int 0, .int 0, .null, .null, .null, .null, .null, .null, .null, .null, .int 0, .null, .null, .null, .null, .long 0, .null, .null, .int 0, .long 0, .int 0]) (ty0 := tyX12) G hin hw tyX12_ok nmX12 in_X12_init_X12 rfl h_229 (by decide) (by decide +kernel) rfl rfl rfl rfl rfl (Nat.le_of_ble_eq_true rfl) rfl dX12_init_141 (fun f_242 H_243 locs h_244 x_245 hw => ?_)
  have h_6 := h_6.ext x_245 (Ne.symm ne_8)
  have h_44 := h_44.ext x_245 (Ne.symm ne_46)
  have h_57 := h_57.ext x_245 (Ne.symm ne_59)
  refine lv_aload_n G.1 G.2.1 dX12_init_144 rfl (lv_at hl 0 rfl) ?_
  refine lv_bipush (v := 90) G.1 G.2.1 dX12_init_145 (by decide) ?_
  refine py_newI (N := 90) G hw (by decide +kernel) (by decide) (by decide) (Nat.le_of_ble_eq_true rfl) (Nat.le_of_ble_eq_true rfl) (Nat.le_of_ble_eq_true rfl) dX12_init_147 (fun q_246 L_247 f_248 H_249 hq_250 h_251 x_252 hw => ?_)
  have ne_253 : h ≠ q_246 := py_ne_new h_244 hq_250
  have h_244 := h_244.all x_252
  have ne_254 : q_1 ≠ q_246 := py_ne_new h_6 hq_250
  have h_6 := h_6.all x_252
  have ne_255 : q_39 ≠ q_246 := py_ne_new h_44 hq_250
  have h_44 := h_44.all x_252
  have ne_256 : q_52 ≠ q_246 := py_ne_new h_57 hq_250
  have h_57 := h_57.all x_252
  refine py_putF (C := RX12) (T := TX12) (N := 54) (k := 28) (v := .ref q_246) (fs' := [.int 0, .ref q_1, .int 0, .int 0, .int 0, .int 0, .ref q_13, .ref q_26, .ref q_39, .ref q_52, .ref q_66, .ref q_81, .ref q_96, .int 0, .int 0, .ref q_111, .ref q_126, .ref q_141, .ref q_156, .int 0, .int 0, .ref q_171, .ref q_186, .ref q_201, .int 0, .int 0, .ref q_216, .ref q_231, .ref q_246, .int 0, .long 0, .int 0, .int 0, .int 0, .int 0, .null, .null, .null, .null, .null, .null, .null, .null, .int 0, .null, .null, .null, .null, .long 0, .null, .null, .int 0, .long 0, .int 0]) (ty0 := tyX12) G hin hw tyX12_ok nmX12 in_X12_init_X12 rfl h_244 (by decide) (by decide +kernel) rfl rfl rfl rfl rfl (Nat.le_of_ble_eq_true rfl) rfl dX12_init_149 (fun f_257 H_258 locs h_259 x_260 hw => ?_)
  have h_6 := h_6.ext x_260 (Ne.symm ne_8)
  have h_44 := h_44.ext x_260 (Ne.symm ne_46)
  have h_57 := h_57.ext x_260 (Ne.symm ne_59)
  refine lv_aload_n G.1 G.2.1 dX12_init_152 rfl (lv_at hl 0 rfl) ?_
  refine lv_iconst (v := (-1)) G.1 G.2.1 dX12_init_153 (by decide) ?_
  refine py_put (C := RX12) (T := TX12) (N := 54) (k := 31) (v := .int (-1)) (fs' := [.int 0, .ref q_1, .int 0, .int 0, .int 0, .int 0, .ref q_13, .ref q_26, .ref q_39, .ref q_52, .ref q_66, .ref q_81, .ref q_96, .int 0, .int 0, .ref q_111, .ref q_126, .ref q_141, .ref q_156, .int 0, .int 0, .ref q_171, .ref q_186, .ref q_201, .int 0, .int 0, .ref q_216, .ref q_231, .ref q_246, .int 0, .long 0, .int (-1), .int 0, .int 0, .int 0, .null, .null, .null, .null, .null, .null, .null, .null, .int 0, .null, .null, .null, .null, .long 0, .null, .null, .int 0, .long 0, .int 0]) (ty0 := tyX12) G hw tyX12_ok nmX12 in_X12_init_X12 rfl h_259 (by decide) (by decide +kernel) rfl rfl rfl rfl (Nat.le_of_ble_eq_true rfl) rfl dX12_init_154 (fun f_261 H_262 locs h_263 x_264 hw => ?_)
  have h_6 := h_6.ext x_264 (Ne.symm ne_8)
  have h_44 := h_44.ext x_264 (Ne.symm ne_46)
  have h_57 := h_57.ext x_264 (Ne.symm ne_59)
  refine lv_aload_n G.1 G.2.1 dX12_init_157 rfl (lv_at hl 0 rfl) ?_
  refine lv_bipush (v := 50) G.1 G.2.1 dX12_init_158 (by decide) ?_
  refine py_put (C := RX12) (T := TX12) (N := 54) (k := 32) (v := .int 50) (fs' := [.int 0, .ref q_1, .int 0, .int 0, .int 0, .int 0, .ref q_13, .ref q_26, .ref q_39, .ref q_52, .ref q_66, .ref q_81, .ref q_96, .int 0, .int 0, .ref q_111, .ref q_126, .ref q_141, .ref q_156, .int 0, .int 0, .ref q_171, .ref q_186, .ref q_201, .int 0, .int 0, .ref q_216, .ref q_231, .ref q_246, .int 0, .long 0, .int (-1), .int 50, .int 0, .int 0, .null, .null, .null, .null, .null, .null, .null, .null, .int 0, .null, .null, .null, .null, .long 0, .null, .null, .int 0, .long 0, .int 0]) (ty0 := tyX12) G hw tyX12_ok nmX12 in_X12_init_X12 rfl h_263 (by decide) (by decide +kernel) rfl rfl rfl rfl (Nat.le_of_ble_eq_true rfl) rfl dX12_init_160 (fun f_265 H_266 locs h_267 x_268 hw => ?_)
  have h_6 := h_6.ext x_268 (Ne.symm ne_8)
  have h_44 := h_44.ext x_268 (Ne.symm ne_46)
  have h_57 := h_57.ext x_268 (Ne.symm ne_59)
  refine lv_aload_n G.1 G.2.1 dX12_init_163 rfl (lv_at hl 0 rfl) ?_
  refine lv_bipush (v := 10) G.1 G.2.1 dX12_init_164 (by decide) ?_
  refine py_put (C := RX12) (T := TX12) (N := 54) (k := 34) (v := .int 10) (fs' := [.int 0, .ref q_1, .int 0, .int 0, .int 0, .int 0, .ref q_13, .ref q_26, .ref q_39, .ref q_52, .ref q_66, .ref q_81, .ref q_96, .int 0, .int 0, .ref q_111, .ref q_126, .ref q_141, .ref q_156, .int 0, .int 0, .ref q_171, .ref q_186, .ref q_201, .int 0, .int 0, .ref q_216, .ref q_231, .ref q_246, .int 0, .long 0, .int (-1), .int 50, .int 0, .int 10, .null, .null, .null, .null, .null, .null, .null, .null, .int 0, .null, .null, .null, .null, .long 0, .null, .null, .int 0, .long 0, .int 0]) (ty0 := tyX12) G hw tyX12_ok nmX12 in_X12_init_X12 rfl h_267 (by decide) (by decide +kernel) rfl rfl rfl rfl (Nat.le_of_ble_eq_true rfl) rfl dX12_init_166 (fun f_269 H_270 locs h_271 x_272 hw => ?_)
  have h_6 := h_6.ext x_272 (Ne.symm ne_8)
  have h_44 := h_44.ext x_272 (Ne.symm ne_46)
  have h_57 := h_57.ext x_272 (Ne.symm ne_59)
  refine lv_aload_n G.1 G.2.1 dX12_init_169 rfl (lv_at hl 0 rfl) ?_
  refine lv_bipush (v := 8) G.1 G.2.1 dX12_init_170 (by decide) ?_
  refine py_newI (N := 8) G hw (by decide +kernel) (by decide) (by decide) (Nat.le_of_ble_eq_true rfl) (Nat.le_of_ble_eq_true rfl) (Nat.le_of_ble_eq_true rfl) dX12_init_172 (fun q_273 L_274 f_275 H_276 hq_277 h_278 x_279 hw => ?_)
  have ne_280 : h ≠ q_273 := py_ne_new h_271 hq_277
  have h_271 := h_271.all x_279
  have ne_281 : q_1 ≠ q_273 := py_ne_new h_6 hq_277
  have h_6 := h_6.all x_279
  have ne_282 : q_39 ≠ q_273 := py_ne_new h_44 hq_277
  have h_44 := h_44.all x_279
  have ne_283 : q_52 ≠ q_273 := py_ne_new h_57 hq_277
  have h_57 := h_57.all x_279
  refine py_putF (C := RX12) (T := TX12) (N := 54) (k := 35) (v := .ref q_273) (fs' := [.int 0, .ref q_1, .int 0, .int 0, .int 0, .int 0, .ref q_13, .ref q_26, .ref q_39, .ref q_52, .ref q_66, .ref q_81, .ref q_96, .int 0, .int 0, .ref q_111, .ref q_126, .ref q_141, .ref q_156, .int 0, .int 0, .ref q_171, .ref q_186, .ref q_201, .int 0, .int 0, .ref q_216, .ref q_231, .ref q_246, .int 0, .long 0, .int (-1), .int 50, .int 0, .int 10, .ref q_273, .null, .null, .null, .null, .null, .null, .null, .int 0, .null, .null, .null, .null, .long 0, .null, .null, .int 0, .long 0, .int 0]) (ty0 := tyX12) G hin hw tyX12_ok nmX12 in_X12_init_X12 rfl h_271 (by decide) (by decide +kernel) rfl rfl rfl rfl rfl (Nat.le_of_ble_eq_true rfl) rfl dX12_init_174 (fun f_284 H_285 locs h_286 x_287 hw => ?_)
  have h_6 := h_6.ext x_287 (Ne.symm ne_8)
  have h_44 := h_44.ext x_287 (Ne.symm ne_46)
  have h_57 := h_57.ext x_287 (Ne.symm ne_59)
  refine lv_aload_n G.1 G.2.1 dX12_init_177 rfl (lv_at hl 0 rfl) ?_
  refine lv_bipush (v := 10) G.1 G.2.1 dX12_init_178 (by decide) ?_
  refine py_newI (N := 10) G hw (by decide +kernel) (by decide) (by decide) (Nat.le_of_ble_eq_true rfl) (Nat.le_of_ble_eq_true rfl) (Nat.le_of_ble_eq_true rfl) dX12_init_180 (fun q_288 L_289 f_290 H_291 hq_292 h_293 x_294 hw => ?_)
  have ne_295 : h ≠ q_288 := py_ne_new h_286 hq_292
  have h_286 := h_286.all x_294
  have ne_296 : q_1 ≠ q_288 := py_ne_new h_6 hq_292
  have h_6 := h_6.all x_294
  have ne_297 : q_39 ≠ q_288 := py_ne_new h_44 hq_292
  have h_44 := h_44.all x_294
  have ne_298 : q_52 ≠ q_288 := py_ne_new h_57 hq_292
  have h_57 := h_57.all x_294
  refine py_putF (C := RX12) (T := TX12) (N := 54) (k := 36) (v := .ref q_288) (fs' := [.int 0, .ref q_1, .int 0, .int 0, .int 0, .int 0, .ref q_13, .ref q_26, .ref q_39, .ref q_52, .ref q_66, .ref q_81, .ref q_96, .int 0, .int 0, .ref q_111, .ref q_126, .ref q_141, .ref q_156, .int 0, .int 0, .ref q_171, .ref q_186, .ref q_201, .int 0, .int 0, .ref q_216, .ref q_231, .ref q_246, .int 0, .long 0, .int (-1), .int 50, .int 0, .int 10, .ref q_273, .ref q_288, .null, .null, .null, .null, .null, .null, .int 0, .null, .null, .null, .null, .long 0, .null, .null, .int 0, .long 0, .int 0]) (ty0 := tyX12) G hin hw tyX12_ok nmX12 in_X12_init_X12 rfl h_286 (by decide) (by decide +kernel) rfl rfl rfl rfl rfl (Nat.le_of_ble_eq_true rfl) rfl dX12_init_182 (fun f_299 H_300 locs h_301 x_302 hw => ?_)
  have h_6 := h_6.ext x_302 (Ne.symm ne_8)
  have h_44 := h_44.ext x_302 (Ne.symm ne_46)
  have h_57 := h_57.ext x_302 (Ne.symm ne_59)
  refine lv_aload_n G.1 G.2.1 dX12_init_185 rfl (lv_at hl 0 rfl) ?_
  refine lv_bipush (v := 10) G.1 G.2.1 dX12_init_186 (by decide) ?_
  refine py_newI (N := 10) G hw (by decide +kernel) (by decide) (by decide) (Nat.le_of_ble_eq_true rfl) (Nat.le_of_ble_eq_true rfl) (Nat.le_of_ble_eq_true rfl) dX12_init_188 (fun q_303 L_304 f_305 H_306 hq_307 h_308 x_309 hw => ?_)
  have ne_310 : h ≠ q_303 := py_ne_new h_301 hq_307
  have h_301 := h_301.all x_309
  have ne_311 : q_1 ≠ q_303 := py_ne_new h_6 hq_307
  have h_6 := h_6.all x_309
  have ne_312 : q_39 ≠ q_303 := py_ne_new h_44 hq_307
  have h_44 := h_44.all x_309
  have ne_313 : q_52 ≠ q_303 := py_ne_new h_57 hq_307
  have h_57 := h_57.all x_309
  refine py_putF (C := RX12) (T := TX12) (N := 54) (k := 37) (v := .ref q_303) (fs' := [.int 0, .ref q_1, .int 0, .int 0, .int 0, .int 0, .ref q_13, .ref q_26, .ref q_39, .ref q_52, .ref q_66, .ref q_81, .ref q_96, .int 0, .int 0, .ref q_111, .ref q_126, .ref q_141, .ref q_156, .int 0, .int 0, .ref q_171, .ref q_186, .ref q_201, .int 0, .int 0, .ref q_216, .ref q_231, .ref q_246, .int 0, .long 0, .int (-1), .int 50, .int 0, .int 10, .ref q_273, .ref q_288, .ref q_303, .null, .null, .null, .null, .null, .int 0, .null, .null, .null, .null, .long 0, .null, .null, .int 0, .long 0, .int 0]) (ty0 := tyX12) G hin hw tyX12_ok nmX12 in_X12_init_X12 rfl h_301 (by decide) (by decide +kernel) rfl rfl rfl rfl rfl (Nat.le_of_ble_eq_true rfl) rfl dX12_init_190 (fun f_314 H_315 locs h_316 x_317 hw => ?_)
  have h_6 := h_6.ext x_317 (Ne.symm ne_8)
  have h_44 := h_44.ext x_317 (Ne.symm ne_46)
  have h_57 := h_57.ext x_317 (Ne.symm ne_59)
  refine lv_aload_n G.1 G.2.1 dX12_init_193 rfl (lv_at hl 0 rfl) ?_
  refine lv_sipush (v := 600) G.1 G.2.1 dX12_init_194 (by decide) ?_
  refine py_newI (N := 600) G hw (by decide +kernel) (by decide) (by decide) (Nat.le_of_ble_eq_true rfl) (Nat.le_of_ble_eq_true rfl) (Nat.le_of_ble_eq_true rfl) dX12_init_197 (fun q_318 L_319 f_320 H_321 hq_322 h_323 x_324 hw => ?_)
  have ne_325 : h ≠ q_318 := py_ne_new h_316 hq_322
  have h_316 := h_316.all x_324
  have ne_326 : q_1 ≠ q_318 := py_ne_new h_6 hq_322
  have h_6 := h_6.all x_324
  have ne_327 : q_39 ≠ q_318 := py_ne_new h_44 hq_322
  have h_44 := h_44.all x_324
  have ne_328 : q_52 ≠ q_318 := py_ne_new h_57 hq_322
  have h_57 := h_57.all x_324
  refine py_putF (C := RX12) (T := TX12) (N := 54) (k := 38) (v := .ref q_318) (fs' := [.int 0, .ref q_1, .int 0, .int 0, .int 0, .int 0, .ref q_13, .ref q_26, .ref q_39, .ref q_52, .ref q_66, .ref q_81, .ref q_96, .int 0, .int 0, .ref q_111, .ref q_126, .ref q_141, .ref q_156, .int 0, .int 0, .ref q_171, .ref q_186, .ref q_201, .int 0, .int 0, .ref q_216, .ref q_231, .ref q_246, .int 0, .long 0, .int (-1), .int 50, .int 0, .int 10, .ref q_273, .ref q_288, .ref q_303, .ref q_318, .null, .null, .null, .null, .int 0, .null, .null, .null, .null, .long 0, .null, .null, .int 0, .long 0, .int 0]) (ty0 := tyX12) G hin hw tyX12_ok nmX12 in_X12_init_X12 rfl h_316 (by decide) (by decide +kernel) rfl rfl rfl rfl rfl (Nat.le_of_ble_eq_true rfl) rfl dX12_init_199 (fun f_329 H_330 locs h_331 x_332 hw => ?_)
  have h_6 := h_6.ext x_332 (Ne.symm ne_8)
  have h_44 := h_44.ext x_332 (Ne.symm ne_46)
  have h_57 := h_57.ext x_332 (Ne.symm ne_59)
  refine lv_aload_n G.1 G.2.1 dX12_init_202 rfl (lv_at hl 0 rfl) ?_
  refine lv_sipush (v := 600) G.1 G.2.1 dX12_init_203 (by decide) ?_
  refine py_newI (N := 600) G hw (by decide +kernel) (by decide) (by decide) (Nat.le_of_ble_eq_true rfl) (Nat.le_of_ble_eq_true rfl) (Nat.le_of_ble_eq_true rfl) dX12_init_206 (fun q_333 L_334 f_335 H_336 hq_337 h_338 x_339 hw => ?_)
  have ne_340 : h ≠ q_333 := py_ne_new h_331 hq_337
  have h_331 := h_331.all x_339
  have ne_341 : q_1 ≠ q_333 := py_ne_new h_6 hq_337
  have h_6 := h_6.all x_339
  have ne_342 : q_39 ≠ q_333 := py_ne_new h_44 hq_337
  have h_44 := h_44.all x_339
  have ne_343 : q_52 ≠ q_333 := py_ne_new h_57 hq_337
  have h_57 := h_57.all x_339
  refine py_putF (C := RX12) (T := TX12) (N := 54) (k := 39) (v := .ref q_333) (fs' := [.int 0, .ref q_1, .int 0, .int 0, .int 0, .int 0, .ref q_13, .ref q_26, .ref q_39, .ref q_52, .ref q_66, .ref q_81, .ref q_96, .int 0, .int 0, .ref q_111, .ref q_126, .ref q_141, .ref q_156, .int 0, .int 0, .ref q_171, .ref q_186, .ref q_201, .int 0, .int 0, .ref q_216, .ref q_231, .ref q_246, .int 0, .long 0, .int (-1), .int 50, .int 0, .int 10, .ref q_273, .ref q_288, .ref q_303, .ref q_318, .ref q_333, .null, .null, .null, .int 0, .null, .null, .null, .null, .long 0, .null, .null, .int 0, .long 0, .int 0]) (ty0 := tyX12) G hin hw tyX12_ok nmX12 in_X12_init_X12 rfl h_331 (by decide) (by decide +kernel) rfl rfl rfl rfl rfl (Nat.le_of_ble_eq_true rfl) rfl dX12_init_208 (fun f_344 H_345 locs h_346 x_347 hw => ?_)
  have h_6 := h_6.ext x_347 (Ne.symm ne_8)
  have h_44 := h_44.ext x_347 (Ne.symm ne_46)
  have h_57 := h_57.ext x_347 (Ne.symm ne_59)
  refine lv_aload_n G.1 G.2.1 dX12_init_211 rfl (lv_at hl 0 rfl) ?_
  refine lv_bipush (v := 40) G.1 G.2.1 dX12_init_212 (by decide) ?_
  refine py_newI (N := 40) G hw (by decide +kernel) (by decide) (by decide) (Nat.le_of_ble_eq_true rfl) (Nat.le_of_ble_eq_true rfl) (Nat.le_of_ble_eq_true rfl) dX12_init_214 (fun q_348 L_349 f_350 H_351 hq_352 h_353 x_354 hw => ?_)
  have ne_355 : h ≠ q_348 := py_ne_new h_346 hq_352
  have h_346 := h_346.all x_354
  have ne_356 : q_1 ≠ q_348 := py_ne_new h_6 hq_352
  have h_6 := h_6.all x_354
  have ne_357 : q_39 ≠ q_348 := py_ne_new h_44 hq_352
  have h_44 := h_44.all x_354
  have ne_358 : q_52 ≠ q_348 := py_ne_new h_57 hq_352
  have h_57 := h_57.all x_354
  refine py_putF (C := RX12) (T := TX12) (N := 54) (k := 40) (v := .ref q_348) (fs' := [.int 0, .ref q_1, .int 0, .int 0, .int 0, .int 0, .ref q_13, .ref q_26, .ref q_39, .ref q_52, .ref q_66, .ref q_81, .ref q_96, .int 0, .int 0, .ref q_111, .ref q_126, .ref q_141, .ref q_156, .int 0, .int 0, .ref q_171, .ref q_186, .ref q_201, .int 0, .int 0, .ref q_216, .ref q_231, .ref q_246, .int 0, .long 0, .int (-1), .int 50, .int 0, .int 10, .ref q_273, .ref q_288, .ref q_303, .ref q_318, .ref q_333, .ref q_348, .null, .null, .int 0, .null, .null, .null, .null, .long 0, .null, .null, .int 0, .long 0, .int 0]) (ty0 := tyX12) G hin hw tyX12_ok nmX12 in_X12_init_X12 rfl h_346 (by decide) (by decide +kernel) rfl rfl rfl rfl rfl (Nat.le_of_ble_eq_true rfl) rfl dX12_init_216 (fun f_359 H_360 locs h_361 x_362 hw => ?_)
  have h_6 := h_6.ext x_362 (Ne.symm ne_8)
  have h_44 := h_44.ext x_362 (Ne.symm ne_46)
  have h_57 := h_57.ext x_362 (Ne.symm ne_59)
  refine lv_aload_n G.1 G.2.1 dX12_init_219 rfl (lv_at hl 0 rfl) ?_
  refine lv_bipush (v := 40) G.1 G.2.1 dX12_init_220 (by decide) ?_
  refine py_newI (N := 40) G hw (by decide +kernel) (by decide) (by decide) (Nat.le_of_ble_eq_true rfl) (Nat.le_of_ble_eq_true rfl) (Nat.le_of_ble_eq_true rfl) dX12_init_222 (fun q_363 L_364 f_365 H_366 hq_367 h_368 x_369 hw => ?_)
  have ne_370 : h ≠ q_363 := py_ne_new h_361 hq_367
  have h_361 := h_361.all x_369
  have ne_371 : q_1 ≠ q_363 := py_ne_new h_6 hq_367
  have h_6 := h_6.all x_369
  have ne_372 : q_39 ≠ q_363 := py_ne_new h_44 hq_367
  have h_44 := h_44.all x_369
  have ne_373 : q_52 ≠ q_363 := py_ne_new h_57 hq_367
  have h_57 := h_57.all x_369
  refine py_putF (C := RX12) (T := TX12) (N := 54) (k := 41) (v := .ref q_363) (fs' := [.int 0, .ref q_1, .int 0, .int 0, .int 0, .int 0, .ref q_13, .ref q_26, .ref q_39, .ref q_52, .ref q_66, .ref q_81, .ref q_96, .int 0, .int 0, .ref q_111, .ref q_126, .ref q_141, .ref q_156, .int 0, .int 0, .ref q_171, .ref q_186, .ref q_201, .int 0, .int 0, .ref q_216, .ref q_231, .ref q_246, .int 0, .long 0, .int (-1), .int 50, .int 0, .int 10, .ref q_273, .ref q_288, .ref q_303, .ref q_318, .ref q_333, .ref q_348, .ref q_363, .null, .int 0, .null, .null, .null, .null, .long 0, .null, .null, .int 0, .long 0, .int 0]) (ty0 := tyX12) G hin hw tyX12_ok nmX12 in_X12_init_X12 rfl h_361 (by decide) (by decide +kernel) rfl rfl rfl rfl rfl (Nat.le_of_ble_eq_true rfl) rfl dX12_init_224 (fun f_374 H_375 locs h_376 x_377 hw => ?_)
  have h_6 := h_6.ext x_377 (Ne.symm ne_8)
  have h_44 := h_44.ext x_377 (Ne.symm ne_46)
  have h_57 := h_57.ext x_377 (Ne.symm ne_59)
  refine lv_aload_n G.1 G.2.1 dX12_init_227 rfl (lv_at hl 0 rfl) ?_
  refine lv_bipush (v := 40) G.1 G.2.1 dX12_init_228 (by decide) ?_
  refine py_newI (N := 40) G hw (by decide +kernel) (by decide) (by decide) (Nat.le_of_ble_eq_true rfl) (Nat.le_of_ble_eq_true rfl) (Nat.le_of_ble_eq_true rfl) dX12_init_230 (fun q_378 L_379 f_380 H_381 hq_382 h_383 x_384 hw => ?_)
  have ne_385 : h ≠ q_378 := py_ne_new h_376 hq_382
  have h_376 := h_376.all x_384
  have ne_386 : q_1 ≠ q_378 := py_ne_new h_6 hq_382
  have h_6 := h_6.all x_384
  have ne_387 : q_39 ≠ q_378 := py_ne_new h_44 hq_382
  have h_44 := h_44.all x_384
  have ne_388 : q_52 ≠ q_378 := py_ne_new h_57 hq_382
  have h_57 := h_57.all x_384
  refine py_putF (C := RX12) (T := TX12) (N := 54) (k := 42) (v := .ref q_378) (fs' := [.int 0, .ref q_1, .int 0, .int 0, .int 0, .int 0, .ref q_13, .ref q_26, .ref q_39, .ref q_52, .ref q_66, .ref q_81, .ref q_96, .int 0, .int 0, .ref q_111, .ref q_126, .ref q_141, .ref q_156, .int 0, .int 0, .ref q_171, .ref q_186, .ref q_201, .int 0, .int 0, .ref q_216, .ref q_231, .ref q_246, .int 0, .long 0, .int (-1), .int 50, .int 0, .int 10, .ref q_273, .ref q_288, .ref q_303, .ref q_318, .ref q_333, .ref q_348, .ref q_363, .ref q_378, .int 0, .null, .null, .null, .null, .long 0, .null, .null, .int 0, .long 0, .int 0]) (ty0 := tyX12) G hin hw tyX12_ok nmX12 in_X12_init_X12 rfl h_376 (by decide) (by decide +kernel) rfl rfl rfl rfl rfl (Nat.le_of_ble_eq_true rfl) rfl dX12_init_232 (fun f_389 H_390 locs h_391 x_392 hw => ?_)
  have h_6 := h_6.ext x_392 (Ne.symm ne_8)
  have h_44 := h_44.ext x_392 (Ne.symm ne_46)
  have h_57 := h_57.ext x_392 (Ne.symm ne_59)
  refine lv_aload_n G.1 G.2.1 dX12_init_235 rfl (lv_at hl 0 rfl) ?_
  refine lv_bipush (v := 8) G.1 G.2.1 dX12_init_236 (by decide) ?_
  refine py_newI (N := 8) G hw (by decide +kernel) (by decide) (by decide) (Nat.le_of_ble_eq_true rfl) (Nat.le_of_ble_eq_true rfl) (Nat.le_of_ble_eq_true rfl) dX12_init_238 (fun q_393 L_394 f_395 H_396 hq_397 h_398 x_399 hw => ?_)
  have ne_400 : h ≠ q_393 := py_ne_new h_391 hq_397
  have h_391 := h_391.all x_399
  have ne_401 : q_1 ≠ q_393 := py_ne_new h_6 hq_397
  have h_6 := h_6.all x_399
  have ne_402 : q_39 ≠ q_393 := py_ne_new h_44 hq_397
  have h_44 := h_44.all x_399
  have ne_403 : q_52 ≠ q_393 := py_ne_new h_57 hq_397
  have h_57 := h_57.all x_399
  refine py_putF (C := RX12) (T := TX12) (N := 54) (k := 44) (v := .ref q_393) (fs' := [.int 0, .ref q_1, .int 0, .int 0, .int 0, .int 0, .ref q_13, .ref q_26, .ref q_39, .ref q_52, .ref q_66, .ref q_81, .ref q_96, .int 0, .int 0, .ref q_111, .ref q_126, .ref q_141, .ref q_156, .int 0, .int 0, .ref q_171, .ref q_186, .ref q_201, .int 0, .int 0, .ref q_216, .ref q_231, .ref q_246, .int 0, .long 0, .int (-1), .int 50, .int 0, .int 10, .ref q_273, .ref q_288, .ref q_303, .ref q_318, .ref q_333, .ref q_348, .ref q_363, .ref q_378, .int 0, .ref q_393, .null, .null, .null, .long 0, .null, .null, .int 0, .long 0, .int 0]) (ty0 := tyX12) G hin hw tyX12_ok nmX12 in_X12_init_X12 rfl h_391 (by decide) (by decide +kernel) rfl rfl rfl rfl rfl (Nat.le_of_ble_eq_true rfl) rfl dX12_init_240 (fun f_404 H_405 locs h_406 x_407 hw => ?_)
  have h_6 := h_6.ext x_407 (Ne.symm ne_8)
  have h_44 := h_44.ext x_407 (Ne.symm ne_46)
  have h_57 := h_57.ext x_407 (Ne.symm ne_59)
  refine lv_aload_n G.1 G.2.1 dX12_init_243 rfl (lv_at hl 0 rfl) ?_
  refine lv_sipush (v := 168) G.1 G.2.1 dX12_init_244 (by decide) ?_
  refine py_newJ (N := 168) G hw (by decide +kernel) (by decide) (by decide) (Nat.le_of_ble_eq_true rfl) (Nat.le_of_ble_eq_true rfl) (Nat.le_of_ble_eq_true rfl) dX12_init_247 (fun q_408 L_409 f_410 H_411 hq_412 h_413 x_414 hw => ?_)
  have ne_415 : h ≠ q_408 := py_ne_new h_406 hq_412
  have h_406 := h_406.all x_414
  have ne_416 : q_1 ≠ q_408 := py_ne_new h_6 hq_412
  have h_6 := h_6.all x_414
  have ne_417 : q_39 ≠ q_408 := py_ne_new h_44 hq_412
  have h_44 := h_44.all x_414
  have ne_418 : q_52 ≠ q_408 := py_ne_new h_57 hq_412
  have h_57 := h_57.all x_414
  refine py_putF (C := RX12) (T := TX12) (N := 54) (k := 45) (v := .ref q_408) (fs' := [.int 0, .ref q_1, .int 0, .int 0, .int 0, .int 0, .ref q_13, .ref q_26, .ref q_39, .ref q_52, .ref q_66, .ref q_81, .ref q_96, .int 0, .int 0, .ref q_111, .ref q_126, .ref q_141, .ref q_156, .int 0, .int 0, .ref q_171, .ref q_186, .ref q_201, .int 0, .int 0, .ref q_216, .ref q_231, .ref q_246, .int 0, .long 0, .int (-1), .int 50, .int 0, .int 10, .ref q_273, .ref q_288, .ref q_303, .ref q_318, .ref q_333, .ref q_348, .ref q_363, .ref q_378, .int 0, .ref q_393, .ref q_408, .null, .null, .long 0, .null, .null, .int 0, .long 0, .int 0]) (ty0 := tyX12) G hin hw tyX12_ok nmX12 in_X12_init_X12 rfl h_406 (by decide) (by decide +kernel) rfl rfl rfl rfl rfl (Nat.le_of_ble_eq_true rfl) rfl dX12_init_249 (fun f_419 H_420 locs h_421 x_422 hw => ?_)
  have h_6 := h_6.ext x_422 (Ne.symm ne_8)
  have h_44 := h_44.ext x_422 (Ne.symm ne_46)
  have h_57 := h_57.ext x_422 (Ne.symm ne_59)
  refine lv_aload_n G.1 G.2.1 dX12_init_252 rfl (lv_at hl 0 rfl) ?_
  refine lv_sipush (v := 168) G.1 G.2.1 dX12_init_253 (by decide) ?_
  refine py_newJ (N := 168) G hw (by decide +kernel) (by decide) (by decide) (Nat.le_of_ble_eq_true rfl) (Nat.le_of_ble_eq_true rfl) (Nat.le_of_ble_eq_true rfl) dX12_init_256 (fun q_423 L_424 f_425 H_426 hq_427 h_428 x_429 hw => ?_)
  have ne_430 : h ≠ q_423 := py_ne_new h_421 hq_427
  have h_421 := h_421.all x_429
  have ne_431 : q_1 ≠ q_423 := py_ne_new h_6 hq_427
  have h_6 := h_6.all x_429
  have ne_432 : q_39 ≠ q_423 := py_ne_new h_44 hq_427
  have h_44 := h_44.all x_429
  have ne_433 : q_52 ≠ q_423 := py_ne_new h_57 hq_427
  have h_57 := h_57.all x_429
  refine py_putF (C := RX12) (T := TX12) (N := 54) (k := 46) (v := .ref q_423) (fs' := [.int 0, .ref q_1, .int 0, .int 0, .int 0, .int 0, .ref q_13, .ref q_26, .ref q_39, .ref q_52, .ref q_66, .ref q_81, .ref q_96, .int 0, .int 0, .ref q_111, .ref q_126, .ref q_141, .ref q_156, .int 0, .int 0, .ref q_171, .ref q_186, .ref q_201, .int 0, .int 0, .ref q_216, .ref q_231, .ref q_246, .int 0, .long 0, .int (-1), .int 50, .int 0, .int 10, .ref q_273, .ref q_288, .ref q_303, .ref q_318, .ref q_333, .ref q_348, .ref q_363, .ref q_378, .int 0, .ref q_393, .ref q_408, .ref q_423, .null, .long 0, .null, .null, .int 0, .long 0, .int 0]) (ty0 := tyX12) G hin hw tyX12_ok nmX12 in_X12_init_X12 rfl h_421 (by decide) (by decide +kernel) rfl rfl rfl rfl rfl (Nat.le_of_ble_eq_true rfl) rfl dX12_init_258 (fun f_434 H_435 locs h_436 x_437 hw => ?_)
  have h_6 := h_6.ext x_437 (Ne.symm ne_8)
  have h_44 := h_44.ext x_437 (Ne.symm ne_46)
  have h_57 := h_57.ext x_437 (Ne.symm ne_59)
  refine lv_aload_n G.1 G.2.1 dX12_init_261 rfl (lv_at hl 0 rfl) ?_
  refine lv_bipush (v := 22) G.1 G.2.1 dX12_init_262 (by decide) ?_
  refine py_newJ (N := 22) G hw (by decide +kernel) (by decide) (by decide) (Nat.le_of_ble_eq_true rfl) (Nat.le_of_ble_eq_true rfl) (Nat.le_of_ble_eq_true rfl) dX12_init_264 (fun q_438 L_439 f_440 H_441 hq_442 h_443 x_444 hw => ?_)
  have ne_445 : h ≠ q_438 := py_ne_new h_436 hq_442
  have h_436 := h_436.all x_444
  have ne_446 : q_1 ≠ q_438 := py_ne_new h_6 hq_442
  have h_6 := h_6.all x_444
  have ne_447 : q_39 ≠ q_438 := py_ne_new h_44 hq_442
  have h_44 := h_44.all x_444
  have ne_448 : q_52 ≠ q_438 := py_ne_new h_57 hq_442
  have h_57 := h_57.all x_444
  refine py_putF (C := RX12) (T := TX12) (N := 54) (k := 47) (v := .ref q_438) (fs' := [.int 0, .ref q_1, .int 0, .int 0, .int 0, .int 0, .ref q_13, .ref q_26, .ref q_39, .ref q_52, .ref q_66, .ref q_81, .ref q_96, .int 0, .int 0, .ref q_111, .ref q_126, .ref q_141, .ref q_156, .int 0, .int 0, .ref q_171, .ref q_186, .ref q_201, .int 0, .int 0, .ref q_216, .ref q_231, .ref q_246, .int 0, .long 0, .int (-1), .int 50, .int 0, .int 10, .ref q_273, .ref q_288, .ref q_303, .ref q_318, .ref q_333, .ref q_348, .ref q_363, .ref q_378, .int 0, .ref q_393, .ref q_408, .ref q_423, .ref q_438, .long 0, .null, .null, .int 0, .long 0, .int 0]) (ty0 := tyX12) G hin hw tyX12_ok nmX12 in_X12_init_X12 rfl h_436 (by decide) (by decide +kernel) rfl rfl rfl rfl rfl (Nat.le_of_ble_eq_true rfl) rfl dX12_init_266 (fun f_449 H_450 locs h_451 x_452 hw => ?_)
  have h_6 := h_6.ext x_452 (Ne.symm ne_8)
  have h_44 := h_44.ext x_452 (Ne.symm ne_46)
  have h_57 := h_57.ext x_452 (Ne.symm ne_59)
  refine lv_aload_n G.1 G.2.1 dX12_init_269 rfl (lv_at hl 0 rfl) ?_
  refine lv_sipush (v := 600) G.1 G.2.1 dX12_init_270 (by decide) ?_
  refine py_newI (N := 600) G hw (by decide +kernel) (by decide) (by decide) (Nat.le_of_ble_eq_true rfl) (Nat.le_of_ble_eq_true rfl) (Nat.le_of_ble_eq_true rfl) dX12_init_273 (fun q_453 L_454 f_455 H_456 hq_457 h_458 x_459 hw => ?_)
  have ne_460 : h ≠ q_453 := py_ne_new h_451 hq_457
  have h_451 := h_451.all x_459
  have ne_461 : q_1 ≠ q_453 := py_ne_new h_6 hq_457
  have h_6 := h_6.all x_459
  have ne_462 : q_39 ≠ q_453 := py_ne_new h_44 hq_457
  have h_44 := h_44.all x_459
  have ne_463 : q_52 ≠ q_453 := py_ne_new h_57 hq_457
  have h_57 := h_57.all x_459
  refine py_putF (C := RX12) (T := TX12) (N := 54) (k := 49) (v := .ref q_453) (fs' := [.int 0, .ref q_1, .int 0, .int 0, .int 0, .int 0, .ref q_13, .ref q_26, .ref q_39, .ref q_52, .ref q_66, .ref q_81, .ref q_96, .int 0, .int 0, .ref q_111, .ref q_126, .ref q_141, .ref q_156, .int 0, .int 0, .ref q_171, .ref q_186, .ref q_201, .int 0, .int 0, .ref q_216, .ref q_231, .ref q_246, .int 0, .long 0, .int (-1), .int 50, .int 0, .int 10, .ref q_273, .ref q_288, .ref q_303, .ref q_318, .ref q_333, .ref q_348, .ref q_363, .ref q_378, .int 0, .ref q_393, .ref q_408, .ref q_423, .ref q_438, .long 0, .ref q_453, .null, .int 0, .long 0, .int 0]) (ty0 := tyX12) G hin hw tyX12_ok nmX12 in_X12_init_X12 rfl h_451 (by decide) (by decide +kernel) rfl rfl rfl rfl rfl (Nat.le_of_ble_eq_true rfl) rfl dX12_init_275 (fun f_464 H_465 locs h_466 x_467 hw => ?_)
  have h_6 := h_6.ext x_467 (Ne.symm ne_8)
  have h_44 := h_44.ext x_467 (Ne.symm ne_46)
  have h_57 := h_57.ext x_467 (Ne.symm ne_59)
  refine lv_aload_n G.1 G.2.1 dX12_init_278 rfl (lv_at hl 0 rfl) ?_
  refine lv_sipush (v := 600) G.1 G.2.1 dX12_init_279 (by decide) ?_
  refine py_newI (N := 600) G hw (by decide +kernel) (by decide) (by decide) (Nat.le_of_ble_eq_true rfl) (Nat.le_of_ble_eq_true rfl) (Nat.le_of_ble_eq_true rfl) dX12_init_282 (fun q_468 L_469 f_470 H_471 hq_472 h_473 x_474 hw => ?_)
  have ne_475 : h ≠ q_468 := py_ne_new h_466 hq_472
  have h_466 := h_466.all x_474
  have ne_476 : q_1 ≠ q_468 := py_ne_new h_6 hq_472
  have h_6 := h_6.all x_474
  have ne_477 : q_39 ≠ q_468 := py_ne_new h_44 hq_472
  have h_44 := h_44.all x_474
  have ne_478 : q_52 ≠ q_468 := py_ne_new h_57 hq_472
  have h_57 := h_57.all x_474
  refine py_putF (C := RX12) (T := TX12) (N := 54) (k := 50) (v := .ref q_468) (fs' := [.int 0, .ref q_1, .int 0, .int 0, .int 0, .int 0, .ref q_13, .ref q_26, .ref q_39, .ref q_52, .ref q_66, .ref q_81, .ref q_96, .int 0, .int 0, .ref q_111, .ref q_126, .ref q_141, .ref q_156, .int 0, .int 0, .ref q_171, .ref q_186, .ref q_201, .int 0, .int 0, .ref q_216, .ref q_231, .ref q_246, .int 0, .long 0, .int (-1), .int 50, .int 0, .int 10, .ref q_273, .ref q_288, .ref q_303, .ref q_318, .ref q_333, .ref q_348, .ref q_363, .ref q_378, .int 0, .ref q_393, .ref q_408, .ref q_423, .ref q_438, .long 0, .ref q_453, .ref q_468, .int 0, .long 0, .int 0]) (ty0 := tyX12) G hin hw tyX12_ok nmX12 in_X12_init_X12 rfl h_466 (by decide) (by decide +kernel) rfl rfl rfl rfl rfl (Nat.le_of_ble_eq_true rfl) rfl dX12_init_284 (fun f_479 H_480 locs h_481 x_482 hw => ?_)
  have h_6 := h_6.ext x_482 (Ne.symm ne_8)
  have h_44 := h_44.ext x_482 (Ne.symm ne_46)
  have h_57 := h_57.ext x_482 (Ne.symm ne_59)
  refine W.widen (k := 32) (n := 8314) (Nat.le_of_ble_eq_true rfl) (Nat.le_of_ble_eq_true rfl) ?_
  have xt_483 : py_ext L f L_469 f_479 h := fun b hb hn => by
    have n1 : b ≠ q_1 := fun h => hq_5 (h ▸ hb)
    obtain ⟨m1, e1⟩ := x_7 b hb
    obtain ⟨m2, e2⟩ := x_12 b m1 hn
    have n3 : b ≠ q_13 := fun h => hq_17 (h ▸ m2)
    obtain ⟨m3, e3⟩ := x_19 b m2
    obtain ⟨m4, e4⟩ := x_25 b m3 hn
    have n5 : b ≠ q_26 := fun h => hq_30 (h ▸ m4)
    obtain ⟨m5, e5⟩ := x_32 b m4
    obtain ⟨m6, e6⟩ := x_38 b m5 hn
    have n7 : b ≠ q_39 := fun h => hq_43 (h ▸ m6)
    obtain ⟨m7, e7⟩ := x_45 b m6
    obtain ⟨m8, e8⟩ := x_51 b m7 hn
    have n9 : b ≠ q_52 := fun h => hq_56 (h ▸ m8)
    obtain ⟨m9, e9⟩ := x_58 b m8
    obtain ⟨m10, e10⟩ := x_65 b m9 hn
    have n11 : b ≠ q_66 := fun h => hq_70 (h ▸ m10)
    obtain ⟨m11, e11⟩ := x_72 b m10
    obtain ⟨m12, e12⟩ := x_80 b m11 hn
    have n13 : b ≠ q_81 := fun h => hq_85 (h ▸ m12)
    obtain ⟨m13, e13⟩ := x_87 b m12
    obtain ⟨m14, e14⟩ := x_95 b m13 hn
    have n15 : b ≠ q_96 := fun h => hq_100 (h ▸ m14)
    obtain ⟨m15, e15⟩ := x_102 b m14
    obtain ⟨m16, e16⟩ := x_110 b m15 hn
    have n17 : b ≠ q_111 := fun h => hq_115 (h ▸ m16)
    obtain ⟨m17, e17⟩ := x_117 b m16
    obtain ⟨m18, e18⟩ := x_125 b m17 hn
    have n19 : b ≠ q_126 := fun h => hq_130 (h ▸ m18)
    obtain ⟨m19, e19⟩ := x_132 b m18
    obtain ⟨m20, e20⟩ := x_140 b m19 hn
    have n21 : b ≠ q_141 := fun h => hq_145 (h ▸ m20)
    obtain ⟨m21, e21⟩ := x_147 b m20
    obtain ⟨m22, e22⟩ := x_155 b m21 hn
    have n23 : b ≠ q_156 := fun h => hq_160 (h ▸ m22)
    obtain ⟨m23, e23⟩ := x_162 b m22
    obtain ⟨m24, e24⟩ := x_170 b m23 hn
    have n25 : b ≠ q_171 := fun h => hq_175 (h ▸ m24)
    obtain ⟨m25, e25⟩ := x_177 b m24
    obtain ⟨m26, e26⟩ := x_185 b m25 hn
    have n27 : b ≠ q_186 := fun h => hq_190 (h ▸ m26)
    obtain ⟨m27, e27⟩ := x_192 b m26
    obtain ⟨m28, e28⟩ := x_200 b m27 hn
    have n29 : b ≠ q_201 := fun h => hq_205 (h ▸ m28)
    obtain ⟨m29, e29⟩ := x_207 b m28
    obtain ⟨m30, e30⟩ := x_215 b m29 hn
    have n31 : b ≠ q_216 := fun h => hq_220 (h ▸ m30)
    obtain ⟨m31, e31⟩ := x_222 b m30
    obtain ⟨m32, e32⟩ := x_230 b m31 hn
    have n33 : b ≠ q_231 := fun h => hq_235 (h ▸ m32)
    obtain ⟨m33, e33⟩ := x_237 b m32
    obtain ⟨m34, e34⟩ := x_245 b m33 hn
    have n35 : b ≠ q_246 := fun h => hq_250 (h ▸ m34)
    obtain ⟨m35, e35⟩ := x_252 b m34
    obtain ⟨m36, e36⟩ := x_260 b m35 hn
    obtain ⟨m37, e37⟩ := x_264 b m36 hn
    obtain ⟨m38, e38⟩ := x_268 b m37 hn
    obtain ⟨m39, e39⟩ := x_272 b m38 hn
    have n40 : b ≠ q_273 := fun h => hq_277 (h ▸ m39)
    obtain ⟨m40, e40⟩ := x_279 b m39
    obtain ⟨m41, e41⟩ := x_287 b m40 hn
    have n42 : b ≠ q_288 := fun h => hq_292 (h ▸ m41)
    obtain ⟨m42, e42⟩ := x_294 b m41
    obtain ⟨m43, e43⟩ := x_302 b m42 hn
    have n44 : b ≠ q_303 := fun h => hq_307 (h ▸ m43)
    obtain ⟨m44, e44⟩ := x_309 b m43
    obtain ⟨m45, e45⟩ := x_317 b m44 hn
    have n46 : b ≠ q_318 := fun h => hq_322 (h ▸ m45)
    obtain ⟨m46, e46⟩ := x_324 b m45
    obtain ⟨m47, e47⟩ := x_332 b m46 hn
    have n48 : b ≠ q_333 := fun h => hq_337 (h ▸ m47)
    obtain ⟨m48, e48⟩ := x_339 b m47
    obtain ⟨m49, e49⟩ := x_347 b m48 hn
    have n50 : b ≠ q_348 := fun h => hq_352 (h ▸ m49)
    obtain ⟨m50, e50⟩ := x_354 b m49
    obtain ⟨m51, e51⟩ := x_362 b m50 hn
    have n52 : b ≠ q_363 := fun h => hq_367 (h ▸ m51)
    obtain ⟨m52, e52⟩ := x_369 b m51
    obtain ⟨m53, e53⟩ := x_377 b m52 hn
    have n54 : b ≠ q_378 := fun h => hq_382 (h ▸ m53)
    obtain ⟨m54, e54⟩ := x_384 b m53
    obtain ⟨m55, e55⟩ := x_392 b m54 hn
    have n56 : b ≠ q_393 := fun h => hq_397 (h ▸ m55)
    obtain ⟨m56, e56⟩ := x_399 b m55
    obtain ⟨m57, e57⟩ := x_407 b m56 hn
    have n58 : b ≠ q_408 := fun h => hq_412 (h ▸ m57)
    obtain ⟨m58, e58⟩ := x_414 b m57
    obtain ⟨m59, e59⟩ := x_422 b m58 hn
    have n60 : b ≠ q_423 := fun h => hq_427 (h ▸ m59)
    obtain ⟨m60, e60⟩ := x_429 b m59
    obtain ⟨m61, e61⟩ := x_437 b m60 hn
    have n62 : b ≠ q_438 := fun h => hq_442 (h ▸ m61)
    obtain ⟨m62, e62⟩ := x_444 b m61
    obtain ⟨m63, e63⟩ := x_452 b m62 hn
    have n64 : b ≠ q_453 := fun h => hq_457 (h ▸ m63)
    obtain ⟨m64, e64⟩ := x_459 b m63
    obtain ⟨m65, e65⟩ := x_467 b m64 hn
    have n66 : b ≠ q_468 := fun h => hq_472 (h ▸ m65)
    obtain ⟨m66, e66⟩ := x_474 b m65
    obtain ⟨m67, e67⟩ := x_482 b m66 hn
    exact ⟨m67, e67.trans (e66.trans (e65.trans (e64.trans (e63.trans (e62.trans (e61.trans (e60.trans (e59.trans (e58.trans (e57.trans (e56.trans (e55.trans (e54.trans (e53.trans (e52.trans (e51.trans (e50.trans (e49.trans (e48.trans (e47.trans (e46.trans (e45.trans (e44.trans (e43.trans (e42.trans (e41.trans (e40.trans (e39.trans (e38.trans (e37.trans (e36.trans (e35.trans (e34.trans (e33.trans (e32.trans (e31.trans (e30.trans (e29.trans (e28.trans (e27.trans (e26.trans (e25.trans (e24.trans (e23.trans (e22.trans (e21.trans (e20.trans (e19.trans (e18.trans (e17.trans (e16.trans (e15.trans (e14.trans (e13.trans (e12.trans (e11.trans (e10.trans (e9.trans (e8.trans (e7.trans (e6.trans (e5.trans (e4.trans (e3.trans (e2.trans (e1.trans (rfl)))))))))))))))))))))))))))))))))))))))))))))))))))))))))))))))))))⟩
  exact py_vret G hr hlk hw ⟨⟨q_1, q_39, q_52, _, _, _, _, h_481, rfl, rfl, rfl, rfl, rfl, rfl, rfl, rfl, rfl, rfl, rfl, rfl, h_6, h_44, h_57⟩, xt_483⟩ dX12_init_287
end
