-- ===== PART A: goes FIRST, ahead of the names: the tables' words, and 'selects' of the private methods out of them =====
/-- a private method of a class that the tables say can be made, by its rows of tables_1 -/
def lw_okq (q : MethodName × Nat) : Prop := (q.1.cls ≠ "java/lang/invoke/MethodHandle" ∧ q.1.cls ≠ "java/lang/invoke/VarHandle") ∧ Cond.instantiable q.1.cls q.2 ∈ tables_1 ∧ Cond.privateMethod q.1 ∈ tables_1 ∧ Cond.instanceMethod q.1 ∈ tables_1
theorem lw_p0 : lw_okq (⟨"BirdOffice", "hasStakes", "()Z"⟩, 10) := ⟨⟨by decide +kernel, by decide +kernel⟩, List.mem_of_getElem? (i := 28) (by decide +kernel), List.mem_of_getElem? (i := 257) (by decide +kernel), List.mem_of_getElem? (i := 258) (by decide +kernel)⟩
theorem lw_p1 : lw_okq (⟨"BirdOffice", "flightAt", "(I)LBirdOffice$Flight;"⟩, 10) := ⟨⟨by decide +kernel, by decide +kernel⟩, List.mem_of_getElem? (i := 28) (by decide +kernel), List.mem_of_getElem? (i := 261) (by decide +kernel), List.mem_of_getElem? (i := 262) (by decide +kernel)⟩
theorem lw_p2 : lw_okq (⟨"BirdOffice$TokenRow", "addToken", "(LBirdOffice$Token;II)V"⟩, 5) := ⟨⟨by decide +kernel, by decide +kernel⟩, List.mem_of_getElem? (i := 56) (by decide +kernel), List.mem_of_getElem? (i := 306) (by decide +kernel), List.mem_of_getElem? (i := 307) (by decide +kernel)⟩
theorem lw_p3 : lw_okq (⟨"BirdOffice$Reader", "readList", "()Z"⟩, 3) := ⟨⟨by decide +kernel, by decide +kernel⟩, List.mem_of_getElem? (i := 50) (by decide +kernel), List.mem_of_getElem? (i := 374) (by decide +kernel), List.mem_of_getElem? (i := 375) (by decide +kernel)⟩
theorem lw_p4 : lw_okq (⟨"BirdOffice$Reader", "take", "(LBirdOffice$Token;)Z"⟩, 3) := ⟨⟨by decide +kernel, by decide +kernel⟩, List.mem_of_getElem? (i := 50) (by decide +kernel), List.mem_of_getElem? (i := 380) (by decide +kernel), List.mem_of_getElem? (i := 381) (by decide +kernel)⟩
theorem lw_p5 : lw_okq (⟨"BirdOffice$Reader", "refuse", "(I)Z"⟩, 3) := ⟨⟨by decide +kernel, by decide +kernel⟩, List.mem_of_getElem? (i := 50) (by decide +kernel), List.mem_of_getElem? (i := 388) (by decide +kernel), List.mem_of_getElem? (i := 389) (by decide +kernel)⟩
theorem lw_p6 : lw_okq (⟨"BirdOffice$Reader", "readItem", "()Z"⟩, 3) := ⟨⟨by decide +kernel, by decide +kernel⟩, List.mem_of_getElem? (i := 50) (by decide +kernel), List.mem_of_getElem? (i := 404) (by decide +kernel), List.mem_of_getElem? (i := 405) (by decide +kernel)⟩
theorem lw_p7 : lw_okq (⟨"BirdOffice$Reader", "readAny", "(I)Z"⟩, 3) := ⟨⟨by decide +kernel, by decide +kernel⟩, List.mem_of_getElem? (i := 50) (by decide +kernel), List.mem_of_getElem? (i := 427) (by decide +kernel), List.mem_of_getElem? (i := 428) (by decide +kernel)⟩
theorem lw_p8 : lw_okq (⟨"BirdOffice$Reader", "readAll", "(I)Z"⟩, 3) := ⟨⟨by decide +kernel, by decide +kernel⟩, List.mem_of_getElem? (i := 50) (by decide +kernel), List.mem_of_getElem? (i := 431) (by decide +kernel), List.mem_of_getElem? (i := 432) (by decide +kernel)⟩
theorem lw_p9 : lw_okq (⟨"BirdOffice$Reader", "readFact", "(I)Z"⟩, 3) := ⟨⟨by decide +kernel, by decide +kernel⟩, List.mem_of_getElem? (i := 50) (by decide +kernel), List.mem_of_getElem? (i := 435) (by decide +kernel), List.mem_of_getElem? (i := 436) (by decide +kernel)⟩
theorem lw_p10 : lw_okq (⟨"BirdOffice$Reader", "readRound", "(I)Z"⟩, 3) := ⟨⟨by decide +kernel, by decide +kernel⟩, List.mem_of_getElem? (i := 50) (by decide +kernel), List.mem_of_getElem? (i := 443) (by decide +kernel), List.mem_of_getElem? (i := 444) (by decide +kernel)⟩
theorem lw_p11 : lw_okq (⟨"BirdOffice$Reader", "readComparison", "()Z"⟩, 3) := ⟨⟨by decide +kernel, by decide +kernel⟩, List.mem_of_getElem? (i := 50) (by decide +kernel), List.mem_of_getElem? (i := 449) (by decide +kernel), List.mem_of_getElem? (i := 450) (by decide +kernel)⟩
theorem lw_p12 : lw_okq (⟨"BirdOffice$Reader", "readPays", "()Z"⟩, 3) := ⟨⟨by decide +kernel, by decide +kernel⟩, List.mem_of_getElem? (i := 50) (by decide +kernel), List.mem_of_getElem? (i := 486) (by decide +kernel), List.mem_of_getElem? (i := 487) (by decide +kernel)⟩
theorem lw_p13 : lw_okq (⟨"BirdOffice$Reader", "readLimit", "(LBirdOffice$Token;)Z"⟩, 3) := ⟨⟨by decide +kernel, by decide +kernel⟩, List.mem_of_getElem? (i := 50) (by decide +kernel), List.mem_of_getElem? (i := 494) (by decide +kernel), List.mem_of_getElem? (i := 495) (by decide +kernel)⟩
theorem lw_p14 : lw_okq (⟨"BirdOffice", "openAllPurses", "()V"⟩, 10) := ⟨⟨by decide +kernel, by decide +kernel⟩, List.mem_of_getElem? (i := 28) (by decide +kernel), List.mem_of_getElem? (i := 516) (by decide +kernel), List.mem_of_getElem? (i := 517) (by decide +kernel)⟩
theorem lw_p15 : lw_okq (⟨"BirdOffice$Flight", "setTime", "(II)V"⟩, 18) := ⟨⟨by decide +kernel, by decide +kernel⟩, List.mem_of_getElem? (i := 580) (by decide +kernel), List.mem_of_getElem? (i := 677) (by decide +kernel), List.mem_of_getElem? (i := 678) (by decide +kernel)⟩
def lw_privs_1 : List (MethodName × Nat) := [(⟨"BirdOffice", "hasStakes", "()Z"⟩, 10), (⟨"BirdOffice", "flightAt", "(I)LBirdOffice$Flight;"⟩, 10), (⟨"BirdOffice$TokenRow", "addToken", "(LBirdOffice$Token;II)V"⟩, 5), (⟨"BirdOffice$Reader", "readList", "()Z"⟩, 3), (⟨"BirdOffice$Reader", "take", "(LBirdOffice$Token;)Z"⟩, 3), (⟨"BirdOffice$Reader", "refuse", "(I)Z"⟩, 3), (⟨"BirdOffice$Reader", "readItem", "()Z"⟩, 3), (⟨"BirdOffice$Reader", "readAny", "(I)Z"⟩, 3), (⟨"BirdOffice$Reader", "readAll", "(I)Z"⟩, 3), (⟨"BirdOffice$Reader", "readFact", "(I)Z"⟩, 3), (⟨"BirdOffice$Reader", "readRound", "(I)Z"⟩, 3), (⟨"BirdOffice$Reader", "readComparison", "()Z"⟩, 3), (⟨"BirdOffice$Reader", "readPays", "()Z"⟩, 3), (⟨"BirdOffice$Reader", "readLimit", "(LBirdOffice$Token;)Z"⟩, 3), (⟨"BirdOffice", "openAllPurses", "()V"⟩, 10), (⟨"BirdOffice$Flight", "setTime", "(II)V"⟩, 18)]
theorem lw_r1 : ∀ q ∈ lw_privs_1, lw_okq q := List.forall_mem_cons.mpr ⟨lw_p0, List.forall_mem_cons.mpr ⟨lw_p1, List.forall_mem_cons.mpr ⟨lw_p2, List.forall_mem_cons.mpr ⟨lw_p3, List.forall_mem_cons.mpr ⟨lw_p4, List.forall_mem_cons.mpr ⟨lw_p5, List.forall_mem_cons.mpr ⟨lw_p6, List.forall_mem_cons.mpr ⟨lw_p7, List.forall_mem_cons.mpr ⟨lw_p8, List.forall_mem_cons.mpr ⟨lw_p9, List.forall_mem_cons.mpr ⟨lw_p10, List.forall_mem_cons.mpr ⟨lw_p11, List.forall_mem_cons.mpr ⟨lw_p12, List.forall_mem_cons.mpr ⟨lw_p13, List.forall_mem_cons.mpr ⟨lw_p14, List.forall_mem_cons.mpr ⟨lw_p15, fun _ h => absurd h List.not_mem_nil⟩⟩⟩⟩⟩⟩⟩⟩⟩⟩⟩⟩⟩⟩⟩⟩
theorem lw_p16 : lw_okq (⟨"BirdOffice", "purseAt", "(II)LBirdOffice$Purse;"⟩, 10) := ⟨⟨by decide +kernel, by decide +kernel⟩, List.mem_of_getElem? (i := 28) (by decide +kernel), List.mem_of_getElem? (i := 722) (by decide +kernel), List.mem_of_getElem? (i := 723) (by decide +kernel)⟩
theorem lw_p17 : lw_okq (⟨"BirdOffice", "rankInto", "(LBirdOffice$Ranking;LBirdOffice$Flight;II)V"⟩, 10) := ⟨⟨by decide +kernel, by decide +kernel⟩, List.mem_of_getElem? (i := 28) (by decide +kernel), List.mem_of_getElem? (i := 738) (by decide +kernel), List.mem_of_getElem? (i := 739) (by decide +kernel)⟩
theorem lw_p18 : lw_okq (⟨"BirdOffice$Flight", "doesCount", "(IJ)Z"⟩, 18) := ⟨⟨by decide +kernel, by decide +kernel⟩, List.mem_of_getElem? (i := 580) (by decide +kernel), List.mem_of_getElem? (i := 755) (by decide +kernel), List.mem_of_getElem? (i := 756) (by decide +kernel)⟩
theorem lw_p19 : lw_okq (⟨"BirdOffice$Flight", "isEarlier", "(II)Z"⟩, 18) := ⟨⟨by decide +kernel, by decide +kernel⟩, List.mem_of_getElem? (i := 580) (by decide +kernel), List.mem_of_getElem? (i := 767) (by decide +kernel), List.mem_of_getElem? (i := 768) (by decide +kernel)⟩
theorem lw_p20 : lw_okq (⟨"BirdOffice$Ranking", "move", "(II)V"⟩, 7) := ⟨⟨by decide +kernel, by decide +kernel⟩, List.mem_of_getElem? (i := 161) (by decide +kernel), List.mem_of_getElem? (i := 819) (by decide +kernel), List.mem_of_getElem? (i := 820) (by decide +kernel)⟩
theorem lw_p21 : lw_okq (⟨"BirdOffice", "payoutOf", "(III)LBirdOffice$Payout;"⟩, 10) := ⟨⟨by decide +kernel, by decide +kernel⟩, List.mem_of_getElem? (i := 28) (by decide +kernel), List.mem_of_getElem? (i := 859) (by decide +kernel), List.mem_of_getElem? (i := 860) (by decide +kernel)⟩
theorem lw_p22 : lw_okq (⟨"BirdOffice", "settle", "(LBirdOffice$Payout;LBirdOffice$Flight;II)V"⟩, 10) := ⟨⟨by decide +kernel, by decide +kernel⟩, List.mem_of_getElem? (i := 28) (by decide +kernel), List.mem_of_getElem? (i := 863) (by decide +kernel), List.mem_of_getElem? (i := 864) (by decide +kernel)⟩
theorem lw_p23 : lw_okq (⟨"BirdOffice$Payout", "payEach", "(LBirdOffice$Ranking;III)V"⟩, 4) := ⟨⟨by decide +kernel, by decide +kernel⟩, List.mem_of_getElem? (i := 190) (by decide +kernel), List.mem_of_getElem? (i := 890) (by decide +kernel), List.mem_of_getElem? (i := 891) (by decide +kernel)⟩
theorem lw_p24 : lw_okq (⟨"BirdOffice", "countStrikes", "()I"⟩, 10) := ⟨⟨by decide +kernel, by decide +kernel⟩, List.mem_of_getElem? (i := 28) (by decide +kernel), List.mem_of_getElem? (i := 929) (by decide +kernel), List.mem_of_getElem? (i := 930) (by decide +kernel)⟩
theorem lw_p25 : lw_okq (⟨"BirdOffice", "countClosed", "()I"⟩, 10) := ⟨⟨by decide +kernel, by decide +kernel⟩, List.mem_of_getElem? (i := 28) (by decide +kernel), List.mem_of_getElem? (i := 937) (by decide +kernel), List.mem_of_getElem? (i := 938) (by decide +kernel)⟩
theorem lw_p26 : lw_okq (⟨"java/lang/Throwable", "fillInStackTrace", "(I)Ljava/lang/Throwable;"⟩, 6) := ⟨⟨by decide +kernel, by decide +kernel⟩, List.mem_of_getElem? (i := 995) (by decide +kernel), List.mem_of_getElem? (i := 993) (by decide +kernel), List.mem_of_getElem? (i := 994) (by decide +kernel)⟩
theorem lw_p27 : lw_okq (⟨"BirdOfficeModel", "text", "()Z"⟩, 66) := ⟨⟨by decide +kernel, by decide +kernel⟩, List.mem_of_getElem? (i := 1048) (by decide +kernel), List.mem_of_getElem? (i := 1266) (by decide +kernel), List.mem_of_getElem? (i := 1267) (by decide +kernel)⟩
theorem lw_p28 : lw_okq (⟨"BirdOfficeModel", "take", "()Z"⟩, 66) := ⟨⟨by decide +kernel, by decide +kernel⟩, List.mem_of_getElem? (i := 1048) (by decide +kernel), List.mem_of_getElem? (i := 1270) (by decide +kernel), List.mem_of_getElem? (i := 1271) (by decide +kernel)⟩
theorem lw_p29 : lw_okq (⟨"BirdOfficeModel", "isSmall", "(I)Z"⟩, 66) := ⟨⟨by decide +kernel, by decide +kernel⟩, List.mem_of_getElem? (i := 1048) (by decide +kernel), List.mem_of_getElem? (i := 1274) (by decide +kernel), List.mem_of_getElem? (i := 1275) (by decide +kernel)⟩
theorem lw_p30 : lw_okq (⟨"BirdOfficeModel", "wordOf", "(II)I"⟩, 66) := ⟨⟨by decide +kernel, by decide +kernel⟩, List.mem_of_getElem? (i := 1048) (by decide +kernel), List.mem_of_getElem? (i := 1278) (by decide +kernel), List.mem_of_getElem? (i := 1279) (by decide +kernel)⟩
theorem lw_p31 : lw_okq (⟨"BirdOfficeModel", "spells", "(IIIIIII)Z"⟩, 66) := ⟨⟨by decide +kernel, by decide +kernel⟩, List.mem_of_getElem? (i := 1048) (by decide +kernel), List.mem_of_getElem? (i := 1282) (by decide +kernel), List.mem_of_getElem? (i := 1283) (by decide +kernel)⟩
def lw_privs_2 : List (MethodName × Nat) := [(⟨"BirdOffice", "purseAt", "(II)LBirdOffice$Purse;"⟩, 10), (⟨"BirdOffice", "rankInto", "(LBirdOffice$Ranking;LBirdOffice$Flight;II)V"⟩, 10), (⟨"BirdOffice$Flight", "doesCount", "(IJ)Z"⟩, 18), (⟨"BirdOffice$Flight", "isEarlier", "(II)Z"⟩, 18), (⟨"BirdOffice$Ranking", "move", "(II)V"⟩, 7), (⟨"BirdOffice", "payoutOf", "(III)LBirdOffice$Payout;"⟩, 10), (⟨"BirdOffice", "settle", "(LBirdOffice$Payout;LBirdOffice$Flight;II)V"⟩, 10), (⟨"BirdOffice$Payout", "payEach", "(LBirdOffice$Ranking;III)V"⟩, 4), (⟨"BirdOffice", "countStrikes", "()I"⟩, 10), (⟨"BirdOffice", "countClosed", "()I"⟩, 10), (⟨"java/lang/Throwable", "fillInStackTrace", "(I)Ljava/lang/Throwable;"⟩, 6), (⟨"BirdOfficeModel", "text", "()Z"⟩, 66), (⟨"BirdOfficeModel", "take", "()Z"⟩, 66), (⟨"BirdOfficeModel", "isSmall", "(I)Z"⟩, 66), (⟨"BirdOfficeModel", "wordOf", "(II)I"⟩, 66), (⟨"BirdOfficeModel", "spells", "(IIIIIII)Z"⟩, 66)]
theorem lw_r2 : ∀ q ∈ lw_privs_2, lw_okq q := List.forall_mem_cons.mpr ⟨lw_p16, List.forall_mem_cons.mpr ⟨lw_p17, List.forall_mem_cons.mpr ⟨lw_p18, List.forall_mem_cons.mpr ⟨lw_p19, List.forall_mem_cons.mpr ⟨lw_p20, List.forall_mem_cons.mpr ⟨lw_p21, List.forall_mem_cons.mpr ⟨lw_p22, List.forall_mem_cons.mpr ⟨lw_p23, List.forall_mem_cons.mpr ⟨lw_p24, List.forall_mem_cons.mpr ⟨lw_p25, List.forall_mem_cons.mpr ⟨lw_p26, List.forall_mem_cons.mpr ⟨lw_p27, List.forall_mem_cons.mpr ⟨lw_p28, List.forall_mem_cons.mpr ⟨lw_p29, List.forall_mem_cons.mpr ⟨lw_p30, List.forall_mem_cons.mpr ⟨lw_p31, fun _ h => absurd h List.not_mem_nil⟩⟩⟩⟩⟩⟩⟩⟩⟩⟩⟩⟩⟩⟩⟩⟩
theorem lw_p32 : lw_okq (⟨"BirdOfficeModel", "wrong", "(II)Z"⟩, 66) := ⟨⟨by decide +kernel, by decide +kernel⟩, List.mem_of_getElem? (i := 1048) (by decide +kernel), List.mem_of_getElem? (i := 1286) (by decide +kernel), List.mem_of_getElem? (i := 1287) (by decide +kernel)⟩
theorem lw_p33 : lw_okq (⟨"BirdOfficeModel", "isDigit", "(I)Z"⟩, 66) := ⟨⟨by decide +kernel, by decide +kernel⟩, List.mem_of_getElem? (i := 1048) (by decide +kernel), List.mem_of_getElem? (i := 1290) (by decide +kernel), List.mem_of_getElem? (i := 1291) (by decide +kernel)⟩
theorem lw_p34 : lw_okq (⟨"BirdOfficeModel", "is", "(II)Z"⟩, 66) := ⟨⟨by decide +kernel, by decide +kernel⟩, List.mem_of_getElem? (i := 1048) (by decide +kernel), List.mem_of_getElem? (i := 1295) (by decide +kernel), List.mem_of_getElem? (i := 1296) (by decide +kernel)⟩
theorem lw_p35 : lw_okq (⟨"BirdOfficeModel", "need", "(II)Z"⟩, 66) := ⟨⟨by decide +kernel, by decide +kernel⟩, List.mem_of_getElem? (i := 1048) (by decide +kernel), List.mem_of_getElem? (i := 1299) (by decide +kernel), List.mem_of_getElem? (i := 1300) (by decide +kernel)⟩
theorem lw_p36 : lw_okq (⟨"BirdOfficeModel", "item", "(I)Z"⟩, 66) := ⟨⟨by decide +kernel, by decide +kernel⟩, List.mem_of_getElem? (i := 1048) (by decide +kernel), List.mem_of_getElem? (i := 1303) (by decide +kernel), List.mem_of_getElem? (i := 1304) (by decide +kernel)⟩
theorem lw_p37 : lw_okq (⟨"BirdOfficeModel", "condition", "(I)Z"⟩, 66) := ⟨⟨by decide +kernel, by decide +kernel⟩, List.mem_of_getElem? (i := 1048) (by decide +kernel), List.mem_of_getElem? (i := 1307) (by decide +kernel), List.mem_of_getElem? (i := 1308) (by decide +kernel)⟩
theorem lw_p38 : lw_okq (⟨"BirdOfficeModel", "emit", "(III)V"⟩, 66) := ⟨⟨by decide +kernel, by decide +kernel⟩, List.mem_of_getElem? (i := 1048) (by decide +kernel), List.mem_of_getElem? (i := 1311) (by decide +kernel), List.mem_of_getElem? (i := 1312) (by decide +kernel)⟩
theorem lw_p39 : lw_okq (⟨"BirdOfficeModel", "leave", "(II)V"⟩, 66) := ⟨⟨by decide +kernel, by decide +kernel⟩, List.mem_of_getElem? (i := 1048) (by decide +kernel), List.mem_of_getElem? (i := 1315) (by decide +kernel), List.mem_of_getElem? (i := 1316) (by decide +kernel)⟩
theorem lw_p40 : lw_okq (⟨"BirdOfficeModel", "pays", "(I)Z"⟩, 66) := ⟨⟨by decide +kernel, by decide +kernel⟩, List.mem_of_getElem? (i := 1048) (by decide +kernel), List.mem_of_getElem? (i := 1319) (by decide +kernel), List.mem_of_getElem? (i := 1320) (by decide +kernel)⟩
theorem lw_p41 : lw_okq (⟨"BirdOfficeModel", "isLoft", "(I)Z"⟩, 66) := ⟨⟨by decide +kernel, by decide +kernel⟩, List.mem_of_getElem? (i := 1048) (by decide +kernel), List.mem_of_getElem? (i := 1338) (by decide +kernel), List.mem_of_getElem? (i := 1339) (by decide +kernel)⟩
theorem lw_p42 : lw_okq (⟨"BirdOfficeModel", "isFlight", "(I)Z"⟩, 66) := ⟨⟨by decide +kernel, by decide +kernel⟩, List.mem_of_getElem? (i := 1048) (by decide +kernel), List.mem_of_getElem? (i := 1357) (by decide +kernel), List.mem_of_getElem? (i := 1358) (by decide +kernel)⟩
theorem lw_p43 : lw_okq (⟨"BirdOfficeModel", "isBird", "(I)Z"⟩, 66) := ⟨⟨by decide +kernel, by decide +kernel⟩, List.mem_of_getElem? (i := 1048) (by decide +kernel), List.mem_of_getElem? (i := 1365) (by decide +kernel), List.mem_of_getElem? (i := 1366) (by decide +kernel)⟩
theorem lw_p44 : lw_okq (⟨"BirdOfficeModel", "hasTime", "(II)Z"⟩, 66) := ⟨⟨by decide +kernel, by decide +kernel⟩, List.mem_of_getElem? (i := 1048) (by decide +kernel), List.mem_of_getElem? (i := 1373) (by decide +kernel), List.mem_of_getElem? (i := 1374) (by decide +kernel)⟩
theorem lw_p45 : lw_okq (⟨"BirdOfficeModel", "canAsk", "(III)Z"⟩, 66) := ⟨⟨by decide +kernel, by decide +kernel⟩, List.mem_of_getElem? (i := 1048) (by decide +kernel), List.mem_of_getElem? (i := 1381) (by decide +kernel), List.mem_of_getElem? (i := 1382) (by decide +kernel)⟩
theorem lw_p46 : lw_okq (⟨"BirdOfficeModel", "isList", "(I)Z"⟩, 66) := ⟨⟨by decide +kernel, by decide +kernel⟩, List.mem_of_getElem? (i := 1048) (by decide +kernel), List.mem_of_getElem? (i := 1385) (by decide +kernel), List.mem_of_getElem? (i := 1386) (by decide +kernel)⟩
theorem lw_p47 : lw_okq (⟨"BirdOfficeModel", "results", "(III)V"⟩, 66) := ⟨⟨by decide +kernel, by decide +kernel⟩, List.mem_of_getElem? (i := 1048) (by decide +kernel), List.mem_of_getElem? (i := 1389) (by decide +kernel), List.mem_of_getElem? (i := 1390) (by decide +kernel)⟩
def lw_privs_3 : List (MethodName × Nat) := [(⟨"BirdOfficeModel", "wrong", "(II)Z"⟩, 66), (⟨"BirdOfficeModel", "isDigit", "(I)Z"⟩, 66), (⟨"BirdOfficeModel", "is", "(II)Z"⟩, 66), (⟨"BirdOfficeModel", "need", "(II)Z"⟩, 66), (⟨"BirdOfficeModel", "item", "(I)Z"⟩, 66), (⟨"BirdOfficeModel", "condition", "(I)Z"⟩, 66), (⟨"BirdOfficeModel", "emit", "(III)V"⟩, 66), (⟨"BirdOfficeModel", "leave", "(II)V"⟩, 66), (⟨"BirdOfficeModel", "pays", "(I)Z"⟩, 66), (⟨"BirdOfficeModel", "isLoft", "(I)Z"⟩, 66), (⟨"BirdOfficeModel", "isFlight", "(I)Z"⟩, 66), (⟨"BirdOfficeModel", "isBird", "(I)Z"⟩, 66), (⟨"BirdOfficeModel", "hasTime", "(II)Z"⟩, 66), (⟨"BirdOfficeModel", "canAsk", "(III)Z"⟩, 66), (⟨"BirdOfficeModel", "isList", "(I)Z"⟩, 66), (⟨"BirdOfficeModel", "results", "(III)V"⟩, 66)]
theorem lw_r3 : ∀ q ∈ lw_privs_3, lw_okq q := List.forall_mem_cons.mpr ⟨lw_p32, List.forall_mem_cons.mpr ⟨lw_p33, List.forall_mem_cons.mpr ⟨lw_p34, List.forall_mem_cons.mpr ⟨lw_p35, List.forall_mem_cons.mpr ⟨lw_p36, List.forall_mem_cons.mpr ⟨lw_p37, List.forall_mem_cons.mpr ⟨lw_p38, List.forall_mem_cons.mpr ⟨lw_p39, List.forall_mem_cons.mpr ⟨lw_p40, List.forall_mem_cons.mpr ⟨lw_p41, List.forall_mem_cons.mpr ⟨lw_p42, List.forall_mem_cons.mpr ⟨lw_p43, List.forall_mem_cons.mpr ⟨lw_p44, List.forall_mem_cons.mpr ⟨lw_p45, List.forall_mem_cons.mpr ⟨lw_p46, List.forall_mem_cons.mpr ⟨lw_p47, fun _ h => absurd h List.not_mem_nil⟩⟩⟩⟩⟩⟩⟩⟩⟩⟩⟩⟩⟩⟩⟩⟩
theorem lw_p48 : lw_okq (⟨"BirdOfficeModel", "find", "(III)V"⟩, 66) := ⟨⟨by decide +kernel, by decide +kernel⟩, List.mem_of_getElem? (i := 1048) (by decide +kernel), List.mem_of_getElem? (i := 1393) (by decide +kernel), List.mem_of_getElem? (i := 1394) (by decide +kernel)⟩
theorem lw_p49 : lw_okq (⟨"BirdOfficeModel", "isGone", "(III)Z"⟩, 66) := ⟨⟨by decide +kernel, by decide +kernel⟩, List.mem_of_getElem? (i := 1048) (by decide +kernel), List.mem_of_getElem? (i := 1397) (by decide +kernel), List.mem_of_getElem? (i := 1398) (by decide +kernel)⟩
theorem lw_p50 : lw_okq (⟨"BirdOfficeModel", "holds", "(II)Z"⟩, 66) := ⟨⟨by decide +kernel, by decide +kernel⟩, List.mem_of_getElem? (i := 1048) (by decide +kernel), List.mem_of_getElem? (i := 1401) (by decide +kernel), List.mem_of_getElem? (i := 1402) (by decide +kernel)⟩
theorem lw_p51 : lw_okq (⟨"BirdOfficeModel", "over", "(III)I"⟩, 66) := ⟨⟨by decide +kernel, by decide +kernel⟩, List.mem_of_getElem? (i := 1048) (by decide +kernel), List.mem_of_getElem? (i := 1405) (by decide +kernel), List.mem_of_getElem? (i := 1406) (by decide +kernel)⟩
theorem lw_p52 : lw_okq (⟨"BirdOfficeModel", "way", "(II)J"⟩, 66) := ⟨⟨by decide +kernel, by decide +kernel⟩, List.mem_of_getElem? (i := 1048) (by decide +kernel), List.mem_of_getElem? (i := 1409) (by decide +kernel), List.mem_of_getElem? (i := 1410) (by decide +kernel)⟩
theorem lw_p53 : lw_okq (⟨"BirdOfficeModel", "square", "([JJJ)V"⟩, 66) := ⟨⟨by decide +kernel, by decide +kernel⟩, List.mem_of_getElem? (i := 1048) (by decide +kernel), List.mem_of_getElem? (i := 1413) (by decide +kernel), List.mem_of_getElem? (i := 1414) (by decide +kernel)⟩
theorem lw_p54 : lw_okq (⟨"BirdOfficeModel", "tells", "([IIII)Z"⟩, 66) := ⟨⟨by decide +kernel, by decide +kernel⟩, List.mem_of_getElem? (i := 1048) (by decide +kernel), List.mem_of_getElem? (i := 1434) (by decide +kernel), List.mem_of_getElem? (i := 1435) (by decide +kernel)⟩
theorem lw_p55 : lw_okq (⟨"BirdOfficeModel", "work", "(III)V"⟩, 66) := ⟨⟨by decide +kernel, by decide +kernel⟩, List.mem_of_getElem? (i := 1048) (by decide +kernel), List.mem_of_getElem? (i := 1455) (by decide +kernel), List.mem_of_getElem? (i := 1456) (by decide +kernel)⟩
def lw_privs_4 : List (MethodName × Nat) := [(⟨"BirdOfficeModel", "find", "(III)V"⟩, 66), (⟨"BirdOfficeModel", "isGone", "(III)Z"⟩, 66), (⟨"BirdOfficeModel", "holds", "(II)Z"⟩, 66), (⟨"BirdOfficeModel", "over", "(III)I"⟩, 66), (⟨"BirdOfficeModel", "way", "(II)J"⟩, 66), (⟨"BirdOfficeModel", "square", "([JJJ)V"⟩, 66), (⟨"BirdOfficeModel", "tells", "([IIII)Z"⟩, 66), (⟨"BirdOfficeModel", "work", "(III)V"⟩, 66)]
theorem lw_r4 : ∀ q ∈ lw_privs_4, lw_okq q := List.forall_mem_cons.mpr ⟨lw_p48, List.forall_mem_cons.mpr ⟨lw_p49, List.forall_mem_cons.mpr ⟨lw_p50, List.forall_mem_cons.mpr ⟨lw_p51, List.forall_mem_cons.mpr ⟨lw_p52, List.forall_mem_cons.mpr ⟨lw_p53, List.forall_mem_cons.mpr ⟨lw_p54, List.forall_mem_cons.mpr ⟨lw_p55, fun _ h => absurd h List.not_mem_nil⟩⟩⟩⟩⟩⟩⟩⟩
def lw_privs : List (MethodName × Nat) := lw_privs_1 ++ (lw_privs_2 ++ (lw_privs_3 ++ (lw_privs_4)))
def lw_tbl : List Cond := k2_sels lw_privs ++ tables_1
theorem lw_privs_ok : ∀ q ∈ lw_privs, lw_okq q := by
  show ∀ q ∈ lw_privs_1 ++ (lw_privs_2 ++ (lw_privs_3 ++ (lw_privs_4))), lw_okq q
  exact List.forall_mem_append.mpr ⟨lw_r1, List.forall_mem_append.mpr ⟨lw_r2, List.forall_mem_append.mpr ⟨lw_r3, lw_r4⟩⟩⟩
def RX0 : String := "BirdOffice$Book"
def TX0 : u_T := fun k => match k with
  | 0 => ("BirdOffice$Book", "most", "[I", true)
  | 1 => ("BirdOffice$Book", "until", "[I", true)
  | 2 => ("BirdOffice$Book", "stepStart", "[I", true)
  | 3 => ("BirdOffice$Book", "stepEnd", "[I", true)
  | 4 => ("BirdOffice$Book", "payCount", "[I", true)
  | 5 => ("BirdOffice$Book", "pays", "[I", true)
  | 6 => ("BirdOffice$Book", "steps", "[I", true)
  | 7 => ("BirdOffice$Book", "numbers", "[I", true)
  | 8 => ("BirdOffice$Book", "stepCount", "I", false)
  | _ => ("BirdOffice$Book", "size", "I", false)
def tyX0 : Nat → FieldType := fun k => match k with
  | 0 => .array .int
  | 1 => .array .int
  | 2 => .array .int
  | 3 => .array .int
  | 4 => .array .int
  | 5 => .array .int
  | 6 => .array .int
  | 7 => .array .int
  | 8 => .int
  | _ => .int
abbrev wsX00 : List Cond := u_ws RX0 TX0 10
theorem nmX0 : ∀ a, a < 10 → ∀ b, b < 10 → a ≠ b → (TX0 a).2.1 ≠ (TX0 b).2.1 := by decide +kernel
theorem tyX0_ok : ∀ k, k < 10 → parseFieldDescriptor (TX0 k).2.2.1 = some (tyX0 k) := by decide +kernel
abbrev cX0_init : ByteArray := prog_2_method_1_code
def yX0_init : MethodName := ⟨RX0, "<init>", "()V"⟩
abbrev cX0_empty : ByteArray := prog_2_method_2_code
def yX0_empty : MethodName := ⟨RX0, "empty", "()V"⟩
abbrev cX0_copyFrom : ByteArray := prog_2_method_3_code
def yX0_copyFrom : MethodName := ⟨RX0, "copyFrom", "(LBirdOffice$Book;)V"⟩
abbrev cX0_size : ByteArray := prog_2_method_4_code
def yX0_size : MethodName := ⟨RX0, "size", "()I"⟩
abbrev cX0_hasList : ByteArray := prog_2_method_5_code
def yX0_hasList : MethodName := ⟨RX0, "hasList", "(I)Z"⟩
abbrev cX0_addList : ByteArray := prog_2_method_6_code
def yX0_addList : MethodName := ⟨RX0, "addList", "()V"⟩
abbrev cX0_hasItem : ByteArray := prog_2_method_7_code
def yX0_hasItem : MethodName := ⟨RX0, "hasItem", "(LBirdOffice$Token;)Z"⟩
abbrev cX0_setLimit : ByteArray := prog_2_method_8_code
def yX0_setLimit : MethodName := ⟨RX0, "setLimit", "(LBirdOffice$Token;I)V"⟩
abbrev cX0_addPay : ByteArray := prog_2_method_9_code
def yX0_addPay : MethodName := ⟨RX0, "addPay", "(I)V"⟩
abbrev cX0_addStep : ByteArray := prog_2_method_10_code
def yX0_addStep : MethodName := ⟨RX0, "addStep", "(II)V"⟩
abbrev cX0_mostOf : ByteArray := prog_2_method_11_code
def yX0_mostOf : MethodName := ⟨RX0, "mostOf", "(I)I"⟩
abbrev cX0_untilOf : ByteArray := prog_2_method_12_code
def yX0_untilOf : MethodName := ⟨RX0, "untilOf", "(I)I"⟩
abbrev cX0_payAt : ByteArray := prog_2_method_13_code
def yX0_payAt : MethodName := ⟨RX0, "payAt", "(II)I"⟩
abbrev cX0_holds : ByteArray := prog_2_method_14_code
def yX0_holds : MethodName := ⟨RX0, "holds", "(ILBirdOffice$Club;I)Z"⟩
abbrev cX0_isTrue : ByteArray := prog_2_method_15_code
def yX0_isTrue : MethodName := ⟨RX0, "isTrue", "(III)Z"⟩
def RX1 : String := "BirdOffice$Club"
def TX1 : u_T := fun k => match k with
  | 0 => ("BirdOffice$Club", "loftX", "[I", true)
  | 1 => ("BirdOffice$Club", "loftY", "[I", true)
  | 2 => ("BirdOffice$Club", "birdLoft", "[I", true)
  | 3 => ("BirdOffice$Club", "birdYear", "[I", true)
  | 4 => ("BirdOffice$Club", "birdSex", "[I", true)
  | 5 => ("BirdOffice$Club", "lofts", "I", false)
  | _ => ("BirdOffice$Club", "birds", "I", false)
def tyX1 : Nat → FieldType := fun k => match k with
  | 0 => .array .int
  | 1 => .array .int
  | 2 => .array .int
  | 3 => .array .int
  | 4 => .array .int
  | 5 => .int
  | _ => .int
abbrev wsX10 : List Cond := u_ws RX1 TX1 7
theorem nmX1 : ∀ a, a < 7 → ∀ b, b < 7 → a ≠ b → (TX1 a).2.1 ≠ (TX1 b).2.1 := by decide +kernel
theorem tyX1_ok : ∀ k, k < 7 → parseFieldDescriptor (TX1 k).2.2.1 = some (tyX1 k) := by decide +kernel
abbrev cX1_init : ByteArray := prog_3_method_1_code
def yX1_init : MethodName := ⟨RX1, "<init>", "()V"⟩
abbrev cX1_loftCount : ByteArray := prog_3_method_2_code
def yX1_loftCount : MethodName := ⟨RX1, "loftCount", "()I"⟩
abbrev cX1_birdCount : ByteArray := prog_3_method_3_code
def yX1_birdCount : MethodName := ⟨RX1, "birdCount", "()I"⟩
abbrev cX1_hasLoft : ByteArray := prog_3_method_4_code
def yX1_hasLoft : MethodName := ⟨RX1, "hasLoft", "(I)Z"⟩
abbrev cX1_hasBird : ByteArray := prog_3_method_5_code
def yX1_hasBird : MethodName := ⟨RX1, "hasBird", "(I)Z"⟩
abbrev cX1_addLoft : ByteArray := prog_3_method_6_code
def yX1_addLoft : MethodName := ⟨RX1, "addLoft", "(II)I"⟩
abbrev cX1_addBird : ByteArray := prog_3_method_7_code
def yX1_addBird : MethodName := ⟨RX1, "addBird", "(III)I"⟩
abbrev cX1_factOf : ByteArray := prog_3_method_8_code
def yX1_factOf : MethodName := ⟨RX1, "factOf", "(II)I"⟩
abbrev cX1_waySquared : ByteArray := prog_3_method_9_code
def yX1_waySquared : MethodName := ⟨RX1, "waySquared", "(III)J"⟩
def RX2 : String := "BirdOffice$Flight"
def TX2 : u_T := fun k => match k with
  | 0 => ("BirdOffice$Flight", "x", "I", true)
  | 1 => ("BirdOffice$Flight", "y", "I", true)
  | 2 => ("BirdOffice$Flight", "released", "I", true)
  | 3 => ("BirdOffice$Flight", "closed", "I", true)
  | 4 => ("BirdOffice$Flight", "day", "I", true)
  | 5 => ("BirdOffice$Flight", "clockSet", "[I", true)
  | 6 => ("BirdOffice$Flight", "clockRead", "[I", true)
  | 7 => ("BirdOffice$Flight", "clockShown", "[I", true)
  | 8 => ("BirdOffice$Flight", "strikeLoft", "[I", true)
  | 9 => ("BirdOffice$Flight", "strikeBird", "[I", true)
  | 10 => ("BirdOffice$Flight", "strikeSecond", "[I", true)
  | 11 => ("BirdOffice$Flight", "strikeDay", "[I", true)
  | 12 => ("BirdOffice$Flight", "timeUpper", "[J", true)
  | 13 => ("BirdOffice$Flight", "timeLower", "[J", true)
  | 14 => ("BirdOffice$Flight", "protestDay", "[I", true)
  | 15 => ("BirdOffice$Flight", "withdrawalDay", "[I", true)
  | 16 => ("BirdOffice$Flight", "purses", "[LBirdOffice$Purse;", true)
  | _ => ("BirdOffice$Flight", "strikes", "I", false)
def tyX2 : Nat → FieldType := fun k => match k with
  | 0 => .int
  | 1 => .int
  | 2 => .int
  | 3 => .int
  | 4 => .int
  | 5 => .array .int
  | 6 => .array .int
  | 7 => .array .int
  | 8 => .array .int
  | 9 => .array .int
  | 10 => .array .int
  | 11 => .array .int
  | 12 => .array .long
  | 13 => .array .long
  | 14 => .array .int
  | 15 => .array .int
  | 16 => .array (.object "BirdOffice$Purse")
  | _ => .int
abbrev wsX20 : List Cond := u_ws RX2 TX2 18
theorem nmX2 : ∀ a, a < 18 → ∀ b, b < 18 → a ≠ b → (TX2 a).2.1 ≠ (TX2 b).2.1 := by decide +kernel
theorem tyX2_ok : ∀ k, k < 18 → parseFieldDescriptor (TX2 k).2.2.1 = some (tyX2 k) := by decide +kernel
abbrev cX2_init : ByteArray := prog_4_method_1_code
def yX2_init : MethodName := ⟨RX2, "<init>", "(IIIII)V"⟩
abbrev cX2_setClock : ByteArray := prog_4_method_2_code
def yX2_setClock : MethodName := ⟨RX2, "setClock", "(IIII)V"⟩
abbrev cX2_addStrike : ByteArray := prog_4_method_3_code
def yX2_addStrike : MethodName := ⟨RX2, "addStrike", "(IIII)I"⟩
abbrev cX2_setTime : ByteArray := prog_4_method_4_code
def yX2_setTime : MethodName := ⟨RX2, "setTime", "(II)V"⟩
abbrev cX2_strikeCount : ByteArray := prog_4_method_5_code
def yX2_strikeCount : MethodName := ⟨RX2, "strikeCount", "()I"⟩
abbrev cX2_hasStrike : ByteArray := prog_4_method_6_code
def yX2_hasStrike : MethodName := ⟨RX2, "hasStrike", "(I)Z"⟩
abbrev cX2_upperOf : ByteArray := prog_4_method_7_code
def yX2_upperOf : MethodName := ⟨RX2, "upperOf", "(I)J"⟩
abbrev cX2_lowerOf : ByteArray := prog_4_method_8_code
def yX2_lowerOf : MethodName := ⟨RX2, "lowerOf", "(I)J"⟩
abbrev cX2_velocityUpper : ByteArray := prog_4_method_9_code
def yX2_velocityUpper : MethodName := ⟨RX2, "velocityUpper", "(IJ)J"⟩
abbrev cX2_velocityLower : ByteArray := prog_4_method_10_code
def yX2_velocityLower : MethodName := ⟨RX2, "velocityLower", "(I)J"⟩
abbrev cX2_findEarliest : ByteArray := prog_4_method_11_code
def yX2_findEarliest : MethodName := ⟨RX2, "findEarliest", "([III)V"⟩
abbrev cX2_doesCount : ByteArray := prog_4_method_12_code
def yX2_doesCount : MethodName := ⟨RX2, "doesCount", "(IJ)Z"⟩
abbrev cX2_isEarlier : ByteArray := prog_4_method_13_code
def yX2_isEarlier : MethodName := ⟨RX2, "isEarlier", "(II)Z"⟩
abbrev cX2_addProtest : ByteArray := prog_4_method_14_code
def yX2_addProtest : MethodName := ⟨RX2, "addProtest", "(II)V"⟩
abbrev cX2_dropProtests : ByteArray := prog_4_method_15_code
def yX2_dropProtests : MethodName := ⟨RX2, "dropProtests", "(I)Z"⟩
abbrev cX2_addWithdrawal : ByteArray := prog_4_method_16_code
def yX2_addWithdrawal : MethodName := ⟨RX2, "addWithdrawal", "(II)V"⟩
abbrev cX2_isWithdrawn : ByteArray := prog_4_method_17_code
def yX2_isWithdrawn : MethodName := ⟨RX2, "isWithdrawn", "(II)Z"⟩
abbrev cX2_isOut : ByteArray := prog_4_method_18_code
def yX2_isOut : MethodName := ⟨RX2, "isOut", "(II)Z"⟩
abbrev cX2_purseOf : ByteArray := prog_4_method_19_code
def yX2_purseOf : MethodName := ⟨RX2, "purseOf", "(I)LBirdOffice$Purse;"⟩
abbrev cX2_hasStakes : ByteArray := prog_4_method_20_code
def yX2_hasStakes : MethodName := ⟨RX2, "hasStakes", "()Z"⟩
abbrev cX2_openPurses : ByteArray := prog_4_method_21_code
def yX2_openPurses : MethodName := ⟨RX2, "openPurses", "()V"⟩
abbrev cX2_closedCount : ByteArray := prog_4_method_22_code
def yX2_closedCount : MethodName := ⟨RX2, "closedCount", "()I"⟩
def RX3 : String := "BirdOffice$Payout"
def TX3 : u_T := fun k => match k with
  | 0 => ("BirdOffice$Payout", "prizes", "[I", true)
  | 1 => ("BirdOffice$Payout", "pool", "I", false)
  | 2 => ("BirdOffice$Payout", "paid", "I", false)
  | _ => ("BirdOffice$Payout", "back", "I", false)
def tyX3 : Nat → FieldType := fun k => match k with
  | 0 => .array .int
  | 1 => .int
  | 2 => .int
  | _ => .int
abbrev wsX30 : List Cond := u_ws RX3 TX3 4
theorem nmX3 : ∀ a, a < 4 → ∀ b, b < 4 → a ≠ b → (TX3 a).2.1 ≠ (TX3 b).2.1 := by decide +kernel
theorem tyX3_ok : ∀ k, k < 4 → parseFieldDescriptor (TX3 k).2.2.1 = some (tyX3 k) := by decide +kernel
abbrev cX3_init : ByteArray := prog_5_method_1_code
def yX3_init : MethodName := ⟨RX3, "<init>", "()V"⟩
abbrev cX3_tell : ByteArray := prog_5_method_2_code
def yX3_tell : MethodName := ⟨RX3, "tell", "(I)I"⟩
abbrev cX3_gather : ByteArray := prog_5_method_3_code
def yX3_gather : MethodName := ⟨RX3, "gather", "([ILBirdOffice$Flight;I)V"⟩
abbrev cX3_share : ByteArray := prog_5_method_4_code
def yX3_share : MethodName := ⟨RX3, "share", "(LBirdOffice$Ranking;LBirdOffice$Book;I)V"⟩
abbrev cX3_payEach : ByteArray := prog_5_method_5_code
def yX3_payEach : MethodName := ⟨RX3, "payEach", "(LBirdOffice$Ranking;III)V"⟩
def RX4 : String := "BirdOffice$Purse"
def TX4 : u_T := fun k => match k with
  | 0 => ("BirdOffice$Purse", "stakes", "[I", true)
  | 1 => ("BirdOffice$Purse", "fixed", "LBirdOffice$Payout;", true)
  | _ => ("BirdOffice$Purse", "closed", "Z", false)
def tyX4 : Nat → FieldType := fun k => match k with
  | 0 => .array .int
  | 1 => .object "BirdOffice$Payout"
  | _ => .boolean
abbrev wsX40 : List Cond := u_ws RX4 TX4 3
theorem nmX4 : ∀ a, a < 3 → ∀ b, b < 3 → a ≠ b → (TX4 a).2.1 ≠ (TX4 b).2.1 := by decide +kernel
theorem tyX4_ok : ∀ k, k < 3 → parseFieldDescriptor (TX4 k).2.2.1 = some (tyX4 k) := by decide +kernel
abbrev cX4_init : ByteArray := prog_6_method_1_code
def yX4_init : MethodName := ⟨RX4, "<init>", "()V"⟩
abbrev cX4_isStaked : ByteArray := prog_6_method_2_code
def yX4_isStaked : MethodName := ⟨RX4, "isStaked", "()Z"⟩
def RX5 : String := "BirdOffice$Ranking"
def TX5 : u_T := fun k => match k with
  | 0 => ("BirdOffice$Ranking", "birds", "[I", true)
  | 1 => ("BirdOffice$Ranking", "strikes", "[I", true)
  | 2 => ("BirdOffice$Ranking", "places", "[I", true)
  | 3 => ("BirdOffice$Ranking", "uppers", "[J", true)
  | 4 => ("BirdOffice$Ranking", "lowers", "[J", true)
  | 5 => ("BirdOffice$Ranking", "ofLoft", "[I", true)
  | _ => ("BirdOffice$Ranking", "size", "I", false)
def tyX5 : Nat → FieldType := fun k => match k with
  | 0 => .array .int
  | 1 => .array .int
  | 2 => .array .int
  | 3 => .array .long
  | 4 => .array .long
  | 5 => .array .int
  | _ => .int
abbrev wsX50 : List Cond := u_ws RX5 TX5 7
theorem nmX5 : ∀ a, a < 7 → ∀ b, b < 7 → a ≠ b → (TX5 a).2.1 ≠ (TX5 b).2.1 := by decide +kernel
theorem tyX5_ok : ∀ k, k < 7 → parseFieldDescriptor (TX5 k).2.2.1 = some (tyX5 k) := by decide +kernel
abbrev cX5_init : ByteArray := prog_7_method_1_code
def yX5_init : MethodName := ⟨RX5, "<init>", "()V"⟩
abbrev cX5_size : ByteArray := prog_7_method_2_code
def yX5_size : MethodName := ⟨RX5, "size", "()I"⟩
abbrev cX5_empty : ByteArray := prog_7_method_3_code
def yX5_empty : MethodName := ⟨RX5, "empty", "()V"⟩
abbrev cX5_tell : ByteArray := prog_7_method_4_code
def yX5_tell : MethodName := ⟨RX5, "tell", "(II)I"⟩
abbrev cX5_birdAt : ByteArray := prog_7_method_5_code
def yX5_birdAt : MethodName := ⟨RX5, "birdAt", "(I)I"⟩
abbrev cX5_placeOf : ByteArray := prog_7_method_6_code
def yX5_placeOf : MethodName := ⟨RX5, "placeOf", "(I)I"⟩
abbrev cX5_isTied : ByteArray := prog_7_method_7_code
def yX5_isTied : MethodName := ⟨RX5, "isTied", "(II)Z"⟩
abbrev cX5_insert : ByteArray := prog_7_method_8_code
def yX5_insert : MethodName := ⟨RX5, "insert", "(IIJJ)V"⟩
abbrev cX5_move : ByteArray := prog_7_method_9_code
def yX5_move : MethodName := ⟨RX5, "move", "(II)V"⟩
abbrev cX5_cutLofts : ByteArray := prog_7_method_10_code
def yX5_cutLofts : MethodName := ⟨RX5, "cutLofts", "(ILBirdOffice$Club;)V"⟩
abbrev cX5_keepStaked : ByteArray := prog_7_method_11_code
def yX5_keepStaked : MethodName := ⟨RX5, "keepStaked", "([I)V"⟩
abbrev cX5_setPlaces : ByteArray := prog_7_method_12_code
def yX5_setPlaces : MethodName := ⟨RX5, "setPlaces", "()V"⟩
def RX6 : String := "BirdOffice$Reader"
def TX6 : u_T := fun k => match k with
  | 0 => ("BirdOffice$Reader", "row", "LBirdOffice$TokenRow;", true)
  | 1 => ("BirdOffice$Reader", "draft", "LBirdOffice$Book;", true)
  | _ => ("BirdOffice$Reader", "faultKind", "I", false)
def tyX6 : Nat → FieldType := fun k => match k with
  | 0 => .object "BirdOffice$TokenRow"
  | 1 => .object "BirdOffice$Book"
  | _ => .int
abbrev wsX60 : List Cond := u_ws RX6 TX6 3
theorem nmX6 : ∀ a, a < 3 → ∀ b, b < 3 → a ≠ b → (TX6 a).2.1 ≠ (TX6 b).2.1 := by decide +kernel
theorem tyX6_ok : ∀ k, k < 3 → parseFieldDescriptor (TX6 k).2.2.1 = some (tyX6 k) := by decide +kernel
abbrev cX6_init : ByteArray := prog_8_method_1_code
def yX6_init : MethodName := ⟨RX6, "<init>", "()V"⟩
abbrev cX6_faultKind : ByteArray := prog_8_method_2_code
def yX6_faultKind : MethodName := ⟨RX6, "faultKind", "()I"⟩
abbrev cX6_faultPlace : ByteArray := prog_8_method_3_code
def yX6_faultPlace : MethodName := ⟨RX6, "faultPlace", "()I"⟩
abbrev cX6_readBook : ByteArray := prog_8_method_4_code
def yX6_readBook : MethodName := ⟨RX6, "readBook", "(LBirdOffice$Tape;I)Z"⟩
abbrev cX6_refuse : ByteArray := prog_8_method_5_code
def yX6_refuse : MethodName := ⟨RX6, "refuse", "(I)Z"⟩
abbrev cX6_take : ByteArray := prog_8_method_6_code
def yX6_take : MethodName := ⟨RX6, "take", "(LBirdOffice$Token;)Z"⟩
abbrev cX6_readList : ByteArray := prog_8_method_7_code
def yX6_readList : MethodName := ⟨RX6, "readList", "()Z"⟩
abbrev cX6_readItem : ByteArray := prog_8_method_8_code
def yX6_readItem : MethodName := ⟨RX6, "readItem", "()Z"⟩
abbrev cX6_readLimit : ByteArray := prog_8_method_9_code
def yX6_readLimit : MethodName := ⟨RX6, "readLimit", "(LBirdOffice$Token;)Z"⟩
abbrev cX6_readPays : ByteArray := prog_8_method_10_code
def yX6_readPays : MethodName := ⟨RX6, "readPays", "()Z"⟩
abbrev cX6_readAny : ByteArray := prog_8_method_11_code
def yX6_readAny : MethodName := ⟨RX6, "readAny", "(I)Z"⟩
abbrev cX6_readAll : ByteArray := prog_8_method_12_code
def yX6_readAll : MethodName := ⟨RX6, "readAll", "(I)Z"⟩
abbrev cX6_readFact : ByteArray := prog_8_method_13_code
def yX6_readFact : MethodName := ⟨RX6, "readFact", "(I)Z"⟩
abbrev cX6_readRound : ByteArray := prog_8_method_14_code
def yX6_readRound : MethodName := ⟨RX6, "readRound", "(I)Z"⟩
abbrev cX6_readComparison : ByteArray := prog_8_method_15_code
def yX6_readComparison : MethodName := ⟨RX6, "readComparison", "()Z"⟩
abbrev cX6_subjectOf : ByteArray := prog_8_method_16_code
def yX6_subjectOf : MethodName := ⟨RX6, "subjectOf", "(LBirdOffice$Token;)I"⟩
abbrev cX6_relationOf : ByteArray := prog_8_method_17_code
def yX6_relationOf : MethodName := ⟨RX6, "relationOf", "(LBirdOffice$Token;)I"⟩
def RX7 : String := "BirdOffice$Tape"
def TX7 : u_T := fun k => match k with
  | 0 => ("BirdOffice$Tape", "bytes", "[B", true)
  | _ => ("BirdOffice$Tape", "size", "I", false)
def tyX7 : Nat → FieldType := fun k => match k with
  | 0 => .array .byte
  | _ => .int
abbrev wsX70 : List Cond := u_ws RX7 TX7 2
theorem nmX7 : ∀ a, a < 2 → ∀ b, b < 2 → a ≠ b → (TX7 a).2.1 ≠ (TX7 b).2.1 := by decide +kernel
theorem tyX7_ok : ∀ k, k < 2 → parseFieldDescriptor (TX7 k).2.2.1 = some (tyX7 k) := by decide +kernel
abbrev cX7_init : ByteArray := prog_9_method_1_code
def yX7_init : MethodName := ⟨RX7, "<init>", "()V"⟩
abbrev cX7_size : ByteArray := prog_9_method_2_code
def yX7_size : MethodName := ⟨RX7, "size", "()I"⟩
abbrev cX7_empty : ByteArray := prog_9_method_3_code
def yX7_empty : MethodName := ⟨RX7, "empty", "()V"⟩
abbrev cX7_addNumber : ByteArray := prog_9_method_4_code
def yX7_addNumber : MethodName := ⟨RX7, "addNumber", "(I)V"⟩
abbrev cX7_byteAt : ByteArray := prog_9_method_5_code
def yX7_byteAt : MethodName := ⟨RX7, "byteAt", "(I)I"⟩
abbrev cX7_hasText : ByteArray := prog_9_method_6_code
def yX7_hasText : MethodName := ⟨RX7, "hasText", "(Ljava/lang/String;II)Z"⟩
def RX8 : String := "BirdOffice$Token"
def TX8 : u_T := fun k => match k with
  | _ => ("", "", "", false)
def tyX8 : Nat → FieldType := fun k => match k with
  | _ => .int
abbrev wsX80 : List Cond := u_ws RX8 TX8 0
theorem nmX8 : ∀ a, a < 0 → ∀ b, b < 0 → a ≠ b → (TX8 a).2.1 ≠ (TX8 b).2.1 := by decide +kernel
theorem tyX8_ok : ∀ k, k < 0 → parseFieldDescriptor (TX8 k).2.2.1 = some (tyX8 k) := by decide +kernel
def RX9 : String := "BirdOffice$TokenRow"
def TX9 : u_T := fun k => match k with
  | 0 => ("BirdOffice$TokenRow", "kinds", "[LBirdOffice$Token;", true)
  | 1 => ("BirdOffice$TokenRow", "places", "[I", true)
  | 2 => ("BirdOffice$TokenRow", "values", "[I", true)
  | 3 => ("BirdOffice$TokenRow", "size", "I", false)
  | _ => ("BirdOffice$TokenRow", "next", "I", false)
def tyX9 : Nat → FieldType := fun k => match k with
  | 0 => .array (.object "BirdOffice$Token")
  | 1 => .array .int
  | 2 => .array .int
  | 3 => .int
  | _ => .int
abbrev wsX90 : List Cond := u_ws RX9 TX9 5
theorem nmX9 : ∀ a, a < 5 → ∀ b, b < 5 → a ≠ b → (TX9 a).2.1 ≠ (TX9 b).2.1 := by decide +kernel
theorem tyX9_ok : ∀ k, k < 5 → parseFieldDescriptor (TX9 k).2.2.1 = some (tyX9 k) := by decide +kernel
abbrev cX9_init : ByteArray := prog_11_method_1_code
def yX9_init : MethodName := ⟨RX9, "<init>", "()V"⟩
abbrev cX9_scan : ByteArray := prog_11_method_2_code
def yX9_scan : MethodName := ⟨RX9, "scan", "(LBirdOffice$Tape;I)V"⟩
abbrev cX9_kind : ByteArray := prog_11_method_3_code
def yX9_kind : MethodName := ⟨RX9, "kind", "()LBirdOffice$Token;"⟩
abbrev cX9_sees : ByteArray := prog_11_method_4_code
def yX9_sees : MethodName := ⟨RX9, "sees", "(LBirdOffice$Token;)Z"⟩
abbrev cX9_place : ByteArray := prog_11_method_5_code
def yX9_place : MethodName := ⟨RX9, "place", "()I"⟩
abbrev cX9_value : ByteArray := prog_11_method_6_code
def yX9_value : MethodName := ⟨RX9, "value", "()I"⟩
abbrev cX9_pass : ByteArray := prog_11_method_7_code
def yX9_pass : MethodName := ⟨RX9, "pass", "()V"⟩
abbrev cX9_addToken : ByteArray := prog_11_method_8_code
def yX9_addToken : MethodName := ⟨RX9, "addToken", "(LBirdOffice$Token;II)V"⟩
abbrev cX9_isLetter : ByteArray := prog_11_method_9_code
def yX9_isLetter : MethodName := ⟨RX9, "isLetter", "(I)Z"⟩
abbrev cX9_isDigit : ByteArray := prog_11_method_10_code
def yX9_isDigit : MethodName := ⟨RX9, "isDigit", "(I)Z"⟩
abbrev cX9_endOfRun : ByteArray := prog_11_method_11_code
def yX9_endOfRun : MethodName := ⟨RX9, "endOfRun", "(LBirdOffice$Tape;II)I"⟩
abbrev cX9_numberIn : ByteArray := prog_11_method_12_code
def yX9_numberIn : MethodName := ⟨RX9, "numberIn", "(LBirdOffice$Tape;II)I"⟩
abbrev cX9_kindOf : ByteArray := prog_11_method_13_code
def yX9_kindOf : MethodName := ⟨RX9, "kindOf", "(LBirdOffice$Tape;II)LBirdOffice$Token;"⟩
def RX10 : String := "BirdOffice"
def TX10 : u_T := fun k => match k with
  | 0 => ("BirdOffice", "tape", "LBirdOffice$Tape;", true)
  | 1 => ("BirdOffice", "reader", "LBirdOffice$Reader;", true)
  | 2 => ("BirdOffice", "book", "LBirdOffice$Book;", true)
  | 3 => ("BirdOffice", "club", "LBirdOffice$Club;", true)
  | 4 => ("BirdOffice", "flights", "[LBirdOffice$Flight;", true)
  | 5 => ("BirdOffice", "flightCount", "I", false)
  | 6 => ("BirdOffice", "told", "LBirdOffice$Ranking;", true)
  | 7 => ("BirdOffice", "work", "LBirdOffice$Ranking;", true)
  | 8 => ("BirdOffice", "draft", "LBirdOffice$Payout;", true)
  | _ => ("BirdOffice", "earliest", "[I", true)
def tyX10 : Nat → FieldType := fun k => match k with
  | 0 => .object "BirdOffice$Tape"
  | 1 => .object "BirdOffice$Reader"
  | 2 => .object "BirdOffice$Book"
  | 3 => .object "BirdOffice$Club"
  | 4 => .array (.object "BirdOffice$Flight")
  | 5 => .int
  | 6 => .object "BirdOffice$Ranking"
  | 7 => .object "BirdOffice$Ranking"
  | 8 => .object "BirdOffice$Payout"
  | _ => .array .int
abbrev wsX100 : List Cond := u_ws RX10 TX10 10
theorem nmX10 : ∀ a, a < 10 → ∀ b, b < 10 → a ≠ b → (TX10 a).2.1 ≠ (TX10 b).2.1 := by decide +kernel
theorem tyX10_ok : ∀ k, k < 10 → parseFieldDescriptor (TX10 k).2.2.1 = some (tyX10 k) := by decide +kernel
abbrev cX10_init : ByteArray := prog_1_method_1_code
def yX10_init : MethodName := ⟨RX10, "<init>", "()V"⟩
abbrev cX10_feed : ByteArray := prog_1_method_2_code
def yX10_feed : MethodName := ⟨RX10, "feed", "(IIIII)I"⟩
abbrev cX10_lists : ByteArray := prog_1_method_3_code
def yX10_lists : MethodName := ⟨RX10, "lists", "(I)I"⟩
abbrev cX10_fault : ByteArray := prog_1_method_4_code
def yX10_fault : MethodName := ⟨RX10, "fault", "(I)I"⟩
abbrev cX10_loft : ByteArray := prog_1_method_5_code
def yX10_loft : MethodName := ⟨RX10, "loft", "(II)I"⟩
abbrev cX10_bird : ByteArray := prog_1_method_6_code
def yX10_bird : MethodName := ⟨RX10, "bird", "(III)I"⟩
abbrev cX10_flight : ByteArray := prog_1_method_7_code
def yX10_flight : MethodName := ⟨RX10, "flight", "(IIIII)I"⟩
abbrev cX10_clock : ByteArray := prog_1_method_8_code
def yX10_clock : MethodName := ⟨RX10, "clock", "(IIIII)Z"⟩
abbrev cX10_strike : ByteArray := prog_1_method_9_code
def yX10_strike : MethodName := ⟨RX10, "strike", "(IIIII)I"⟩
abbrev cX10_time : ByteArray := prog_1_method_10_code
def yX10_time : MethodName := ⟨RX10, "time", "(III)J"⟩
abbrev cX10_protest : ByteArray := prog_1_method_11_code
def yX10_protest : MethodName := ⟨RX10, "protest", "(III)Z"⟩
abbrev cX10_clear : ByteArray := prog_1_method_12_code
def yX10_clear : MethodName := ⟨RX10, "clear", "(II)Z"⟩
abbrev cX10_withdraw : ByteArray := prog_1_method_13_code
def yX10_withdraw : MethodName := ⟨RX10, "withdraw", "(III)Z"⟩
abbrev cX10_stake : ByteArray := prog_1_method_14_code
def yX10_stake : MethodName := ⟨RX10, "stake", "(IIII)Z"⟩
abbrev cX10_result : ByteArray := prog_1_method_15_code
def yX10_result : MethodName := ⟨RX10, "result", "(III)I"⟩
abbrev cX10_row : ByteArray := prog_1_method_16_code
def yX10_row : MethodName := ⟨RX10, "row", "(II)I"⟩
abbrev cX10_faster : ByteArray := prog_1_method_17_code
def yX10_faster : MethodName := ⟨RX10, "faster", "(IIII)I"⟩
abbrev cX10_prize : ByteArray := prog_1_method_18_code
def yX10_prize : MethodName := ⟨RX10, "prize", "(IIII)J"⟩
abbrev cX10_pool : ByteArray := prog_1_method_19_code
def yX10_pool : MethodName := ⟨RX10, "pool", "(IIII)J"⟩
abbrev cX10_close : ByteArray := prog_1_method_20_code
def yX10_close : MethodName := ⟨RX10, "close", "(III)Z"⟩
abbrev cX10_points : ByteArray := prog_1_method_21_code
def yX10_points : MethodName := ⟨RX10, "points", "(III)I"⟩
abbrev cX10_count : ByteArray := prog_1_method_22_code
def yX10_count : MethodName := ⟨RX10, "count", "(I)I"⟩
abbrev cX10_isWithin : ByteArray := prog_1_method_23_code
def yX10_isWithin : MethodName := ⟨RX10, "isWithin", "(II)Z"⟩
abbrev cX10_isPlace : ByteArray := prog_1_method_24_code
def yX10_isPlace : MethodName := ⟨RX10, "isPlace", "(II)Z"⟩
abbrev cX10_isSecond : ByteArray := prog_1_method_25_code
def yX10_isSecond : MethodName := ⟨RX10, "isSecond", "(I)Z"⟩
abbrev cX10_isDay : ByteArray := prog_1_method_26_code
def yX10_isDay : MethodName := ⟨RX10, "isDay", "(I)Z"⟩
abbrev cX10_pointsAt : ByteArray := prog_1_method_27_code
def yX10_pointsAt : MethodName := ⟨RX10, "pointsAt", "(I)I"⟩
abbrev cX10_commonDivisor : ByteArray := prog_1_method_28_code
def yX10_commonDivisor : MethodName := ⟨RX10, "commonDivisor", "(JJ)J"⟩
abbrev cX10_compareFractions : ByteArray := prog_1_method_29_code
def yX10_compareFractions : MethodName := ⟨RX10, "compareFractions", "(JJJJ)I"⟩
abbrev cX10_flightAt : ByteArray := prog_1_method_30_code
def yX10_flightAt : MethodName := ⟨RX10, "flightAt", "(I)LBirdOffice$Flight;"⟩
abbrev cX10_purseAt : ByteArray := prog_1_method_31_code
def yX10_purseAt : MethodName := ⟨RX10, "purseAt", "(II)LBirdOffice$Purse;"⟩
abbrev cX10_hasStakes : ByteArray := prog_1_method_32_code
def yX10_hasStakes : MethodName := ⟨RX10, "hasStakes", "()Z"⟩
abbrev cX10_openAllPurses : ByteArray := prog_1_method_33_code
def yX10_openAllPurses : MethodName := ⟨RX10, "openAllPurses", "()V"⟩
abbrev cX10_countStrikes : ByteArray := prog_1_method_34_code
def yX10_countStrikes : MethodName := ⟨RX10, "countStrikes", "()I"⟩
abbrev cX10_countClosed : ByteArray := prog_1_method_35_code
def yX10_countClosed : MethodName := ⟨RX10, "countClosed", "()I"⟩
abbrev cX10_rankInto : ByteArray := prog_1_method_36_code
def yX10_rankInto : MethodName := ⟨RX10, "rankInto", "(LBirdOffice$Ranking;LBirdOffice$Flight;II)V"⟩
abbrev cX10_payoutOf : ByteArray := prog_1_method_37_code
def yX10_payoutOf : MethodName := ⟨RX10, "payoutOf", "(III)LBirdOffice$Payout;"⟩
abbrev cX10_settle : ByteArray := prog_1_method_38_code
def yX10_settle : MethodName := ⟨RX10, "settle", "(LBirdOffice$Payout;LBirdOffice$Flight;II)V"⟩
def RX11 : String := "BirdOfficeModel"
def TX11 : u_T := fun k => match k with
  | 0 => ("BirdOfficeModel", "tape", "[I", true)
  | 1 => ("BirdOfficeModel", "tapeSize", "I", false)
  | 2 => ("BirdOfficeModel", "thrown", "I", false)
  | 3 => ("BirdOfficeModel", "lofts", "I", false)
  | 4 => ("BirdOfficeModel", "loftX", "[I", true)
  | 5 => ("BirdOfficeModel", "loftY", "[I", true)
  | 6 => ("BirdOfficeModel", "birds", "I", false)
  | 7 => ("BirdOfficeModel", "birdLoft", "[I", true)
  | 8 => ("BirdOfficeModel", "birdYear", "[I", true)
  | 9 => ("BirdOfficeModel", "birdSex", "[I", true)
  | 10 => ("BirdOfficeModel", "flights", "I", false)
  | 11 => ("BirdOfficeModel", "flightX", "[I", true)
  | 12 => ("BirdOfficeModel", "flightY", "[I", true)
  | 13 => ("BirdOfficeModel", "released", "[I", true)
  | 14 => ("BirdOfficeModel", "closing", "[I", true)
  | 15 => ("BirdOfficeModel", "flightDay", "[I", true)
  | 16 => ("BirdOfficeModel", "isClock", "[Z", true)
  | 17 => ("BirdOfficeModel", "clockSet", "[I", true)
  | 18 => ("BirdOfficeModel", "clockRead", "[I", true)
  | 19 => ("BirdOfficeModel", "clockShown", "[I", true)
  | 20 => ("BirdOfficeModel", "strikes", "[I", true)
  | 21 => ("BirdOfficeModel", "sLoft", "[I", true)
  | 22 => ("BirdOfficeModel", "sBird", "[I", true)
  | 23 => ("BirdOfficeModel", "sSecond", "[I", true)
  | 24 => ("BirdOfficeModel", "sDay", "[I", true)
  | 25 => ("BirdOfficeModel", "against", "[I", true)
  | 26 => ("BirdOfficeModel", "gone", "[I", true)
  | 27 => ("BirdOfficeModel", "stakes", "[I", true)
  | 28 => ("BirdOfficeModel", "isClosed", "[Z", true)
  | 29 => ("BirdOfficeModel", "closedPrize", "[J", true)
  | 30 => ("BirdOfficeModel", "closedPool", "[J", true)
  | 31 => ("BirdOfficeModel", "now", "I", false)
  | 32 => ("BirdOfficeModel", "listMany", "I", false)
  | 33 => ("BirdOfficeModel", "otherMany", "I", false)
  | 34 => ("BirdOfficeModel", "most", "[I", true)
  | 35 => ("BirdOfficeModel", "until", "[I", true)
  | 36 => ("BirdOfficeModel", "payMany", "[I", true)
  | 37 => ("BirdOfficeModel", "pay", "[I", true)
  | 38 => ("BirdOfficeModel", "ifMany", "[I", true)
  | 39 => ("BirdOfficeModel", "ifWhat", "[I", true)
  | 40 => ("BirdOfficeModel", "ifNumber", "[I", true)
  | 41 => ("BirdOfficeModel", "fault", "I", false)
  | 42 => ("BirdOfficeModel", "faultPlace", "I", false)
  | 43 => ("BirdOfficeModel", "size", "I", false)
  | 44 => ("BirdOfficeModel", "next", "I", false)
  | 45 => ("BirdOfficeModel", "kind", "I", false)
  | 46 => ("BirdOfficeModel", "which", "I", false)
  | 47 => ("BirdOfficeModel", "place", "I", false)
  | 48 => ("BirdOfficeModel", "waits", "[I", true)
  | 49 => ("BirdOfficeModel", "waiting", "I", false)
  | 50 => ("BirdOfficeModel", "timeUp", "J", false)
  | 51 => ("BirdOfficeModel", "timeLow", "J", false)
  | 52 => ("BirdOfficeModel", "best", "[I", true)
  | 53 => ("BirdOfficeModel", "up", "[J", true)
  | 54 => ("BirdOfficeModel", "low", "[J", true)
  | 55 => ("BirdOfficeModel", "left", "[J", true)
  | 56 => ("BirdOfficeModel", "right", "[J", true)
  | 57 => ("BirdOfficeModel", "pile", "[Z", true)
  | 58 => ("BirdOfficeModel", "line", "[I", true)
  | 59 => ("BirdOfficeModel", "places", "[I", true)
  | 60 => ("BirdOfficeModel", "lined", "I", false)
  | 61 => ("BirdOfficeModel", "shown", "[I", true)
  | 62 => ("BirdOfficeModel", "shownMany", "I", false)
  | 63 => ("BirdOfficeModel", "prizes", "[J", true)
  | 64 => ("BirdOfficeModel", "sums", "[J", true)
  | _ => ("BirdOfficeModel", "staked", "[I", true)
def tyX11 : Nat → FieldType := fun k => match k with
  | 0 => .array .int
  | 1 => .int
  | 2 => .int
  | 3 => .int
  | 4 => .array .int
  | 5 => .array .int
  | 6 => .int
  | 7 => .array .int
  | 8 => .array .int
  | 9 => .array .int
  | 10 => .int
  | 11 => .array .int
  | 12 => .array .int
  | 13 => .array .int
  | 14 => .array .int
  | 15 => .array .int
  | 16 => .array .boolean
  | 17 => .array .int
  | 18 => .array .int
  | 19 => .array .int
  | 20 => .array .int
  | 21 => .array .int
  | 22 => .array .int
  | 23 => .array .int
  | 24 => .array .int
  | 25 => .array .int
  | 26 => .array .int
  | 27 => .array .int
  | 28 => .array .boolean
  | 29 => .array .long
  | 30 => .array .long
  | 31 => .int
  | 32 => .int
  | 33 => .int
  | 34 => .array .int
  | 35 => .array .int
  | 36 => .array .int
  | 37 => .array .int
  | 38 => .array .int
  | 39 => .array .int
  | 40 => .array .int
  | 41 => .int
  | 42 => .int
  | 43 => .int
  | 44 => .int
  | 45 => .int
  | 46 => .int
  | 47 => .int
  | 48 => .array .int
  | 49 => .int
  | 50 => .long
  | 51 => .long
  | 52 => .array .int
  | 53 => .array .long
  | 54 => .array .long
  | 55 => .array .long
  | 56 => .array .long
  | 57 => .array .boolean
  | 58 => .array .int
  | 59 => .array .int
  | 60 => .int
  | 61 => .array .int
  | 62 => .int
  | 63 => .array .long
  | 64 => .array .long
  | _ => .array .int
abbrev wsX110 : List Cond := u_ws RX11 TX11 66
theorem nmX11 : ∀ a, a < 66 → ∀ b, b < 66 → a ≠ b → (TX11 a).2.1 ≠ (TX11 b).2.1 := by decide +kernel
theorem tyX11_ok : ∀ k, k < 66 → parseFieldDescriptor (TX11 k).2.2.1 = some (tyX11 k) := by decide +kernel
abbrev cX11_init : ByteArray := prog_13_method_1_code
def yX11_init : MethodName := ⟨RX11, "<init>", "()V"⟩
abbrev cX11_thrown : ByteArray := prog_13_method_2_code
def yX11_thrown : MethodName := ⟨RX11, "thrown", "()I"⟩
abbrev cX11_feed : ByteArray := prog_13_method_3_code
def yX11_feed : MethodName := ⟨RX11, "feed", "(IIIII)I"⟩
abbrev cX11_wrong : ByteArray := prog_13_method_4_code
def yX11_wrong : MethodName := ⟨RX11, "wrong", "(II)Z"⟩
abbrev cX11_spells : ByteArray := prog_13_method_5_code
def yX11_spells : MethodName := ⟨RX11, "spells", "(IIIIIII)Z"⟩
abbrev cX11_wordOf : ByteArray := prog_13_method_6_code
def yX11_wordOf : MethodName := ⟨RX11, "wordOf", "(II)I"⟩
abbrev cX11_isSmall : ByteArray := prog_13_method_7_code
def yX11_isSmall : MethodName := ⟨RX11, "isSmall", "(I)Z"⟩
abbrev cX11_isDigit : ByteArray := prog_13_method_8_code
def yX11_isDigit : MethodName := ⟨RX11, "isDigit", "(I)Z"⟩
abbrev cX11_take : ByteArray := prog_13_method_9_code
def yX11_take : MethodName := ⟨RX11, "take", "()Z"⟩
abbrev cX11_is : ByteArray := prog_13_method_10_code
def yX11_is : MethodName := ⟨RX11, "is", "(II)Z"⟩
abbrev cX11_need : ByteArray := prog_13_method_11_code
def yX11_need : MethodName := ⟨RX11, "need", "(II)Z"⟩
abbrev cX11_emit : ByteArray := prog_13_method_12_code
def yX11_emit : MethodName := ⟨RX11, "emit", "(III)V"⟩
abbrev cX11_leave : ByteArray := prog_13_method_13_code
def yX11_leave : MethodName := ⟨RX11, "leave", "(II)V"⟩
abbrev cX11_condition : ByteArray := prog_13_method_14_code
def yX11_condition : MethodName := ⟨RX11, "condition", "(I)Z"⟩
abbrev cX11_pays : ByteArray := prog_13_method_15_code
def yX11_pays : MethodName := ⟨RX11, "pays", "(I)Z"⟩
abbrev cX11_item : ByteArray := prog_13_method_16_code
def yX11_item : MethodName := ⟨RX11, "item", "(I)Z"⟩
abbrev cX11_text : ByteArray := prog_13_method_17_code
def yX11_text : MethodName := ⟨RX11, "text", "()Z"⟩
abbrev cX11_lists : ByteArray := prog_13_method_18_code
def yX11_lists : MethodName := ⟨RX11, "lists", "(I)I"⟩
abbrev cX11_fault : ByteArray := prog_13_method_19_code
def yX11_fault : MethodName := ⟨RX11, "fault", "(I)I"⟩
abbrev cX11_isPlace : ByteArray := prog_13_method_20_code
def yX11_isPlace : MethodName := ⟨RX11, "isPlace", "(II)Z"⟩
abbrev cX11_isSecond : ByteArray := prog_13_method_21_code
def yX11_isSecond : MethodName := ⟨RX11, "isSecond", "(I)Z"⟩
abbrev cX11_isDay : ByteArray := prog_13_method_22_code
def yX11_isDay : MethodName := ⟨RX11, "isDay", "(I)Z"⟩
abbrev cX11_isFlight : ByteArray := prog_13_method_23_code
def yX11_isFlight : MethodName := ⟨RX11, "isFlight", "(I)Z"⟩
abbrev cX11_isLoft : ByteArray := prog_13_method_24_code
def yX11_isLoft : MethodName := ⟨RX11, "isLoft", "(I)Z"⟩
abbrev cX11_isBird : ByteArray := prog_13_method_25_code
def yX11_isBird : MethodName := ⟨RX11, "isBird", "(I)Z"⟩
abbrev cX11_isList : ByteArray := prog_13_method_26_code
def yX11_isList : MethodName := ⟨RX11, "isList", "(I)Z"⟩
abbrev cX11_loft : ByteArray := prog_13_method_27_code
def yX11_loft : MethodName := ⟨RX11, "loft", "(II)I"⟩
abbrev cX11_bird : ByteArray := prog_13_method_28_code
def yX11_bird : MethodName := ⟨RX11, "bird", "(III)I"⟩
abbrev cX11_flight : ByteArray := prog_13_method_29_code
def yX11_flight : MethodName := ⟨RX11, "flight", "(IIIII)I"⟩
abbrev cX11_clock : ByteArray := prog_13_method_30_code
def yX11_clock : MethodName := ⟨RX11, "clock", "(IIIII)Z"⟩
abbrev cX11_strike : ByteArray := prog_13_method_31_code
def yX11_strike : MethodName := ⟨RX11, "strike", "(IIIII)I"⟩
abbrev cX11_hasTime : ByteArray := prog_13_method_32_code
def yX11_hasTime : MethodName := ⟨RX11, "hasTime", "(II)Z"⟩
abbrev cX11_time : ByteArray := prog_13_method_33_code
def yX11_time : MethodName := ⟨RX11, "time", "(III)J"⟩
abbrev cX11_find : ByteArray := prog_13_method_34_code
def yX11_find : MethodName := ⟨RX11, "find", "(III)V"⟩
abbrev cX11_square : ByteArray := prog_13_method_35_code
def yX11_square : MethodName := ⟨RX11, "square", "([JJJ)V"⟩
abbrev cX11_carry : ByteArray := prog_13_method_36_code
def yX11_carry : MethodName := ⟨RX11, "carry", "([J)V"⟩
abbrev cX11_way : ByteArray := prog_13_method_37_code
def yX11_way : MethodName := ⟨RX11, "way", "(II)J"⟩
abbrev cX11_over : ByteArray := prog_13_method_38_code
def yX11_over : MethodName := ⟨RX11, "over", "(III)I"⟩
abbrev cX11_holds : ByteArray := prog_13_method_39_code
def yX11_holds : MethodName := ⟨RX11, "holds", "(II)Z"⟩
abbrev cX11_isGone : ByteArray := prog_13_method_40_code
def yX11_isGone : MethodName := ⟨RX11, "isGone", "(III)Z"⟩
abbrev cX11_results : ByteArray := prog_13_method_41_code
def yX11_results : MethodName := ⟨RX11, "results", "(III)V"⟩
abbrev cX11_canAsk : ByteArray := prog_13_method_42_code
def yX11_canAsk : MethodName := ⟨RX11, "canAsk", "(III)Z"⟩
abbrev cX11_result : ByteArray := prog_13_method_43_code
def yX11_result : MethodName := ⟨RX11, "result", "(III)I"⟩
abbrev cX11_row : ByteArray := prog_13_method_44_code
def yX11_row : MethodName := ⟨RX11, "row", "(II)I"⟩
abbrev cX11_faster : ByteArray := prog_13_method_45_code
def yX11_faster : MethodName := ⟨RX11, "faster", "(IIII)I"⟩
abbrev cX11_tells : ByteArray := prog_13_method_46_code
def yX11_tells : MethodName := ⟨RX11, "tells", "([IIII)Z"⟩
abbrev cX11_protest : ByteArray := prog_13_method_47_code
def yX11_protest : MethodName := ⟨RX11, "protest", "(III)Z"⟩
abbrev cX11_clear : ByteArray := prog_13_method_48_code
def yX11_clear : MethodName := ⟨RX11, "clear", "(II)Z"⟩
abbrev cX11_withdraw : ByteArray := prog_13_method_49_code
def yX11_withdraw : MethodName := ⟨RX11, "withdraw", "(III)Z"⟩
abbrev cX11_stake : ByteArray := prog_13_method_50_code
def yX11_stake : MethodName := ⟨RX11, "stake", "(IIII)Z"⟩
abbrev cX11_work : ByteArray := prog_13_method_51_code
def yX11_work : MethodName := ⟨RX11, "work", "(III)V"⟩
abbrev cX11_prize : ByteArray := prog_13_method_52_code
def yX11_prize : MethodName := ⟨RX11, "prize", "(IIII)J"⟩
abbrev cX11_pool : ByteArray := prog_13_method_53_code
def yX11_pool : MethodName := ⟨RX11, "pool", "(IIII)J"⟩
abbrev cX11_close : ByteArray := prog_13_method_54_code
def yX11_close : MethodName := ⟨RX11, "close", "(III)Z"⟩
abbrev cX11_points : ByteArray := prog_13_method_55_code
def yX11_points : MethodName := ⟨RX11, "points", "(III)I"⟩
abbrev cX11_count : ByteArray := prog_13_method_56_code
def yX11_count : MethodName := ⟨RX11, "count", "(I)I"⟩
def RJx29ce0 : String := "java/lang/Enum"
def TJx29ce0 : u_T := fun k => match k with
  | _ => ("", "", "", false)
def tyJx29ce0 : Nat → FieldType := fun k => match k with
  | _ => .int
abbrev wsJx29ce00 : List Cond := u_ws RJx29ce0 TJx29ce0 0
theorem nmJx29ce0 : ∀ a, a < 0 → ∀ b, b < 0 → a ≠ b → (TJx29ce0 a).2.1 ≠ (TJx29ce0 b).2.1 := by decide +kernel
theorem tyJx29ce0_ok : ∀ k, k < 0 → parseFieldDescriptor (TJx29ce0 k).2.2.1 = some (tyJx29ce0 k) := by decide +kernel
def RJ13 : String := "java/lang/Long"
def TJ13 : u_T := fun k => match k with
  | _ => ("", "", "", false)
def tyJ13 : Nat → FieldType := fun k => match k with
  | _ => .int
abbrev wsJ130 : List Cond := u_ws RJ13 TJ13 0
theorem nmJ13 : ∀ a, a < 0 → ∀ b, b < 0 → a ≠ b → (TJ13 a).2.1 ≠ (TJ13 b).2.1 := by decide +kernel
theorem tyJ13_ok : ∀ k, k < 0 → parseFieldDescriptor (TJ13 k).2.2.1 = some (tyJ13 k) := by decide +kernel
abbrev cJ13_compare_74951 : ByteArray := prog_17_method_42_code
def yJ13_compare_74951 : MethodName := ⟨RJ13, "compare", "(JJ)I"⟩
def RJ9 : String := "java/lang/Math"
def TJ9 : u_T := fun k => match k with
  | _ => ("", "", "", false)
def tyJ9 : Nat → FieldType := fun k => match k with
  | _ => .int
abbrev wsJ90 : List Cond := u_ws RJ9 TJ9 0
theorem nmJ9 : ∀ a, a < 0 → ∀ b, b < 0 → a ≠ b → (TJ9 a).2.1 ≠ (TJ9 b).2.1 := by decide +kernel
theorem tyJ9_ok : ∀ k, k < 0 → parseFieldDescriptor (TJ9 k).2.2.1 = some (tyJ9 k) := by decide +kernel
abbrev cJ9_max_f86c9 : ByteArray := prog_18_method_66_code
def yJ9_max_f86c9 : MethodName := ⟨RJ9, "max", "(JJ)J"⟩
abbrev cJ9_min_7cf53 : ByteArray := prog_18_method_69_code
def yJ9_min_7cf53 : MethodName := ⟨RJ9, "min", "(II)I"⟩
def RJ0 : String := "java/lang/String"
def TJ0 : u_T := fun k => match k with
  | _ => ("", "", "", false)
def tyJ0 : Nat → FieldType := fun k => match k with
  | _ => .int
abbrev wsJ00 : List Cond := u_ws RJ0 TJ0 0
theorem nmJ0 : ∀ a, a < 0 → ∀ b, b < 0 → a ≠ b → (TJ0 a).2.1 ≠ (TJ0 b).2.1 := by decide +kernel
theorem tyJ0_ok : ∀ k, k < 0 → parseFieldDescriptor (TJ0 k).2.2.1 = some (tyJ0 k) := by decide +kernel
abbrev cJ0_length_8abf5 : ByteArray := prog_20_method_54_code
def yJ0_length_8abf5 : MethodName := ⟨RJ0, "length", "()I"⟩
abbrev cJ0_charAt_5068e : ByteArray := prog_20_method_56_code
def yJ0_charAt_5068e : MethodName := ⟨RJ0, "charAt", "(I)C"⟩
abbrev cJ0_coder_7d493 : ByteArray := prog_20_method_152_code
def yJ0_coder_7d493 : MethodName := ⟨RJ0, "coder", "()B"⟩
abbrev cJ0_isLatin1_aae02 : ByteArray := prog_20_method_154_code
def yJ0_isLatin1_aae02 : MethodName := ⟨RJ0, "isLatin1", "()Z"⟩
abbrev cJ0_checkIndex_df160 : ByteArray := prog_20_method_155_code
def yJ0_checkIndex_df160 : MethodName := ⟨RJ0, "checkIndex", "(II)V"⟩
def RJ1 : String := "java/lang/StringLatin1"
def TJ1 : u_T := fun k => match k with
  | _ => ("", "", "", false)
def tyJ1 : Nat → FieldType := fun k => match k with
  | _ => .int
abbrev wsJ10 : List Cond := u_ws RJ1 TJ1 0
theorem nmJ1 : ∀ a, a < 0 → ∀ b, b < 0 → a ≠ b → (TJ1 a).2.1 ≠ (TJ1 b).2.1 := by decide +kernel
theorem tyJ1_ok : ∀ k, k < 0 → parseFieldDescriptor (TJ1 k).2.2.1 = some (tyJ1 k) := by decide +kernel
abbrev cJ1_charAt_3b067 : ByteArray := prog_21_method_2_code
def yJ1_charAt_3b067 : MethodName := ⟨RJ1, "charAt", "([BI)C"⟩
def RJ2 : String := "java/lang/StringUTF16"
def TJ2 : u_T := fun k => match k with
  | _ => ("", "", "", false)
def tyJ2 : Nat → FieldType := fun k => match k with
  | _ => .int
abbrev wsJ20 : List Cond := u_ws RJ2 TJ2 0
theorem nmJ2 : ∀ a, a < 0 → ∀ b, b < 0 → a ≠ b → (TJ2 a).2.1 ≠ (TJ2 b).2.1 := by decide +kernel
theorem tyJ2_ok : ∀ k, k < 0 → parseFieldDescriptor (TJ2 k).2.2.1 = some (tyJ2 k) := by decide +kernel
abbrev cJ2_getChar_3b067 : ByteArray := prog_22_method_5_code
def yJ2_getChar_3b067 : MethodName := ⟨RJ2, "getChar", "([BI)C"⟩
abbrev cJ2_length_9d52b : ByteArray := prog_22_method_6_code
def yJ2_length_9d52b : MethodName := ⟨RJ2, "length", "([B)I"⟩
abbrev cJ2_charAt_3b067 : ByteArray := prog_22_method_83_code
def yJ2_charAt_3b067 : MethodName := ⟨RJ2, "charAt", "([BI)C"⟩
abbrev cJ2_checkIndex_2214a : ByteArray := prog_22_method_91_code
def yJ2_checkIndex_2214a : MethodName := ⟨RJ2, "checkIndex", "(I[B)V"⟩
def RJ10 : String := "java/lang/System"
def TJ10 : u_T := fun k => match k with
  | _ => ("", "", "", false)
def tyJ10 : Nat → FieldType := fun k => match k with
  | _ => .int
abbrev wsJ100 : List Cond := u_ws RJ10 TJ10 0
theorem nmJ10 : ∀ a, a < 0 → ∀ b, b < 0 → a ≠ b → (TJ10 a).2.1 ≠ (TJ10 b).2.1 := by decide +kernel
theorem tyJ10_ok : ∀ k, k < 0 → parseFieldDescriptor (TJ10 k).2.2.1 = some (tyJ10 k) := by decide +kernel
def RJ7 : String := "java/util/Arrays"
def TJ7 : u_T := fun k => match k with
  | _ => ("", "", "", false)
def tyJ7 : Nat → FieldType := fun k => match k with
  | _ => .int
abbrev wsJ70 : List Cond := u_ws RJ7 TJ7 0
theorem nmJ7 : ∀ a, a < 0 → ∀ b, b < 0 → a ≠ b → (TJ7 a).2.1 ≠ (TJ7 b).2.1 := by decide +kernel
theorem tyJ7_ok : ∀ k, k < 0 → parseFieldDescriptor (TJ7 k).2.2.1 = some (tyJ7 k) := by decide +kernel
abbrev cJ7_fill_53178 : ByteArray := prog_25_method_103_code
def yJ7_fill_53178 : MethodName := ⟨RJ7, "fill", "([II)V"⟩
def RJ3 : String := "jdk/internal/util/Preconditions"
def TJ3 : u_T := fun k => match k with
  | _ => ("", "", "", false)
def tyJ3 : Nat → FieldType := fun k => match k with
  | _ => .int
abbrev wsJ30 : List Cond := u_ws RJ3 TJ3 0
theorem nmJ3 : ∀ a, a < 0 → ∀ b, b < 0 → a ≠ b → (TJ3 a).2.1 ≠ (TJ3 b).2.1 := by decide +kernel
theorem tyJ3_ok : ∀ k, k < 0 → parseFieldDescriptor (TJ3 k).2.2.1 = some (tyJ3 k) := by decide +kernel
abbrev cJ3_checkIndex_8e157 : ByteArray := prog_27_method_11_code
def yJ3_checkIndex_8e157 : MethodName := ⟨RJ3, "checkIndex", "(IILjava/util/function/BiFunction;)I"⟩
def RL : String := "BirdOfficeLaw"
abbrev cL_time : ByteArray := method_3_code
def yL_time : MethodName := ⟨RL, "time", "(LBirdOffice;III[J)I"⟩
abbrev cL_law : ByteArray := code
def yL_law : MethodName := ⟨RL, "law", "([I)Z"⟩
abbrev vwCl : List vw_C := [(RX0, TX0, 10), (RX1, TX1, 7), (RX2, TX2, 18), (RX3, TX3, 4), (RX4, TX4, 3), (RX5, TX5, 7), (RX6, TX6, 3), (RX7, TX7, 2), (RX9, TX9, 5), (RX10, TX10, 10), (RX11, TX11, 66)]
