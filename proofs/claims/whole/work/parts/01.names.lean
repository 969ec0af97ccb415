-- ===== PART A: goes FIRST, ahead of the names: the tables' words, and 'selects' of the private methods out of them =====
/-- a private method of a class that the tables say can be made, by its rows of tables_1 -/
def lw_okq (q : MethodName × Nat) : Prop := (q.1.cls ≠ "java/lang/invoke/MethodHandle" ∧ q.1.cls ≠ "java/lang/invoke/VarHandle") ∧ Cond.instantiable q.1.cls q.2 ∈ tables_1 ∧ Cond.privateMethod q.1 ∈ tables_1 ∧ Cond.instanceMethod q.1 ∈ tables_1
theorem lw_p0 : lw_okq (⟨"BargainHall", "ownerOf", "(I)I"⟩, 13) := ⟨⟨by decide +kernel, by decide +kernel⟩, List.mem_of_getElem? (i := 17) (by decide +kernel), List.mem_of_getElem? (i := 363) (by decide +kernel), List.mem_of_getElem? (i := 364) (by decide +kernel)⟩
theorem lw_p1 : lw_okq (⟨"BargainHall$Tape", "readClauses", "(LBargainHall$Wish;)I"⟩, 3) := ⟨⟨by decide +kernel, by decide +kernel⟩, List.mem_of_getElem? (i := 27) (by decide +kernel), List.mem_of_getElem? (i := 398) (by decide +kernel), List.mem_of_getElem? (i := 399) (by decide +kernel)⟩
theorem lw_p2 : lw_okq (⟨"BargainHall$Tape", "readClause", "(LBargainHall$Wish;)I"⟩, 3) := ⟨⟨by decide +kernel, by decide +kernel⟩, List.mem_of_getElem? (i := 27) (by decide +kernel), List.mem_of_getElem? (i := 402) (by decide +kernel), List.mem_of_getElem? (i := 403) (by decide +kernel)⟩
theorem lw_p3 : lw_okq (⟨"BargainHall$Tape", "next", "()I"⟩, 3) := ⟨⟨by decide +kernel, by decide +kernel⟩, List.mem_of_getElem? (i := 27) (by decide +kernel), List.mem_of_getElem? (i := 406) (by decide +kernel), List.mem_of_getElem? (i := 407) (by decide +kernel)⟩
theorem lw_p4 : lw_okq (⟨"BargainHall$Tape", "readLetters", "()I"⟩, 3) := ⟨⟨by decide +kernel, by decide +kernel⟩, List.mem_of_getElem? (i := 27) (by decide +kernel), List.mem_of_getElem? (i := 410) (by decide +kernel), List.mem_of_getElem? (i := 411) (by decide +kernel)⟩
theorem lw_p5 : lw_okq (⟨"BargainHall$Tape", "readNumber", "(LBargainHall$Wish;I)I"⟩, 3) := ⟨⟨by decide +kernel, by decide +kernel⟩, List.mem_of_getElem? (i := 27) (by decide +kernel), List.mem_of_getElem? (i := 424) (by decide +kernel), List.mem_of_getElem? (i := 425) (by decide +kernel)⟩
theorem lw_p6 : lw_okq (⟨"BargainHall", "isExchange", "(IIII)Z"⟩, 13) := ⟨⟨by decide +kernel, by decide +kernel⟩, List.mem_of_getElem? (i := 17) (by decide +kernel), List.mem_of_getElem? (i := 476) (by decide +kernel), List.mem_of_getElem? (i := 477) (by decide +kernel)⟩
theorem lw_p7 : lw_okq (⟨"BargainHall$Pair", "isOpenToBoth", "(I)Z"⟩, 6) := ⟨⟨by decide +kernel, by decide +kernel⟩, List.mem_of_getElem? (i := 222) (by decide +kernel), List.mem_of_getElem? (i := 503) (by decide +kernel), List.mem_of_getElem? (i := 504) (by decide +kernel)⟩
theorem lw_p8 : lw_okq (⟨"BargainHall", "agree", "()V"⟩, 13) := ⟨⟨by decide +kernel, by decide +kernel⟩, List.mem_of_getElem? (i := 17) (by decide +kernel), List.mem_of_getElem? (i := 597) (by decide +kernel), List.mem_of_getElem? (i := 598) (by decide +kernel)⟩
theorem lw_p9 : lw_okq (⟨"BargainHall", "letMachineSpeak", "()I"⟩, 13) := ⟨⟨by decide +kernel, by decide +kernel⟩, List.mem_of_getElem? (i := 17) (by decide +kernel), List.mem_of_getElem? (i := 612) (by decide +kernel), List.mem_of_getElem? (i := 613) (by decide +kernel)⟩
theorem lw_p10 : lw_okq (⟨"BargainHall$Machine", "insert", "(LBargainHall$Pair;II)V"⟩, 5) := ⟨⟨by decide +kernel, by decide +kernel⟩, List.mem_of_getElem? (i := 86) (by decide +kernel), List.mem_of_getElem? (i := 625) (by decide +kernel), List.mem_of_getElem? (i := 626) (by decide +kernel)⟩
theorem lw_p11 : lw_okq (⟨"BargainHall", "countGuesses", "(III)I"⟩, 13) := ⟨⟨by decide +kernel, by decide +kernel⟩, List.mem_of_getElem? (i := 17) (by decide +kernel), List.mem_of_getElem? (i := 682) (by decide +kernel), List.mem_of_getElem? (i := 683) (by decide +kernel)⟩
theorem lw_p12 : lw_okq (⟨"BargainHall", "makeGuess", "(II)V"⟩, 13) := ⟨⟨by decide +kernel, by decide +kernel⟩, List.mem_of_getElem? (i := 17) (by decide +kernel), List.mem_of_getElem? (i := 690) (by decide +kernel), List.mem_of_getElem? (i := 691) (by decide +kernel)⟩
theorem lw_p13 : lw_okq (⟨"BargainHall", "wouldHaveSaid", "(LBargainHall$House;II)Z"⟩, 13) := ⟨⟨by decide +kernel, by decide +kernel⟩, List.mem_of_getElem? (i := 17) (by decide +kernel), List.mem_of_getElem? (i := 703) (by decide +kernel), List.mem_of_getElem? (i := 704) (by decide +kernel)⟩
theorem lw_p14 : lw_okq (⟨"BargainHall$Groups", "renew", "([LBargainHall$House;)V"⟩, 2) := ⟨⟨by decide +kernel, by decide +kernel⟩, List.mem_of_getElem? (i := 71) (by decide +kernel), List.mem_of_getElem? (i := 719) (by decide +kernel), List.mem_of_getElem? (i := 720) (by decide +kernel)⟩
theorem lw_p15 : lw_okq (⟨"BargainHall$Groups", "fill", "([LBargainHall$House;I)V"⟩, 2) := ⟨⟨by decide +kernel, by decide +kernel⟩, List.mem_of_getElem? (i := 71) (by decide +kernel), List.mem_of_getElem? (i := 723) (by decide +kernel), List.mem_of_getElem? (i := 724) (by decide +kernel)⟩
def lw_privs_1 : List (MethodName × Nat) := [(⟨"BargainHall", "ownerOf", "(I)I"⟩, 13), (⟨"BargainHall$Tape", "readClauses", "(LBargainHall$Wish;)I"⟩, 3), (⟨"BargainHall$Tape", "readClause", "(LBargainHall$Wish;)I"⟩, 3), (⟨"BargainHall$Tape", "next", "()I"⟩, 3), (⟨"BargainHall$Tape", "readLetters", "()I"⟩, 3), (⟨"BargainHall$Tape", "readNumber", "(LBargainHall$Wish;I)I"⟩, 3), (⟨"BargainHall", "isExchange", "(IIII)Z"⟩, 13), (⟨"BargainHall$Pair", "isOpenToBoth", "(I)Z"⟩, 6), (⟨"BargainHall", "agree", "()V"⟩, 13), (⟨"BargainHall", "letMachineSpeak", "()I"⟩, 13), (⟨"BargainHall$Machine", "insert", "(LBargainHall$Pair;II)V"⟩, 5), (⟨"BargainHall", "countGuesses", "(III)I"⟩, 13), (⟨"BargainHall", "makeGuess", "(II)V"⟩, 13), (⟨"BargainHall", "wouldHaveSaid", "(LBargainHall$House;II)Z"⟩, 13), (⟨"BargainHall$Groups", "renew", "([LBargainHall$House;)V"⟩, 2), (⟨"BargainHall$Groups", "fill", "([LBargainHall$House;I)V"⟩, 2)]
theorem lw_r1 : ∀ q ∈ lw_privs_1, lw_okq q := List.forall_mem_cons.mpr ⟨lw_p0, List.forall_mem_cons.mpr ⟨lw_p1, List.forall_mem_cons.mpr ⟨lw_p2, List.forall_mem_cons.mpr ⟨lw_p3, List.forall_mem_cons.mpr ⟨lw_p4, List.forall_mem_cons.mpr ⟨lw_p5, List.forall_mem_cons.mpr ⟨lw_p6, List.forall_mem_cons.mpr ⟨lw_p7, List.forall_mem_cons.mpr ⟨lw_p8, List.forall_mem_cons.mpr ⟨lw_p9, List.forall_mem_cons.mpr ⟨lw_p10, List.forall_mem_cons.mpr ⟨lw_p11, List.forall_mem_cons.mpr ⟨lw_p12, List.forall_mem_cons.mpr ⟨lw_p13, List.forall_mem_cons.mpr ⟨lw_p14, List.forall_mem_cons.mpr ⟨lw_p15, fun _ h => absurd h List.not_mem_nil⟩⟩⟩⟩⟩⟩⟩⟩⟩⟩⟩⟩⟩⟩⟩⟩
theorem lw_p16 : lw_okq (⟨"BargainHall$Groups", "valueOrZero", "([LBargainHall$House;I)I"⟩, 2) := ⟨⟨by decide +kernel, by decide +kernel⟩, List.mem_of_getElem? (i := 71) (by decide +kernel), List.mem_of_getElem? (i := 764) (by decide +kernel), List.mem_of_getElem? (i := 765) (by decide +kernel)⟩
theorem lw_p17 : lw_okq (⟨"BargainHall$Ledger", "endOf", "(LBargainHall$Term;I)I"⟩, 5) := ⟨⟨by decide +kernel, by decide +kernel⟩, List.mem_of_getElem? (i := 111) (by decide +kernel), List.mem_of_getElem? (i := 847) (by decide +kernel), List.mem_of_getElem? (i := 848) (by decide +kernel)⟩
theorem lw_p18 : lw_okq (⟨"BargainHall$Ledger", "isKnown", "(II)Z"⟩, 5) := ⟨⟨by decide +kernel, by decide +kernel⟩, List.mem_of_getElem? (i := 111) (by decide +kernel), List.mem_of_getElem? (i := 851) (by decide +kernel), List.mem_of_getElem? (i := 852) (by decide +kernel)⟩
theorem lw_p19 : lw_okq (⟨"BargainHall$Ledger", "breakOf", "(II)I"⟩, 5) := ⟨⟨by decide +kernel, by decide +kernel⟩, List.mem_of_getElem? (i := 111) (by decide +kernel), List.mem_of_getElem? (i := 856) (by decide +kernel), List.mem_of_getElem? (i := 857) (by decide +kernel)⟩
theorem lw_p20 : lw_okq (⟨"BargainHallModel", "isTalking", "()Z"⟩, 54) := ⟨⟨by decide +kernel, by decide +kernel⟩, List.mem_of_getElem? (i := 961) (by decide +kernel), List.mem_of_getElem? (i := 1142) (by decide +kernel), List.mem_of_getElem? (i := 1143) (by decide +kernel)⟩
theorem lw_p21 : lw_okq (⟨"BargainHallModel", "readAll", "()I"⟩, 54) := ⟨⟨by decide +kernel, by decide +kernel⟩, List.mem_of_getElem? (i := 961) (by decide +kernel), List.mem_of_getElem? (i := 1163) (by decide +kernel), List.mem_of_getElem? (i := 1164) (by decide +kernel)⟩
theorem lw_p22 : lw_okq (⟨"BargainHallModel", "readClause", "(I)Z"⟩, 54) := ⟨⟨by decide +kernel, by decide +kernel⟩, List.mem_of_getElem? (i := 961) (by decide +kernel), List.mem_of_getElem? (i := 1167) (by decide +kernel), List.mem_of_getElem? (i := 1168) (by decide +kernel)⟩
theorem lw_p23 : lw_okq (⟨"BargainHallModel", "next", "()I"⟩, 54) := ⟨⟨by decide +kernel, by decide +kernel⟩, List.mem_of_getElem? (i := 961) (by decide +kernel), List.mem_of_getElem? (i := 1171) (by decide +kernel), List.mem_of_getElem? (i := 1172) (by decide +kernel)⟩
theorem lw_p24 : lw_okq (⟨"BargainHallModel", "readLetters", "()I"⟩, 54) := ⟨⟨by decide +kernel, by decide +kernel⟩, List.mem_of_getElem? (i := 961) (by decide +kernel), List.mem_of_getElem? (i := 1175) (by decide +kernel), List.mem_of_getElem? (i := 1176) (by decide +kernel)⟩
theorem lw_p25 : lw_okq (⟨"BargainHallModel", "readNumber", "()I"⟩, 54) := ⟨⟨by decide +kernel, by decide +kernel⟩, List.mem_of_getElem? (i := 961) (by decide +kernel), List.mem_of_getElem? (i := 1181) (by decide +kernel), List.mem_of_getElem? (i := 1182) (by decide +kernel)⟩
theorem lw_p26 : lw_okq (⟨"BargainHallModel", "keepClause", "(IIIIZ)V"⟩, 54) := ⟨⟨by decide +kernel, by decide +kernel⟩, List.mem_of_getElem? (i := 961) (by decide +kernel), List.mem_of_getElem? (i := 1187) (by decide +kernel), List.mem_of_getElem? (i := 1188) (by decide +kernel)⟩
theorem lw_p27 : lw_okq (⟨"BargainHallModel", "worthOf", "(II)I"⟩, 54) := ⟨⟨by decide +kernel, by decide +kernel⟩, List.mem_of_getElem? (i := 961) (by decide +kernel), List.mem_of_getElem? (i := 1199) (by decide +kernel), List.mem_of_getElem? (i := 1200) (by decide +kernel)⟩
theorem lw_p28 : lw_okq (⟨"BargainHallModel", "isBarred", "(II)Z"⟩, 54) := ⟨⟨by decide +kernel, by decide +kernel⟩, List.mem_of_getElem? (i := 961) (by decide +kernel), List.mem_of_getElem? (i := 1207) (by decide +kernel), List.mem_of_getElem? (i := 1208) (by decide +kernel)⟩
theorem lw_p29 : lw_okq (⟨"BargainHallModel", "thingsOf", "(I)I"⟩, 54) := ⟨⟨by decide +kernel, by decide +kernel⟩, List.mem_of_getElem? (i := 961) (by decide +kernel), List.mem_of_getElem? (i := 1215) (by decide +kernel), List.mem_of_getElem? (i := 1216) (by decide +kernel)⟩
theorem lw_p30 : lw_okq (⟨"BargainHallModel", "isExchange", "(IIII)Z"⟩, 54) := ⟨⟨by decide +kernel, by decide +kernel⟩, List.mem_of_getElem? (i := 961) (by decide +kernel), List.mem_of_getElem? (i := 1230) (by decide +kernel), List.mem_of_getElem? (i := 1231) (by decide +kernel)⟩
theorem lw_p31 : lw_okq (⟨"BargainHallModel", "moreBy", "(II)I"⟩, 54) := ⟨⟨by decide +kernel, by decide +kernel⟩, List.mem_of_getElem? (i := 961) (by decide +kernel), List.mem_of_getElem? (i := 1235) (by decide +kernel), List.mem_of_getElem? (i := 1236) (by decide +kernel)⟩
def lw_privs_2 : List (MethodName × Nat) := [(⟨"BargainHall$Groups", "valueOrZero", "([LBargainHall$House;I)I"⟩, 2), (⟨"BargainHall$Ledger", "endOf", "(LBargainHall$Term;I)I"⟩, 5), (⟨"BargainHall$Ledger", "isKnown", "(II)Z"⟩, 5), (⟨"BargainHall$Ledger", "breakOf", "(II)I"⟩, 5), (⟨"BargainHallModel", "isTalking", "()Z"⟩, 54), (⟨"BargainHallModel", "readAll", "()I"⟩, 54), (⟨"BargainHallModel", "readClause", "(I)Z"⟩, 54), (⟨"BargainHallModel", "next", "()I"⟩, 54), (⟨"BargainHallModel", "readLetters", "()I"⟩, 54), (⟨"BargainHallModel", "readNumber", "()I"⟩, 54), (⟨"BargainHallModel", "keepClause", "(IIIIZ)V"⟩, 54), (⟨"BargainHallModel", "worthOf", "(II)I"⟩, 54), (⟨"BargainHallModel", "isBarred", "(II)Z"⟩, 54), (⟨"BargainHallModel", "thingsOf", "(I)I"⟩, 54), (⟨"BargainHallModel", "isExchange", "(IIII)Z"⟩, 54), (⟨"BargainHallModel", "moreBy", "(II)I"⟩, 54)]
theorem lw_r2 : ∀ q ∈ lw_privs_2, lw_okq q := List.forall_mem_cons.mpr ⟨lw_p16, List.forall_mem_cons.mpr ⟨lw_p17, List.forall_mem_cons.mpr ⟨lw_p18, List.forall_mem_cons.mpr ⟨lw_p19, List.forall_mem_cons.mpr ⟨lw_p20, List.forall_mem_cons.mpr ⟨lw_p21, List.forall_mem_cons.mpr ⟨lw_p22, List.forall_mem_cons.mpr ⟨lw_p23, List.forall_mem_cons.mpr ⟨lw_p24, List.forall_mem_cons.mpr ⟨lw_p25, List.forall_mem_cons.mpr ⟨lw_p26, List.forall_mem_cons.mpr ⟨lw_p27, List.forall_mem_cons.mpr ⟨lw_p28, List.forall_mem_cons.mpr ⟨lw_p29, List.forall_mem_cons.mpr ⟨lw_p30, List.forall_mem_cons.mpr ⟨lw_p31, fun _ h => absurd h List.not_mem_nil⟩⟩⟩⟩⟩⟩⟩⟩⟩⟩⟩⟩⟩⟩⟩⟩
theorem lw_p32 : lw_okq (⟨"BargainHallModel", "isGood", "(IIII)Z"⟩, 54) := ⟨⟨by decide +kernel, by decide +kernel⟩, List.mem_of_getElem? (i := 961) (by decide +kernel), List.mem_of_getElem? (i := 1243) (by decide +kernel), List.mem_of_getElem? (i := 1244) (by decide +kernel)⟩
theorem lw_p33 : lw_okq (⟨"BargainHallModel", "isFree", "(II)Z"⟩, 54) := ⟨⟨by decide +kernel, by decide +kernel⟩, List.mem_of_getElem? (i := 961) (by decide +kernel), List.mem_of_getElem? (i := 1247) (by decide +kernel), List.mem_of_getElem? (i := 1248) (by decide +kernel)⟩
theorem lw_p34 : lw_okq (⟨"BargainHallModel", "whose", "(I)I"⟩, 54) := ⟨⟨by decide +kernel, by decide +kernel⟩, List.mem_of_getElem? (i := 961) (by decide +kernel), List.mem_of_getElem? (i := 1264) (by decide +kernel), List.mem_of_getElem? (i := 1265) (by decide +kernel)⟩
theorem lw_p35 : lw_okq (⟨"BargainHallModel", "say", "(III)V"⟩, 54) := ⟨⟨by decide +kernel, by decide +kernel⟩, List.mem_of_getElem? (i := 961) (by decide +kernel), List.mem_of_getElem? (i := 1272) (by decide +kernel), List.mem_of_getElem? (i := 1273) (by decide +kernel)⟩
theorem lw_p36 : lw_okq (⟨"BargainHallModel", "sayOffer", "(II)I"⟩, 54) := ⟨⟨by decide +kernel, by decide +kernel⟩, List.mem_of_getElem? (i := 961) (by decide +kernel), List.mem_of_getElem? (i := 1280) (by decide +kernel), List.mem_of_getElem? (i := 1281) (by decide +kernel)⟩
theorem lw_p37 : lw_okq (⟨"BargainHallModel", "isOffer", "(I)Z"⟩, 54) := ⟨⟨by decide +kernel, by decide +kernel⟩, List.mem_of_getElem? (i := 961) (by decide +kernel), List.mem_of_getElem? (i := 1284) (by decide +kernel), List.mem_of_getElem? (i := 1285) (by decide +kernel)⟩
theorem lw_p38 : lw_okq (⟨"BargainHallModel", "yesGain", "()I"⟩, 54) := ⟨⟨by decide +kernel, by decide +kernel⟩, List.mem_of_getElem? (i := 961) (by decide +kernel), List.mem_of_getElem? (i := 1292) (by decide +kernel), List.mem_of_getElem? (i := 1293) (by decide +kernel)⟩
theorem lw_p39 : lw_okq (⟨"BargainHallModel", "agree", "()V"⟩, 54) := ⟨⟨by decide +kernel, by decide +kernel⟩, List.mem_of_getElem? (i := 961) (by decide +kernel), List.mem_of_getElem? (i := 1296) (by decide +kernel), List.mem_of_getElem? (i := 1297) (by decide +kernel)⟩
theorem lw_p40 : lw_okq (⟨"BargainHallModel", "machineWord", "()I"⟩, 54) := ⟨⟨by decide +kernel, by decide +kernel⟩, List.mem_of_getElem? (i := 961) (by decide +kernel), List.mem_of_getElem? (i := 1308) (by decide +kernel), List.mem_of_getElem? (i := 1309) (by decide +kernel)⟩
theorem lw_p41 : lw_okq (⟨"BargainHallModel", "levelOf", "(II)I"⟩, 54) := ⟨⟨by decide +kernel, by decide +kernel⟩, List.mem_of_getElem? (i := 961) (by decide +kernel), List.mem_of_getElem? (i := 1312) (by decide +kernel), List.mem_of_getElem? (i := 1313) (by decide +kernel)⟩
theorem lw_p42 : lw_okq (⟨"BargainHallModel", "findChoices", "(I)V"⟩, 54) := ⟨⟨by decide +kernel, by decide +kernel⟩, List.mem_of_getElem? (i := 961) (by decide +kernel), List.mem_of_getElem? (i := 1316) (by decide +kernel), List.mem_of_getElem? (i := 1317) (by decide +kernel)⟩
theorem lw_p43 : lw_okq (⟨"BargainHallModel", "addChoice", "(II)V"⟩, 54) := ⟨⟨by decide +kernel, by decide +kernel⟩, List.mem_of_getElem? (i := 961) (by decide +kernel), List.mem_of_getElem? (i := 1320) (by decide +kernel), List.mem_of_getElem? (i := 1321) (by decide +kernel)⟩
theorem lw_p44 : lw_okq (⟨"BargainHallModel", "saidBy", "(I)I"⟩, 54) := ⟨⟨by decide +kernel, by decide +kernel⟩, List.mem_of_getElem? (i := 961) (by decide +kernel), List.mem_of_getElem? (i := 1340) (by decide +kernel), List.mem_of_getElem? (i := 1341) (by decide +kernel)⟩
theorem lw_p45 : lw_okq (⟨"BargainHallModel", "wouldSay", "(II)Z"⟩, 54) := ⟨⟨by decide +kernel, by decide +kernel⟩, List.mem_of_getElem? (i := 961) (by decide +kernel), List.mem_of_getElem? (i := 1344) (by decide +kernel), List.mem_of_getElem? (i := 1345) (by decide +kernel)⟩
theorem lw_p46 : lw_okq (⟨"BargainHallModel", "aloneWorth", "(I)I"⟩, 54) := ⟨⟨by decide +kernel, by decide +kernel⟩, List.mem_of_getElem? (i := 961) (by decide +kernel), List.mem_of_getElem? (i := 1348) (by decide +kernel), List.mem_of_getElem? (i := 1349) (by decide +kernel)⟩
theorem lw_p47 : lw_okq (⟨"BargainHallModel", "findValue", "(I)V"⟩, 54) := ⟨⟨by decide +kernel, by decide +kernel⟩, List.mem_of_getElem? (i := 961) (by decide +kernel), List.mem_of_getElem? (i := 1357) (by decide +kernel), List.mem_of_getElem? (i := 1358) (by decide +kernel)⟩
def lw_privs_3 : List (MethodName × Nat) := [(⟨"BargainHallModel", "isGood", "(IIII)Z"⟩, 54), (⟨"BargainHallModel", "isFree", "(II)Z"⟩, 54), (⟨"BargainHallModel", "whose", "(I)I"⟩, 54), (⟨"BargainHallModel", "say", "(III)V"⟩, 54), (⟨"BargainHallModel", "sayOffer", "(II)I"⟩, 54), (⟨"BargainHallModel", "isOffer", "(I)Z"⟩, 54), (⟨"BargainHallModel", "yesGain", "()I"⟩, 54), (⟨"BargainHallModel", "agree", "()V"⟩, 54), (⟨"BargainHallModel", "machineWord", "()I"⟩, 54), (⟨"BargainHallModel", "levelOf", "(II)I"⟩, 54), (⟨"BargainHallModel", "findChoices", "(I)V"⟩, 54), (⟨"BargainHallModel", "addChoice", "(II)V"⟩, 54), (⟨"BargainHallModel", "saidBy", "(I)I"⟩, 54), (⟨"BargainHallModel", "wouldSay", "(II)Z"⟩, 54), (⟨"BargainHallModel", "aloneWorth", "(I)I"⟩, 54), (⟨"BargainHallModel", "findValue", "(I)V"⟩, 54)]
theorem lw_r3 : ∀ q ∈ lw_privs_3, lw_okq q := List.forall_mem_cons.mpr ⟨lw_p32, List.forall_mem_cons.mpr ⟨lw_p33, List.forall_mem_cons.mpr ⟨lw_p34, List.forall_mem_cons.mpr ⟨lw_p35, List.forall_mem_cons.mpr ⟨lw_p36, List.forall_mem_cons.mpr ⟨lw_p37, List.forall_mem_cons.mpr ⟨lw_p38, List.forall_mem_cons.mpr ⟨lw_p39, List.forall_mem_cons.mpr ⟨lw_p40, List.forall_mem_cons.mpr ⟨lw_p41, List.forall_mem_cons.mpr ⟨lw_p42, List.forall_mem_cons.mpr ⟨lw_p43, List.forall_mem_cons.mpr ⟨lw_p44, List.forall_mem_cons.mpr ⟨lw_p45, List.forall_mem_cons.mpr ⟨lw_p46, List.forall_mem_cons.mpr ⟨lw_p47, fun _ h => absurd h List.not_mem_nil⟩⟩⟩⟩⟩⟩⟩⟩⟩⟩⟩⟩⟩⟩⟩⟩
theorem lw_p48 : lw_okq (⟨"BargainHallModel", "betterBy", "(I)I"⟩, 54) := ⟨⟨by decide +kernel, by decide +kernel⟩, List.mem_of_getElem? (i := 961) (by decide +kernel), List.mem_of_getElem? (i := 1365) (by decide +kernel), List.mem_of_getElem? (i := 1366) (by decide +kernel)⟩
theorem lw_p49 : lw_okq (⟨"BargainHallModel", "addTerm", "(IIIIII)I"⟩, 54) := ⟨⟨by decide +kernel, by decide +kernel⟩, List.mem_of_getElem? (i := 961) (by decide +kernel), List.mem_of_getElem? (i := 1393) (by decide +kernel), List.mem_of_getElem? (i := 1394) (by decide +kernel)⟩
theorem lw_p50 : lw_okq (⟨"BargainHallModel", "isTerm", "(I)Z"⟩, 54) := ⟨⟨by decide +kernel, by decide +kernel⟩, List.mem_of_getElem? (i := 961) (by decide +kernel), List.mem_of_getElem? (i := 1418) (by decide +kernel), List.mem_of_getElem? (i := 1419) (by decide +kernel)⟩
theorem lw_p51 : lw_okq (⟨"BargainHallModel", "findStates", "(I)V"⟩, 54) := ⟨⟨by decide +kernel, by decide +kernel⟩, List.mem_of_getElem? (i := 961) (by decide +kernel), List.mem_of_getElem? (i := 1426) (by decide +kernel), List.mem_of_getElem? (i := 1427) (by decide +kernel)⟩
theorem lw_p52 : lw_okq (⟨"BargainHallModel", "isKnown", "(II)Z"⟩, 54) := ⟨⟨by decide +kernel, by decide +kernel⟩, List.mem_of_getElem? (i := 961) (by decide +kernel), List.mem_of_getElem? (i := 1430) (by decide +kernel), List.mem_of_getElem? (i := 1431) (by decide +kernel)⟩
theorem lw_p53 : lw_okq (⟨"BargainHallModel", "sumFrom", "(II)I"⟩, 54) := ⟨⟨by decide +kernel, by decide +kernel⟩, List.mem_of_getElem? (i := 961) (by decide +kernel), List.mem_of_getElem? (i := 1451) (by decide +kernel), List.mem_of_getElem? (i := 1452) (by decide +kernel)⟩
theorem lw_p54 : lw_okq (⟨"BargainHallModel", "against", "(IIII)I"⟩, 54) := ⟨⟨by decide +kernel, by decide +kernel⟩, List.mem_of_getElem? (i := 961) (by decide +kernel), List.mem_of_getElem? (i := 1488) (by decide +kernel), List.mem_of_getElem? (i := 1489) (by decide +kernel)⟩
def lw_privs_4 : List (MethodName × Nat) := [(⟨"BargainHallModel", "betterBy", "(I)I"⟩, 54), (⟨"BargainHallModel", "addTerm", "(IIIIII)I"⟩, 54), (⟨"BargainHallModel", "isTerm", "(I)Z"⟩, 54), (⟨"BargainHallModel", "findStates", "(I)V"⟩, 54), (⟨"BargainHallModel", "isKnown", "(II)Z"⟩, 54), (⟨"BargainHallModel", "sumFrom", "(II)I"⟩, 54), (⟨"BargainHallModel", "against", "(IIII)I"⟩, 54)]
theorem lw_r4 : ∀ q ∈ lw_privs_4, lw_okq q := List.forall_mem_cons.mpr ⟨lw_p48, List.forall_mem_cons.mpr ⟨lw_p49, List.forall_mem_cons.mpr ⟨lw_p50, List.forall_mem_cons.mpr ⟨lw_p51, List.forall_mem_cons.mpr ⟨lw_p52, List.forall_mem_cons.mpr ⟨lw_p53, List.forall_mem_cons.mpr ⟨lw_p54, fun _ h => absurd h List.not_mem_nil⟩⟩⟩⟩⟩⟩⟩
def lw_privs : List (MethodName × Nat) := lw_privs_1 ++ (lw_privs_2 ++ (lw_privs_3 ++ (lw_privs_4)))
def lw_tbl : List Cond := k2_sels lw_privs ++ tables_1
theorem lw_privs_ok : ∀ q ∈ lw_privs, lw_okq q := by
  show ∀ q ∈ lw_privs_1 ++ (lw_privs_2 ++ (lw_privs_3 ++ (lw_privs_4))), lw_okq q
  exact List.forall_mem_append.mpr ⟨lw_r1, List.forall_mem_append.mpr ⟨lw_r2, List.forall_mem_append.mpr ⟨lw_r3, lw_r4⟩⟩⟩

def RX0 : String := "BargainHall$Groups"
def TX0 : u_T := fun k => match k with
  | 0 => ("BargainHall$Groups", "sums", "[[I", true)
  | _ => ("BargainHall$Groups", "stale", "I", false)
def tyX0 : Nat → FieldType := fun k => match k with
  | 0 => .array (.array .int)
  | _ => .int
abbrev wsX00 : List Cond := u_ws RX0 TX0 2
theorem nmX0 : ∀ a, a < 2 → ∀ b, b < 2 → a ≠ b → (TX0 a).2.1 ≠ (TX0 b).2.1 := by decide +kernel
theorem tyX0_ok : ∀ k, k < 2 → parseFieldDescriptor (TX0 k).2.2.1 = some (tyX0 k) := by decide +kernel
abbrev cX0_init : ByteArray := prog_2_method_1_code
def yX0_init : MethodName := ⟨RX0, "<init>", "()V"⟩
abbrev cX0_forget : ByteArray := prog_2_method_2_code
def yX0_forget : MethodName := ⟨RX0, "forget", "(I)V"⟩
abbrev cX0_valueOf : ByteArray := prog_2_method_3_code
def yX0_valueOf : MethodName := ⟨RX0, "valueOf", "([LBargainHall$House;I)I"⟩
abbrev cX0_betterBy : ByteArray := prog_2_method_4_code
def yX0_betterBy : MethodName := ⟨RX0, "betterBy", "([LBargainHall$House;I)I"⟩
abbrev cX0_shareOf : ByteArray := prog_2_method_5_code
def yX0_shareOf : MethodName := ⟨RX0, "shareOf", "([LBargainHall$House;I)J"⟩
abbrev cX0_ordersWith : ByteArray := prog_2_method_6_code
def yX0_ordersWith : MethodName := ⟨RX0, "ordersWith", "(I)I"⟩
abbrev cX0_valueOrZero : ByteArray := prog_2_method_7_code
def yX0_valueOrZero : MethodName := ⟨RX0, "valueOrZero", "([LBargainHall$House;I)I"⟩
abbrev cX0_thingsOf : ByteArray := prog_2_method_8_code
def yX0_thingsOf : MethodName := ⟨RX0, "thingsOf", "([LBargainHall$House;I)I"⟩
abbrev cX0_renew : ByteArray := prog_2_method_9_code
def yX0_renew : MethodName := ⟨RX0, "renew", "([LBargainHall$House;)V"⟩
abbrev cX0_fill : ByteArray := prog_2_method_10_code
def yX0_fill : MethodName := ⟨RX0, "fill", "([LBargainHall$House;I)V"⟩
abbrev cX0_worthOrNone : ByteArray := prog_2_method_11_code
def yX0_worthOrNone : MethodName := ⟨RX0, "worthOrNone", "(LBargainHall$Wish;I)I"⟩
abbrev cX0_mostParted : ByteArray := prog_2_method_12_code
def yX0_mostParted : MethodName := ⟨RX0, "mostParted", "(LBargainHall$Wish;[II)I"⟩
def RX1 : String := "BargainHall$House"
def TX1 : u_T := fun k => match k with
  | 0 => ("BargainHall$House", "things", "I", false)
  | 1 => ("BargainHall$House", "coins", "I", false)
  | 2 => ("BargainHall$House", "mandate", "I", false)
  | 3 => ("BargainHall$House", "start", "I", false)
  | 4 => ("BargainHall$House", "down", "I", false)
  | _ => ("BargainHall$House", "wish", "LBargainHall$Wish;", true)
def tyX1 : Nat → FieldType := fun k => match k with
  | 0 => .int
  | 1 => .int
  | 2 => .int
  | 3 => .int
  | 4 => .int
  | _ => .object "BargainHall$Wish"
abbrev wsX10 : List Cond := u_ws RX1 TX1 6
theorem nmX1 : ∀ a, a < 6 → ∀ b, b < 6 → a ≠ b → (TX1 a).2.1 ≠ (TX1 b).2.1 := by decide +kernel
theorem tyX1_ok : ∀ k, k < 6 → parseFieldDescriptor (TX1 k).2.2.1 = some (tyX1 k) := by decide +kernel
abbrev cX1_init : ByteArray := prog_3_method_1_code
def yX1_init : MethodName := ⟨RX1, "<init>", "()V"⟩
abbrev cX1_change : ByteArray := prog_3_method_2_code
def yX1_change : MethodName := ⟨RX1, "change", "(II)I"⟩
abbrev cX1_levelAt : ByteArray := prog_3_method_3_code
def yX1_levelAt : MethodName := ⟨RX1, "levelAt", "(I)I"⟩
abbrev cX1_wouldRather : ByteArray := prog_3_method_4_code
def yX1_wouldRather : MethodName := ⟨RX1, "wouldRather", "(I)Z"⟩
def RX2 : String := "BargainHall$Ledger"
def TX2 : u_T := fun k => match k with
  | 0 => ("BargainHall$Ledger", "terms", "[LBargainHall$Term;", true)
  | 1 => ("BargainHall$Ledger", "ends", "[I", true)
  | 2 => ("BargainHall$Ledger", "count", "I", false)
  | 3 => ("BargainHall$Ledger", "hours", "[I", true)
  | _ => ("BargainHall$Ledger", "known", "[I", true)
def tyX2 : Nat → FieldType := fun k => match k with
  | 0 => .array (.object "BargainHall$Term")
  | 1 => .array .int
  | 2 => .int
  | 3 => .array .int
  | _ => .array .int
abbrev wsX20 : List Cond := u_ws RX2 TX2 5
theorem nmX2 : ∀ a, a < 5 → ∀ b, b < 5 → a ≠ b → (TX2 a).2.1 ≠ (TX2 b).2.1 := by decide +kernel
theorem tyX2_ok : ∀ k, k < 5 → parseFieldDescriptor (TX2 k).2.2.1 = some (tyX2 k) := by decide +kernel
abbrev cX2_init : ByteArray := prog_4_method_1_code
def yX2_init : MethodName := ⟨RX2, "<init>", "()V"⟩
abbrev cX2_hasTerm : ByteArray := prog_4_method_2_code
def yX2_hasTerm : MethodName := ⟨RX2, "hasTerm", "(I)Z"⟩
abbrev cX2_isBar : ByteArray := prog_4_method_3_code
def yX2_isBar : MethodName := ⟨RX2, "isBar", "(I)Z"⟩
abbrev cX2_add : ByteArray := prog_4_method_4_code
def yX2_add : MethodName := ⟨RX2, "add", "(IIIIII)I"⟩
abbrev cX2_hasHappened : ByteArray := prog_4_method_5_code
def yX2_hasHappened : MethodName := ⟨RX2, "hasHappened", "(I)Z"⟩
abbrev cX2_record : ByteArray := prog_4_method_6_code
def yX2_record : MethodName := ⟨RX2, "record", "(III)V"⟩
abbrev cX2_isKnown : ByteArray := prog_4_method_7_code
def yX2_isKnown : MethodName := ⟨RX2, "isKnown", "(II)Z"⟩
abbrev cX2_settle : ByteArray := prog_4_method_8_code
def yX2_settle : MethodName := ⟨RX2, "settle", "(I)V"⟩
abbrev cX2_endOf : ByteArray := prog_4_method_9_code
def yX2_endOf : MethodName := ⟨RX2, "endOf", "(LBargainHall$Term;I)I"⟩
abbrev cX2_stateOf : ByteArray := prog_4_method_10_code
def yX2_stateOf : MethodName := ⟨RX2, "stateOf", "(II)I"⟩
abbrev cX2_breakOf : ByteArray := prog_4_method_11_code
def yX2_breakOf : MethodName := ⟨RX2, "breakOf", "(II)I"⟩
abbrev cX2_owedBy : ByteArray := prog_4_method_12_code
def yX2_owedBy : MethodName := ⟨RX2, "owedBy", "(II)I"⟩
def RX3 : String := "BargainHall$Machine"
def TX3 : u_T := fun k => match k with
  | 0 => ("BargainHall$Machine", "kind", "I", false)
  | 1 => ("BargainHall$Machine", "set", "I", false)
  | 2 => ("BargainHall$Machine", "price", "I", false)
  | 3 => ("BargainHall$Machine", "ranked", "[I", true)
  | _ => ("BargainHall$Machine", "count", "I", false)
def tyX3 : Nat → FieldType := fun k => match k with
  | 0 => .int
  | 1 => .int
  | 2 => .int
  | 3 => .array .int
  | _ => .int
abbrev wsX30 : List Cond := u_ws RX3 TX3 5
theorem nmX3 : ∀ a, a < 5 → ∀ b, b < 5 → a ≠ b → (TX3 a).2.1 ≠ (TX3 b).2.1 := by decide +kernel
theorem tyX3_ok : ∀ k, k < 5 → parseFieldDescriptor (TX3 k).2.2.1 = some (tyX3 k) := by decide +kernel
abbrev cX3_init : ByteArray := prog_5_method_1_code
def yX3_init : MethodName := ⟨RX3, "<init>", "()V"⟩
abbrev cX3_rank : ByteArray := prog_5_method_2_code
def yX3_rank : MethodName := ⟨RX3, "rank", "(LBargainHall$Pair;I)V"⟩
abbrev cX3_insert : ByteArray := prog_5_method_3_code
def yX3_insert : MethodName := ⟨RX3, "insert", "(LBargainHall$Pair;II)V"⟩
abbrev cX3_choose : ByteArray := prog_5_method_4_code
def yX3_choose : MethodName := ⟨RX3, "choose", "(LBargainHall$Pair;LBargainHall$House;LBargainHall$Talk;I)V"⟩
def RX4 : String := "BargainHall$Pair"
def TX4 : u_T := fun k => match k with
  | 0 => ("BargainHall$Pair", "thingsA", "I", false)
  | 1 => ("BargainHall$Pair", "thingsB", "I", false)
  | 2 => ("BargainHall$Pair", "coinsA", "I", false)
  | 3 => ("BargainHall$Pair", "coinsB", "I", false)
  | 4 => ("BargainHall$Pair", "wishA", "LBargainHall$Wish;", false)
  | _ => ("BargainHall$Pair", "wishB", "LBargainHall$Wish;", false)
def tyX4 : Nat → FieldType := fun k => match k with
  | 0 => .int
  | 1 => .int
  | 2 => .int
  | 3 => .int
  | 4 => .object "BargainHall$Wish"
  | _ => .object "BargainHall$Wish"
abbrev wsX40 : List Cond := u_ws RX4 TX4 6
theorem nmX4 : ∀ a, a < 6 → ∀ b, b < 6 → a ≠ b → (TX4 a).2.1 ≠ (TX4 b).2.1 := by decide +kernel
theorem tyX4_ok : ∀ k, k < 6 → parseFieldDescriptor (TX4 k).2.2.1 = some (tyX4 k) := by decide +kernel
abbrev cX4_init : ByteArray := prog_6_method_1_code
def yX4_init : MethodName := ⟨RX4, "<init>", "(LBargainHall$House;LBargainHall$House;)V"⟩
abbrev cX4_take : ByteArray := prog_6_method_2_code
def yX4_take : MethodName := ⟨RX4, "take", "(LBargainHall$House;LBargainHall$House;)V"⟩
abbrev cX4_suppose : ByteArray := prog_6_method_3_code
def yX4_suppose : MethodName := ⟨RX4, "suppose", "(LBargainHall$Pair;ILBargainHall$Wish;)V"⟩
abbrev cX4_pool : ByteArray := prog_6_method_4_code
def yX4_pool : MethodName := ⟨RX4, "pool", "()I"⟩
abbrev cX4_isInPool : ByteArray := prog_6_method_5_code
def yX4_isInPool : MethodName := ⟨RX4, "isInPool", "(I)Z"⟩
abbrev cX4_isBarredTo : ByteArray := prog_6_method_6_code
def yX4_isBarredTo : MethodName := ⟨RX4, "isBarredTo", "(II)Z"⟩
abbrev cX4_worthThen : ByteArray := prog_6_method_7_code
def yX4_worthThen : MethodName := ⟨RX4, "worthThen", "(II)I"⟩
abbrev cX4_gained : ByteArray := prog_6_method_8_code
def yX4_gained : MethodName := ⟨RX4, "gained", "(III)I"⟩
abbrev cX4_priceFor : ByteArray := prog_6_method_9_code
def yX4_priceFor : MethodName := ⟨RX4, "priceFor", "(III)I"⟩
abbrev cX4_sumOfGains : ByteArray := prog_6_method_10_code
def yX4_sumOfGains : MethodName := ⟨RX4, "sumOfGains", "(I)I"⟩
abbrev cX4_evenPrice : ByteArray := prog_6_method_11_code
def yX4_evenPrice : MethodName := ⟨RX4, "evenPrice", "(I)I"⟩
abbrev cX4_isOpenToBoth : ByteArray := prog_6_method_12_code
def yX4_isOpenToBoth : MethodName := ⟨RX4, "isOpenToBoth", "(I)Z"⟩
abbrev cX4_isGood : ByteArray := prog_6_method_13_code
def yX4_isGood : MethodName := ⟨RX4, "isGood", "(II)Z"⟩
abbrev cX4_bestSet : ByteArray := prog_6_method_14_code
def yX4_bestSet : MethodName := ⟨RX4, "bestSet", "()I"⟩
def RX5 : String := "BargainHall$Row"
def TX5 : u_T := fun k => match k with
  | _ => ("BargainHall$Row", "nodes", "[I", true)
def tyX5 : Nat → FieldType := fun k => match k with
  | _ => .array .int
abbrev wsX50 : List Cond := u_ws RX5 TX5 1
theorem nmX5 : ∀ a, a < 1 → ∀ b, b < 1 → a ≠ b → (TX5 a).2.1 ≠ (TX5 b).2.1 := by decide +kernel
theorem tyX5_ok : ∀ k, k < 1 → parseFieldDescriptor (TX5 k).2.2.1 = some (tyX5 k) := by decide +kernel
abbrev cX5_init : ByteArray := prog_7_method_1_code
def yX5_init : MethodName := ⟨RX5, "<init>", "()V"⟩
abbrev cX5_sum : ByteArray := prog_7_method_2_code
def yX5_sum : MethodName := ⟨RX5, "sum", "(II)I"⟩
abbrev cX5_put : ByteArray := prog_7_method_3_code
def yX5_put : MethodName := ⟨RX5, "put", "(II)I"⟩
abbrev cX5_beside : ByteArray := prog_7_method_4_code
def yX5_beside : MethodName := ⟨RX5, "beside", "(II)I"⟩
abbrev cX5_climb : ByteArray := prog_7_method_5_code
def yX5_climb : MethodName := ⟨RX5, "climb", "(III)I"⟩
def RX6 : String := "BargainHall$Sheet"
def TX6 : u_T := fun k => match k with
  | 0 => ("BargainHall$Sheet", "items", "[I", true)
  | 1 => ("BargainHall$Sheet", "lane", "I", false)
  | _ => ("BargainHall$Sheet", "size", "I", false)
def tyX6 : Nat → FieldType := fun k => match k with
  | 0 => .array .int
  | 1 => .int
  | _ => .int
abbrev wsX60 : List Cond := u_ws RX6 TX6 3
theorem nmX6 : ∀ a, a < 3 → ∀ b, b < 3 → a ≠ b → (TX6 a).2.1 ≠ (TX6 b).2.1 := by decide +kernel
theorem tyX6_ok : ∀ k, k < 3 → parseFieldDescriptor (TX6 k).2.2.1 = some (tyX6 k) := by decide +kernel
abbrev cX6_init : ByteArray := prog_8_method_1_code
def yX6_init : MethodName := ⟨RX6, "<init>", "()V"⟩
abbrev cX6_isMissing : ByteArray := prog_8_method_2_code
def yX6_isMissing : MethodName := ⟨RX6, "isMissing", "()Z"⟩
abbrev cX6_renew : ByteArray := prog_8_method_3_code
def yX6_renew : MethodName := ⟨RX6, "renew", "(II)V"⟩
abbrev cX6_lose : ByteArray := prog_8_method_4_code
def yX6_lose : MethodName := ⟨RX6, "lose", "()I"⟩
abbrev cX6_refusal : ByteArray := prog_8_method_5_code
def yX6_refusal : MethodName := ⟨RX6, "refusal", "(III)I"⟩
abbrev cX6_put : ByteArray := prog_8_method_6_code
def yX6_put : MethodName := ⟨RX6, "put", "(II)V"⟩
abbrev cX6_areWithin : ByteArray := prog_8_method_7_code
def yX6_areWithin : MethodName := ⟨RX6, "areWithin", "(III)Z"⟩
def RX7 : String := "BargainHall$Talk"
def TX7 : u_T := fun k => match k with
  | 0 => ("BargainHall$Talk", "standing", "I", false)
  | 1 => ("BargainHall$Talk", "a", "I", false)
  | 2 => ("BargainHall$Talk", "b", "I", false)
  | 3 => ("BargainHall$Talk", "count", "I", false)
  | 4 => ("BargainHall$Talk", "most", "I", false)
  | 5 => ("BargainHall$Talk", "began", "LBargainHall$Pair;", true)
  | 6 => ("BargainHall$Talk", "kinds", "[I", true)
  | 7 => ("BargainHall$Talk", "sets", "[I", true)
  | _ => ("BargainHall$Talk", "prices", "[I", true)
def tyX7 : Nat → FieldType := fun k => match k with
  | 0 => .int
  | 1 => .int
  | 2 => .int
  | 3 => .int
  | 4 => .int
  | 5 => .object "BargainHall$Pair"
  | 6 => .array .int
  | 7 => .array .int
  | _ => .array .int
abbrev wsX70 : List Cond := u_ws RX7 TX7 9
theorem nmX7 : ∀ a, a < 9 → ∀ b, b < 9 → a ≠ b → (TX7 a).2.1 ≠ (TX7 b).2.1 := by decide +kernel
theorem tyX7_ok : ∀ k, k < 9 → parseFieldDescriptor (TX7 k).2.2.1 = some (tyX7 k) := by decide +kernel
abbrev cX7_init : ByteArray := prog_9_method_1_code
def yX7_init : MethodName := ⟨RX7, "<init>", "(LBargainHall$Pair;)V"⟩
abbrev cX7_begin : ByteArray := prog_9_method_2_code
def yX7_begin : MethodName := ⟨RX7, "begin", "(III)V"⟩
abbrev cX7_isOpen : ByteArray := prog_9_method_3_code
def yX7_isOpen : MethodName := ⟨RX7, "isOpen", "()Z"⟩
abbrev cX7_sideAt : ByteArray := prog_9_method_4_code
def yX7_sideAt : MethodName := ⟨RX7, "sideAt", "(I)I"⟩
abbrev cX7_partyOf : ByteArray := prog_9_method_5_code
def yX7_partyOf : MethodName := ⟨RX7, "partyOf", "(I)I"⟩
abbrev cX7_saidBy : ByteArray := prog_9_method_6_code
def yX7_saidBy : MethodName := ⟨RX7, "saidBy", "(I)I"⟩
abbrev cX7_hasWord : ByteArray := prog_9_method_7_code
def yX7_hasWord : MethodName := ⟨RX7, "hasWord", "(I)Z"⟩
abbrev cX7_kindAt : ByteArray := prog_9_method_8_code
def yX7_kindAt : MethodName := ⟨RX7, "kindAt", "(I)I"⟩
abbrev cX7_setAt : ByteArray := prog_9_method_9_code
def yX7_setAt : MethodName := ⟨RX7, "setAt", "(I)I"⟩
abbrev cX7_priceAt : ByteArray := prog_9_method_10_code
def yX7_priceAt : MethodName := ⟨RX7, "priceAt", "(I)I"⟩
abbrev cX7_isOffer : ByteArray := prog_9_method_11_code
def yX7_isOffer : MethodName := ⟨RX7, "isOffer", "(I)Z"⟩
abbrev cX7_isWord : ByteArray := prog_9_method_12_code
def yX7_isWord : MethodName := ⟨RX7, "isWord", "(IIII)Z"⟩
abbrev cX7_offerKind : ByteArray := prog_9_method_13_code
def yX7_offerKind : MethodName := ⟨RX7, "offerKind", "(I)I"⟩
abbrev cX7_suits : ByteArray := prog_9_method_14_code
def yX7_suits : MethodName := ⟨RX7, "suits", "(LBargainHall$Pair;II)Z"⟩
abbrev cX7_add : ByteArray := prog_9_method_15_code
def yX7_add : MethodName := ⟨RX7, "add", "(III)V"⟩
def RX8 : String := "BargainHall$Tape"
def TX8 : u_T := fun k => match k with
  | 0 => ("BargainHall$Tape", "bytes", "[I", true)
  | 1 => ("BargainHall$Tape", "size", "I", false)
  | _ => ("BargainHall$Tape", "place", "I", false)
def tyX8 : Nat → FieldType := fun k => match k with
  | 0 => .array .int
  | 1 => .int
  | _ => .int
abbrev wsX80 : List Cond := u_ws RX8 TX8 3
theorem nmX8 : ∀ a, a < 3 → ∀ b, b < 3 → a ≠ b → (TX8 a).2.1 ≠ (TX8 b).2.1 := by decide +kernel
theorem tyX8_ok : ∀ k, k < 3 → parseFieldDescriptor (TX8 k).2.2.1 = some (tyX8 k) := by decide +kernel
abbrev cX8_init : ByteArray := prog_10_method_1_code
def yX8_init : MethodName := ⟨RX8, "<init>", "()V"⟩
abbrev cX8_append : ByteArray := prog_10_method_2_code
def yX8_append : MethodName := ⟨RX8, "append", "(JI)I"⟩
abbrev cX8_byteOf : ByteArray := prog_10_method_3_code
def yX8_byteOf : MethodName := ⟨RX8, "byteOf", "(JI)I"⟩
abbrev cX8_readInto : ByteArray := prog_10_method_4_code
def yX8_readInto : MethodName := ⟨RX8, "readInto", "(LBargainHall$Wish;)I"⟩
abbrev cX8_readClauses : ByteArray := prog_10_method_5_code
def yX8_readClauses : MethodName := ⟨RX8, "readClauses", "(LBargainHall$Wish;)I"⟩
abbrev cX8_readClause : ByteArray := prog_10_method_6_code
def yX8_readClause : MethodName := ⟨RX8, "readClause", "(LBargainHall$Wish;)I"⟩
abbrev cX8_readLetters : ByteArray := prog_10_method_7_code
def yX8_readLetters : MethodName := ⟨RX8, "readLetters", "()I"⟩
abbrev cX8_readNumber : ByteArray := prog_10_method_8_code
def yX8_readNumber : MethodName := ⟨RX8, "readNumber", "(LBargainHall$Wish;I)I"⟩
abbrev cX8_next : ByteArray := prog_10_method_9_code
def yX8_next : MethodName := ⟨RX8, "next", "()I"⟩
abbrev cX8_faultAt : ByteArray := prog_10_method_10_code
def yX8_faultAt : MethodName := ⟨RX8, "faultAt", "(I)I"⟩
abbrev cX8_isDigit : ByteArray := prog_10_method_11_code
def yX8_isDigit : MethodName := ⟨RX8, "isDigit", "(I)Z"⟩
abbrev cX8_letterBit : ByteArray := prog_10_method_12_code
def yX8_letterBit : MethodName := ⟨RX8, "letterBit", "(I)I"⟩
def RX9 : String := "BargainHall$Term"
def TX9 : u_T := fun k => match k with
  | 0 => ("BargainHall$Term", "kind", "I", false)
  | 1 => ("BargainHall$Term", "payer", "I", false)
  | 2 => ("BargainHall$Term", "taker", "I", false)
  | 3 => ("BargainHall$Term", "coins", "I", false)
  | 4 => ("BargainHall$Term", "about", "I", false)
  | 5 => ("BargainHall$Term", "within", "I", false)
  | _ => ("BargainHall$Term", "paid", "I", false)
def tyX9 : Nat → FieldType := fun k => match k with
  | 0 => .int
  | 1 => .int
  | 2 => .int
  | 3 => .int
  | 4 => .int
  | 5 => .int
  | _ => .int
abbrev wsX90 : List Cond := u_ws RX9 TX9 7
theorem nmX9 : ∀ a, a < 7 → ∀ b, b < 7 → a ≠ b → (TX9 a).2.1 ≠ (TX9 b).2.1 := by decide +kernel
theorem tyX9_ok : ∀ k, k < 7 → parseFieldDescriptor (TX9 k).2.2.1 = some (tyX9 k) := by decide +kernel
abbrev cX9_init : ByteArray := prog_11_method_1_code
def yX9_init : MethodName := ⟨RX9, "<init>", "()V"⟩
abbrev cX9_isPaid : ByteArray := prog_11_method_2_code
def yX9_isPaid : MethodName := ⟨RX9, "isPaid", "()Z"⟩
abbrev cX9_isPaidBy : ByteArray := prog_11_method_3_code
def yX9_isPaidBy : MethodName := ⟨RX9, "isPaidBy", "(I)Z"⟩
def RX10 : String := "BargainHall$Wish"
def TX10 : u_T := fun k => match k with
  | 0 => ("BargainHall$Wish", "clauses", "I", false)
  | 1 => ("BargainHall$Wish", "worths", "[I", true)
  | _ => ("BargainHall$Wish", "bars", "[Z", true)
def tyX10 : Nat → FieldType := fun k => match k with
  | 0 => .int
  | 1 => .array .int
  | _ => .array .boolean
abbrev wsX100 : List Cond := u_ws RX10 TX10 3
theorem nmX10 : ∀ a, a < 3 → ∀ b, b < 3 → a ≠ b → (TX10 a).2.1 ≠ (TX10 b).2.1 := by decide +kernel
theorem tyX10_ok : ∀ k, k < 3 → parseFieldDescriptor (TX10 k).2.2.1 = some (tyX10 k) := by decide +kernel
abbrev cX10_init : ByteArray := prog_12_method_1_code
def yX10_init : MethodName := ⟨RX10, "<init>", "()V"⟩
abbrev cX10_clear : ByteArray := prog_12_method_2_code
def yX10_clear : MethodName := ⟨RX10, "clear", "()V"⟩
abbrev cX10_addNumber : ByteArray := prog_12_method_3_code
def yX10_addNumber : MethodName := ⟨RX10, "addNumber", "(II)V"⟩
abbrev cX10_addBar : ByteArray := prog_12_method_4_code
def yX10_addBar : MethodName := ⟨RX10, "addBar", "(I)V"⟩
abbrev cX10_become : ByteArray := prog_12_method_5_code
def yX10_become : MethodName := ⟨RX10, "become", "(LBargainHall$Wish;)V"⟩
abbrev cX10_tellAlone : ByteArray := prog_12_method_6_code
def yX10_tellAlone : MethodName := ⟨RX10, "tellAlone", "([II)V"⟩
def RX11 : String := "BargainHall"
def TX11 : u_T := fun k => match k with
  | 0 => ("BargainHall", "houses", "[LBargainHall$House;", true)
  | 1 => ("BargainHall", "tape", "LBargainHall$Tape;", true)
  | 2 => ("BargainHall", "draft", "LBargainHall$Wish;", true)
  | 3 => ("BargainHall", "guess", "LBargainHall$Wish;", true)
  | 4 => ("BargainHall", "guessed", "[I", true)
  | 5 => ("BargainHall", "groups", "LBargainHall$Groups;", true)
  | 6 => ("BargainHall", "pair", "LBargainHall$Pair;", true)
  | 7 => ("BargainHall", "trial", "LBargainHall$Pair;", true)
  | 8 => ("BargainHall", "talk", "LBargainHall$Talk;", true)
  | 9 => ("BargainHall", "machine", "LBargainHall$Machine;", true)
  | 10 => ("BargainHall", "ledger", "LBargainHall$Ledger;", true)
  | 11 => ("BargainHall", "theRow", "LBargainHall$Row;", true)
  | _ => ("BargainHall", "sheets", "[LBargainHall$Sheet;", true)
def tyX11 : Nat → FieldType := fun k => match k with
  | 0 => .array (.object "BargainHall$House")
  | 1 => .object "BargainHall$Tape"
  | 2 => .object "BargainHall$Wish"
  | 3 => .object "BargainHall$Wish"
  | 4 => .array .int
  | 5 => .object "BargainHall$Groups"
  | 6 => .object "BargainHall$Pair"
  | 7 => .object "BargainHall$Pair"
  | 8 => .object "BargainHall$Talk"
  | 9 => .object "BargainHall$Machine"
  | 10 => .object "BargainHall$Ledger"
  | 11 => .object "BargainHall$Row"
  | _ => .array (.object "BargainHall$Sheet")
abbrev wsX110 : List Cond := u_ws RX11 TX11 13
theorem nmX11 : ∀ a, a < 13 → ∀ b, b < 13 → a ≠ b → (TX11 a).2.1 ≠ (TX11 b).2.1 := by decide +kernel
theorem tyX11_ok : ∀ k, k < 13 → parseFieldDescriptor (TX11 k).2.2.1 = some (tyX11 k) := by decide +kernel
abbrev cX11_init : ByteArray := prog_1_method_1_code
def yX11_init : MethodName := ⟨RX11, "<init>", "()V"⟩
abbrev cX11_own : ByteArray := prog_1_method_2_code
def yX11_own : MethodName := ⟨RX11, "own", "(II)I"⟩
abbrev cX11_coins : ByteArray := prog_1_method_3_code
def yX11_coins : MethodName := ⟨RX11, "coins", "(II)I"⟩
abbrev cX11_type : ByteArray := prog_1_method_4_code
def yX11_type : MethodName := ⟨RX11, "type", "(JI)I"⟩
abbrev cX11_wish : ByteArray := prog_1_method_5_code
def yX11_wish : MethodName := ⟨RX11, "wish", "(I)I"⟩
abbrev cX11_worth : ByteArray := prog_1_method_6_code
def yX11_worth : MethodName := ⟨RX11, "worth", "(II)I"⟩
abbrev cX11_barred : ByteArray := prog_1_method_7_code
def yX11_barred : MethodName := ⟨RX11, "barred", "(II)I"⟩
abbrev cX11_told : ByteArray := prog_1_method_8_code
def yX11_told : MethodName := ⟨RX11, "told", "(II)I"⟩
abbrev cX11_set : ByteArray := prog_1_method_9_code
def yX11_set : MethodName := ⟨RX11, "set", "(III)I"⟩
abbrev cX11_gain : ByteArray := prog_1_method_10_code
def yX11_gain : MethodName := ⟨RX11, "gain", "(IIIII)I"⟩
abbrev cX11_good : ByteArray := prog_1_method_11_code
def yX11_good : MethodName := ⟨RX11, "good", "(IIII)I"⟩
abbrev cX11_best : ByteArray := prog_1_method_12_code
def yX11_best : MethodName := ⟨RX11, "best", "(III)I"⟩
abbrev cX11_talk : ByteArray := prog_1_method_13_code
def yX11_talk : MethodName := ⟨RX11, "talk", "(III)I"⟩
abbrev cX11_talks : ByteArray := prog_1_method_14_code
def yX11_talks : MethodName := ⟨RX11, "talks", "(I)I"⟩
abbrev cX11_ask : ByteArray := prog_1_method_15_code
def yX11_ask : MethodName := ⟨RX11, "ask", "(I)I"⟩
abbrev cX11_offer : ByteArray := prog_1_method_16_code
def yX11_offer : MethodName := ⟨RX11, "offer", "(II)I"⟩
abbrev cX11_yes : ByteArray := prog_1_method_17_code
def yX11_yes : MethodName := ⟨RX11, "yes", "()I"⟩
abbrev cX11_walk : ByteArray := prog_1_method_18_code
def yX11_walk : MethodName := ⟨RX11, "walk", "()I"⟩
abbrev cX11_says : ByteArray := prog_1_method_19_code
def yX11_says : MethodName := ⟨RX11, "says", "()I"⟩
abbrev cX11_runs : ByteArray := prog_1_method_20_code
def yX11_runs : MethodName := ⟨RX11, "runs", "()I"⟩
abbrev cX11_word : ByteArray := prog_1_method_21_code
def yX11_word : MethodName := ⟨RX11, "word", "(II)I"⟩
abbrev cX11_offered : ByteArray := prog_1_method_22_code
def yX11_offered : MethodName := ⟨RX11, "offered", "(II)I"⟩
abbrev cX11_learnt : ByteArray := prog_1_method_23_code
def yX11_learnt : MethodName := ⟨RX11, "learnt", "(II)I"⟩
abbrev cX11_value : ByteArray := prog_1_method_24_code
def yX11_value : MethodName := ⟨RX11, "value", "(I)I"⟩
abbrev cX11_unrest : ByteArray := prog_1_method_25_code
def yX11_unrest : MethodName := ⟨RX11, "unrest", "()I"⟩
abbrev cX11_leaves : ByteArray := prog_1_method_26_code
def yX11_leaves : MethodName := ⟨RX11, "leaves", "()I"⟩
abbrev cX11_share : ByteArray := prog_1_method_27_code
def yX11_share : MethodName := ⟨RX11, "share", "(I)J"⟩
abbrev cX11_envy : ByteArray := prog_1_method_28_code
def yX11_envy : MethodName := ⟨RX11, "envy", "()I"⟩
abbrev cX11_due : ByteArray := prog_1_method_29_code
def yX11_due : MethodName := ⟨RX11, "due", "(IIII)I"⟩
abbrev cX11_when : ByteArray := prog_1_method_30_code
def yX11_when : MethodName := ⟨RX11, "when", "(IIIII)I"⟩
abbrev cX11_mend : ByteArray := prog_1_method_31_code
def yX11_mend : MethodName := ⟨RX11, "mend", "(IIIII)I"⟩
abbrev cX11_bar : ByteArray := prog_1_method_32_code
def yX11_bar : MethodName := ⟨RX11, "bar", "(II)I"⟩
abbrev cX11_happen : ByteArray := prog_1_method_33_code
def yX11_happen : MethodName := ⟨RX11, "happen", "(III)I"⟩
abbrev cX11_pay : ByteArray := prog_1_method_34_code
def yX11_pay : MethodName := ⟨RX11, "pay", "(II)I"⟩
abbrev cX11_state : ByteArray := prog_1_method_35_code
def yX11_state : MethodName := ⟨RX11, "state", "(II)I"⟩
abbrev cX11_end : ByteArray := prog_1_method_36_code
def yX11_end : MethodName := ⟨RX11, "end", "(II)I"⟩
abbrev cX11_owes : ByteArray := prog_1_method_37_code
def yX11_owes : MethodName := ⟨RX11, "owes", "(II)I"⟩
abbrev cX11_row : ByteArray := prog_1_method_38_code
def yX11_row : MethodName := ⟨RX11, "row", "(II)I"⟩
abbrev cX11_root : ByteArray := prog_1_method_39_code
def yX11_root : MethodName := ⟨RX11, "root", "()I"⟩
abbrev cX11_proof : ByteArray := prog_1_method_40_code
def yX11_proof : MethodName := ⟨RX11, "proof", "(II)I"⟩
abbrev cX11_proves : ByteArray := prog_1_method_41_code
def yX11_proves : MethodName := ⟨RX11, "proves", "(IIIII)I"⟩
abbrev cX11_sheet : ByteArray := prog_1_method_42_code
def yX11_sheet : MethodName := ⟨RX11, "sheet", "(III)I"⟩
abbrev cX11_drop : ByteArray := prog_1_method_43_code
def yX11_drop : MethodName := ⟨RX11, "drop", "(I)I"⟩
abbrev cX11_item : ByteArray := prog_1_method_44_code
def yX11_item : MethodName := ⟨RX11, "item", "(IIII)I"⟩
abbrev cX11_wishes : ByteArray := prog_1_method_45_code
def yX11_wishes : MethodName := ⟨RX11, "wishes", "(IIII)I"⟩
abbrev cX11_isWithin : ByteArray := prog_1_method_46_code
def yX11_isWithin : MethodName := ⟨RX11, "isWithin", "(III)Z"⟩
abbrev cX11_isHouse : ByteArray := prog_1_method_47_code
def yX11_isHouse : MethodName := ⟨RX11, "isHouse", "(I)Z"⟩
abbrev cX11_isTwoHouses : ByteArray := prog_1_method_48_code
def yX11_isTwoHouses : MethodName := ⟨RX11, "isTwoHouses", "(II)Z"⟩
abbrev cX11_isThing : ByteArray := prog_1_method_49_code
def yX11_isThing : MethodName := ⟨RX11, "isThing", "(I)Z"⟩
abbrev cX11_isSet : ByteArray := prog_1_method_50_code
def yX11_isSet : MethodName := ⟨RX11, "isSet", "(I)Z"⟩
abbrev cX11_isPrice : ByteArray := prog_1_method_51_code
def yX11_isPrice : MethodName := ⟨RX11, "isPrice", "(I)Z"⟩
abbrev cX11_isHour : ByteArray := prog_1_method_52_code
def yX11_isHour : MethodName := ⟨RX11, "isHour", "(I)Z"⟩
abbrev cX11_isEvent : ByteArray := prog_1_method_53_code
def yX11_isEvent : MethodName := ⟨RX11, "isEvent", "(I)Z"⟩
abbrev cX11_isDebt : ByteArray := prog_1_method_54_code
def yX11_isDebt : MethodName := ⟨RX11, "isDebt", "(III)Z"⟩
abbrev cX11_isSum : ByteArray := prog_1_method_55_code
def yX11_isSum : MethodName := ⟨RX11, "isSum", "(I)Z"⟩
abbrev cX11_isSheet : ByteArray := prog_1_method_56_code
def yX11_isSheet : MethodName := ⟨RX11, "isSheet", "(I)Z"⟩
abbrev cX11_isLane : ByteArray := prog_1_method_57_code
def yX11_isLane : MethodName := ⟨RX11, "isLane", "(I)Z"⟩
abbrev cX11_isExchange : ByteArray := prog_1_method_58_code
def yX11_isExchange : MethodName := ⟨RX11, "isExchange", "(IIII)Z"⟩
abbrev cX11_hasBit : ByteArray := prog_1_method_59_code
def yX11_hasBit : MethodName := ⟨RX11, "hasBit", "(II)Z"⟩
abbrev cX11_oneIf : ByteArray := prog_1_method_60_code
def yX11_oneIf : MethodName := ⟨RX11, "oneIf", "(Z)I"⟩
abbrev cX11_ownerOf : ByteArray := prog_1_method_61_code
def yX11_ownerOf : MethodName := ⟨RX11, "ownerOf", "(I)I"⟩
abbrev cX11_agree : ByteArray := prog_1_method_62_code
def yX11_agree : MethodName := ⟨RX11, "agree", "()V"⟩
abbrev cX11_letMachineSpeak : ByteArray := prog_1_method_63_code
def yX11_letMachineSpeak : MethodName := ⟨RX11, "letMachineSpeak", "()I"⟩
abbrev cX11_countGuesses : ByteArray := prog_1_method_64_code
def yX11_countGuesses : MethodName := ⟨RX11, "countGuesses", "(III)I"⟩
abbrev cX11_makeGuess : ByteArray := prog_1_method_65_code
def yX11_makeGuess : MethodName := ⟨RX11, "makeGuess", "(II)V"⟩
abbrev cX11_wouldHaveSaid : ByteArray := prog_1_method_66_code
def yX11_wouldHaveSaid : MethodName := ⟨RX11, "wouldHaveSaid", "(LBargainHall$House;II)Z"⟩
def RX12 : String := "BargainHallModel"
def TX12 : u_T := fun k => match k with
  | 0 => ("BargainHallModel", "owners", "[I", true)
  | 1 => ("BargainHallModel", "coins", "[I", true)
  | 2 => ("BargainHallModel", "mandates", "[I", true)
  | 3 => ("BargainHallModel", "starts", "[I", true)
  | 4 => ("BargainHallModel", "downs", "[I", true)
  | 5 => ("BargainHallModel", "clauseMany", "[I", true)
  | 6 => ("BargainHallModel", "clauseSets", "[I", true)
  | 7 => ("BargainHallModel", "clauseNumbers", "[I", true)
  | 8 => ("BargainHallModel", "clauseBars", "[Z", true)
  | 9 => ("BargainHallModel", "tape", "[I", true)
  | 10 => ("BargainHallModel", "taped", "I", false)
  | 11 => ("BargainHallModel", "at", "I", false)
  | 12 => ("BargainHallModel", "readSets", "[I", true)
  | 13 => ("BargainHallModel", "readNumbers", "[I", true)
  | 14 => ("BargainHallModel", "readBars", "[Z", true)
  | 15 => ("BargainHallModel", "talkStands", "I", false)
  | 16 => ("BargainHallModel", "talkA", "I", false)
  | 17 => ("BargainHallModel", "talkB", "I", false)
  | 18 => ("BargainHallModel", "talkMost", "I", false)
  | 19 => ("BargainHallModel", "words", "I", false)
  | 20 => ("BargainHallModel", "wordKinds", "[I", true)
  | 21 => ("BargainHallModel", "wordSets", "[I", true)
  | 22 => ("BargainHallModel", "wordPrices", "[I", true)
  | 23 => ("BargainHallModel", "beganA", "I", false)
  | 24 => ("BargainHallModel", "beganB", "I", false)
  | 25 => ("BargainHallModel", "beganCoinsA", "I", false)
  | 26 => ("BargainHallModel", "beganCoinsB", "I", false)
  | 27 => ("BargainHallModel", "choices", "[I", true)
  | 28 => ("BargainHallModel", "worths", "[I", true)
  | 29 => ("BargainHallModel", "choiceMany", "I", false)
  | 30 => ("BargainHallModel", "aloneThings", "[I", true)
  | 31 => ("BargainHallModel", "aloneMany", "I", false)
  | 32 => ("BargainHallModel", "alone", "[I", true)
  | 33 => ("BargainHallModel", "values", "[I", true)
  | 34 => ("BargainHallModel", "hasValue", "[Z", true)
  | 35 => ("BargainHallModel", "members", "[I", true)
  | 36 => ("BargainHallModel", "parted", "[I", true)
  | 37 => ("BargainHallModel", "terms", "I", false)
  | 38 => ("BargainHallModel", "kinds", "[I", true)
  | 39 => ("BargainHallModel", "froms", "[I", true)
  | 40 => ("BargainHallModel", "tos", "[I", true)
  | 41 => ("BargainHallModel", "sums", "[I", true)
  | 42 => ("BargainHallModel", "bys", "[I", true)
  | 43 => ("BargainHallModel", "withins", "[I", true)
  | 44 => ("BargainHallModel", "paidAt", "[I", true)
  | 45 => ("BargainHallModel", "happened", "[I", true)
  | 46 => ("BargainHallModel", "knownFrom", "[I", true)
  | 47 => ("BargainHallModel", "ends", "[I", true)
  | 48 => ("BargainHallModel", "breaks", "[I", true)
  | 49 => ("BargainHallModel", "states", "[I", true)
  | 50 => ("BargainHallModel", "numbers", "[I", true)
  | 51 => ("BargainHallModel", "lanes", "[I", true)
  | 52 => ("BargainHallModel", "sizes", "[I", true)
  | _ => ("BargainHallModel", "items", "[I", true)
def tyX12 : Nat → FieldType := fun k => match k with
  | 0 => .array .int
  | 1 => .array .int
  | 2 => .array .int
  | 3 => .array .int
  | 4 => .array .int
  | 5 => .array .int
  | 6 => .array .int
  | 7 => .array .int
  | 8 => .array .boolean
  | 9 => .array .int
  | 10 => .int
  | 11 => .int
  | 12 => .array .int
  | 13 => .array .int
  | 14 => .array .boolean
  | 15 => .int
  | 16 => .int
  | 17 => .int
  | 18 => .int
  | 19 => .int
  | 20 => .array .int
  | 21 => .array .int
  | 22 => .array .int
  | 23 => .int
  | 24 => .int
  | 25 => .int
  | 26 => .int
  | 27 => .array .int
  | 28 => .array .int
  | 29 => .int
  | 30 => .array .int
  | 31 => .int
  | 32 => .array .int
  | 33 => .array .int
  | 34 => .array .boolean
  | 35 => .array .int
  | 36 => .array .int
  | 37 => .int
  | 38 => .array .int
  | 39 => .array .int
  | 40 => .array .int
  | 41 => .array .int
  | 42 => .array .int
  | 43 => .array .int
  | 44 => .array .int
  | 45 => .array .int
  | 46 => .array .int
  | 47 => .array .int
  | 48 => .array .int
  | 49 => .array .int
  | 50 => .array .int
  | 51 => .array .int
  | 52 => .array .int
  | _ => .array .int
abbrev wsX120 : List Cond := u_ws RX12 TX12 54
theorem nmX12 : ∀ a, a < 54 → ∀ b, b < 54 → a ≠ b → (TX12 a).2.1 ≠ (TX12 b).2.1 := by decide +kernel
theorem tyX12_ok : ∀ k, k < 54 → parseFieldDescriptor (TX12 k).2.2.1 = some (tyX12 k) := by decide +kernel
abbrev cX12_in : ByteArray := prog_14_method_1_code
def yX12_in : MethodName := ⟨RX12, "in", "(JJJ)Z"⟩
abbrev cX12_init : ByteArray := prog_14_method_2_code
def yX12_init : MethodName := ⟨RX12, "<init>", "()V"⟩
abbrev cX12_isHouse : ByteArray := prog_14_method_3_code
def yX12_isHouse : MethodName := ⟨RX12, "isHouse", "(I)Z"⟩
abbrev cX12_isTalking : ByteArray := prog_14_method_4_code
def yX12_isTalking : MethodName := ⟨RX12, "isTalking", "()Z"⟩
abbrev cX12_own : ByteArray := prog_14_method_5_code
def yX12_own : MethodName := ⟨RX12, "own", "(II)I"⟩
abbrev cX12_coins : ByteArray := prog_14_method_6_code
def yX12_coins : MethodName := ⟨RX12, "coins", "(II)I"⟩
abbrev cX12_type : ByteArray := prog_14_method_7_code
def yX12_type : MethodName := ⟨RX12, "type", "(JI)I"⟩
abbrev cX12_next : ByteArray := prog_14_method_8_code
def yX12_next : MethodName := ⟨RX12, "next", "()I"⟩
abbrev cX12_readLetters : ByteArray := prog_14_method_9_code
def yX12_readLetters : MethodName := ⟨RX12, "readLetters", "()I"⟩
abbrev cX12_readNumber : ByteArray := prog_14_method_10_code
def yX12_readNumber : MethodName := ⟨RX12, "readNumber", "()I"⟩
abbrev cX12_readClause : ByteArray := prog_14_method_11_code
def yX12_readClause : MethodName := ⟨RX12, "readClause", "(I)Z"⟩
abbrev cX12_readAll : ByteArray := prog_14_method_12_code
def yX12_readAll : MethodName := ⟨RX12, "readAll", "()I"⟩
abbrev cX12_keepClause : ByteArray := prog_14_method_13_code
def yX12_keepClause : MethodName := ⟨RX12, "keepClause", "(IIIIZ)V"⟩
abbrev cX12_wish : ByteArray := prog_14_method_14_code
def yX12_wish : MethodName := ⟨RX12, "wish", "(I)I"⟩
abbrev cX12_worthOf : ByteArray := prog_14_method_15_code
def yX12_worthOf : MethodName := ⟨RX12, "worthOf", "(II)I"⟩
abbrev cX12_isBarred : ByteArray := prog_14_method_16_code
def yX12_isBarred : MethodName := ⟨RX12, "isBarred", "(II)Z"⟩
abbrev cX12_isSet : ByteArray := prog_14_method_17_code
def yX12_isSet : MethodName := ⟨RX12, "isSet", "(I)Z"⟩
abbrev cX12_worth : ByteArray := prog_14_method_18_code
def yX12_worth : MethodName := ⟨RX12, "worth", "(II)I"⟩
abbrev cX12_barred : ByteArray := prog_14_method_19_code
def yX12_barred : MethodName := ⟨RX12, "barred", "(II)I"⟩
abbrev cX12_thingsOf : ByteArray := prog_14_method_20_code
def yX12_thingsOf : MethodName := ⟨RX12, "thingsOf", "(I)I"⟩
abbrev cX12_told : ByteArray := prog_14_method_21_code
def yX12_told : MethodName := ⟨RX12, "told", "(II)I"⟩
abbrev cX12_set : ByteArray := prog_14_method_22_code
def yX12_set : MethodName := ⟨RX12, "set", "(III)I"⟩
abbrev cX12_isExchange : ByteArray := prog_14_method_23_code
def yX12_isExchange : MethodName := ⟨RX12, "isExchange", "(IIII)Z"⟩
abbrev cX12_moreBy : ByteArray := prog_14_method_24_code
def yX12_moreBy : MethodName := ⟨RX12, "moreBy", "(II)I"⟩
abbrev cX12_gain : ByteArray := prog_14_method_25_code
def yX12_gain : MethodName := ⟨RX12, "gain", "(IIIII)I"⟩
abbrev cX12_isFree : ByteArray := prog_14_method_26_code
def yX12_isFree : MethodName := ⟨RX12, "isFree", "(II)Z"⟩
abbrev cX12_isGood : ByteArray := prog_14_method_27_code
def yX12_isGood : MethodName := ⟨RX12, "isGood", "(IIII)Z"⟩
abbrev cX12_good : ByteArray := prog_14_method_28_code
def yX12_good : MethodName := ⟨RX12, "good", "(IIII)I"⟩
abbrev cX12_best : ByteArray := prog_14_method_29_code
def yX12_best : MethodName := ⟨RX12, "best", "(III)I"⟩
abbrev cX12_talk : ByteArray := prog_14_method_30_code
def yX12_talk : MethodName := ⟨RX12, "talk", "(III)I"⟩
abbrev cX12_whose : ByteArray := prog_14_method_31_code
def yX12_whose : MethodName := ⟨RX12, "whose", "(I)I"⟩
abbrev cX12_talks : ByteArray := prog_14_method_32_code
def yX12_talks : MethodName := ⟨RX12, "talks", "(I)I"⟩
abbrev cX12_say : ByteArray := prog_14_method_33_code
def yX12_say : MethodName := ⟨RX12, "say", "(III)V"⟩
abbrev cX12_ask : ByteArray := prog_14_method_34_code
def yX12_ask : MethodName := ⟨RX12, "ask", "(I)I"⟩
abbrev cX12_isOffer : ByteArray := prog_14_method_35_code
def yX12_isOffer : MethodName := ⟨RX12, "isOffer", "(I)Z"⟩
abbrev cX12_sayOffer : ByteArray := prog_14_method_36_code
def yX12_sayOffer : MethodName := ⟨RX12, "sayOffer", "(II)I"⟩
abbrev cX12_offer : ByteArray := prog_14_method_37_code
def yX12_offer : MethodName := ⟨RX12, "offer", "(II)I"⟩
abbrev cX12_yesGain : ByteArray := prog_14_method_38_code
def yX12_yesGain : MethodName := ⟨RX12, "yesGain", "()I"⟩
abbrev cX12_agree : ByteArray := prog_14_method_39_code
def yX12_agree : MethodName := ⟨RX12, "agree", "()V"⟩
abbrev cX12_yes : ByteArray := prog_14_method_40_code
def yX12_yes : MethodName := ⟨RX12, "yes", "()I"⟩
abbrev cX12_walk : ByteArray := prog_14_method_41_code
def yX12_walk : MethodName := ⟨RX12, "walk", "()I"⟩
abbrev cX12_levelOf : ByteArray := prog_14_method_42_code
def yX12_levelOf : MethodName := ⟨RX12, "levelOf", "(II)I"⟩
abbrev cX12_addChoice : ByteArray := prog_14_method_43_code
def yX12_addChoice : MethodName := ⟨RX12, "addChoice", "(II)V"⟩
abbrev cX12_findChoices : ByteArray := prog_14_method_44_code
def yX12_findChoices : MethodName := ⟨RX12, "findChoices", "(I)V"⟩
abbrev cX12_machineWord : ByteArray := prog_14_method_45_code
def yX12_machineWord : MethodName := ⟨RX12, "machineWord", "()I"⟩
abbrev cX12_says : ByteArray := prog_14_method_46_code
def yX12_says : MethodName := ⟨RX12, "says", "()I"⟩
abbrev cX12_runs : ByteArray := prog_14_method_47_code
def yX12_runs : MethodName := ⟨RX12, "runs", "()I"⟩
abbrev cX12_word : ByteArray := prog_14_method_48_code
def yX12_word : MethodName := ⟨RX12, "word", "(II)I"⟩
abbrev cX12_offered : ByteArray := prog_14_method_49_code
def yX12_offered : MethodName := ⟨RX12, "offered", "(II)I"⟩
abbrev cX12_aloneWorth : ByteArray := prog_14_method_50_code
def yX12_aloneWorth : MethodName := ⟨RX12, "aloneWorth", "(I)I"⟩
abbrev cX12_wouldSay : ByteArray := prog_14_method_51_code
def yX12_wouldSay : MethodName := ⟨RX12, "wouldSay", "(II)Z"⟩
abbrev cX12_saidBy : ByteArray := prog_14_method_52_code
def yX12_saidBy : MethodName := ⟨RX12, "saidBy", "(I)I"⟩
abbrev cX12_learnt : ByteArray := prog_14_method_53_code
def yX12_learnt : MethodName := ⟨RX12, "learnt", "(II)I"⟩
abbrev cX12_findValue : ByteArray := prog_14_method_54_code
def yX12_findValue : MethodName := ⟨RX12, "findValue", "(I)V"⟩
abbrev cX12_value : ByteArray := prog_14_method_55_code
def yX12_value : MethodName := ⟨RX12, "value", "(I)I"⟩
abbrev cX12_betterBy : ByteArray := prog_14_method_56_code
def yX12_betterBy : MethodName := ⟨RX12, "betterBy", "(I)I"⟩
abbrev cX12_unrest : ByteArray := prog_14_method_57_code
def yX12_unrest : MethodName := ⟨RX12, "unrest", "()I"⟩
abbrev cX12_leaves : ByteArray := prog_14_method_58_code
def yX12_leaves : MethodName := ⟨RX12, "leaves", "()I"⟩
abbrev cX12_share : ByteArray := prog_14_method_59_code
def yX12_share : MethodName := ⟨RX12, "share", "(I)J"⟩
abbrev cX12_envy : ByteArray := prog_14_method_60_code
def yX12_envy : MethodName := ⟨RX12, "envy", "()I"⟩
abbrev cX12_isHour : ByteArray := prog_14_method_61_code
def yX12_isHour : MethodName := ⟨RX12, "isHour", "(I)Z"⟩
abbrev cX12_addTerm : ByteArray := prog_14_method_62_code
def yX12_addTerm : MethodName := ⟨RX12, "addTerm", "(IIIIII)I"⟩
abbrev cX12_isDebt : ByteArray := prog_14_method_63_code
def yX12_isDebt : MethodName := ⟨RX12, "isDebt", "(III)Z"⟩
abbrev cX12_due : ByteArray := prog_14_method_64_code
def yX12_due : MethodName := ⟨RX12, "due", "(IIII)I"⟩
abbrev cX12_when : ByteArray := prog_14_method_65_code
def yX12_when : MethodName := ⟨RX12, "when", "(IIIII)I"⟩
abbrev cX12_mend : ByteArray := prog_14_method_66_code
def yX12_mend : MethodName := ⟨RX12, "mend", "(IIIII)I"⟩
abbrev cX12_bar : ByteArray := prog_14_method_67_code
def yX12_bar : MethodName := ⟨RX12, "bar", "(II)I"⟩
abbrev cX12_happen : ByteArray := prog_14_method_68_code
def yX12_happen : MethodName := ⟨RX12, "happen", "(III)I"⟩
abbrev cX12_isTerm : ByteArray := prog_14_method_69_code
def yX12_isTerm : MethodName := ⟨RX12, "isTerm", "(I)Z"⟩
abbrev cX12_pay : ByteArray := prog_14_method_70_code
def yX12_pay : MethodName := ⟨RX12, "pay", "(II)I"⟩
abbrev cX12_isKnown : ByteArray := prog_14_method_71_code
def yX12_isKnown : MethodName := ⟨RX12, "isKnown", "(II)Z"⟩
abbrev cX12_findStates : ByteArray := prog_14_method_72_code
def yX12_findStates : MethodName := ⟨RX12, "findStates", "(I)V"⟩
abbrev cX12_state : ByteArray := prog_14_method_73_code
def yX12_state : MethodName := ⟨RX12, "state", "(II)I"⟩
abbrev cX12_end : ByteArray := prog_14_method_74_code
def yX12_end : MethodName := ⟨RX12, "end", "(II)I"⟩
abbrev cX12_owes : ByteArray := prog_14_method_75_code
def yX12_owes : MethodName := ⟨RX12, "owes", "(II)I"⟩
abbrev cX12_sumOf : ByteArray := prog_14_method_76_code
def yX12_sumOf : MethodName := ⟨RX12, "sumOf", "(II)I"⟩
abbrev cX12_sumFrom : ByteArray := prog_14_method_77_code
def yX12_sumFrom : MethodName := ⟨RX12, "sumFrom", "(II)I"⟩
abbrev cX12_row : ByteArray := prog_14_method_78_code
def yX12_row : MethodName := ⟨RX12, "row", "(II)I"⟩
abbrev cX12_root : ByteArray := prog_14_method_79_code
def yX12_root : MethodName := ⟨RX12, "root", "()I"⟩
abbrev cX12_proof : ByteArray := prog_14_method_80_code
def yX12_proof : MethodName := ⟨RX12, "proof", "(II)I"⟩
abbrev cX12_sumBeside : ByteArray := prog_14_method_81_code
def yX12_sumBeside : MethodName := ⟨RX12, "sumBeside", "(III)I"⟩
abbrev cX12_isSum : ByteArray := prog_14_method_82_code
def yX12_isSum : MethodName := ⟨RX12, "isSum", "(I)Z"⟩
abbrev cX12_proves : ByteArray := prog_14_method_83_code
def yX12_proves : MethodName := ⟨RX12, "proves", "(IIIII)I"⟩
abbrev cX12_isSheet : ByteArray := prog_14_method_84_code
def yX12_isSheet : MethodName := ⟨RX12, "isSheet", "(II)Z"⟩
abbrev cX12_sheet : ByteArray := prog_14_method_85_code
def yX12_sheet : MethodName := ⟨RX12, "sheet", "(III)I"⟩
abbrev cX12_drop : ByteArray := prog_14_method_86_code
def yX12_drop : MethodName := ⟨RX12, "drop", "(I)I"⟩
abbrev cX12_against : ByteArray := prog_14_method_87_code
def yX12_against : MethodName := ⟨RX12, "against", "(IIII)I"⟩
abbrev cX12_item : ByteArray := prog_14_method_88_code
def yX12_item : MethodName := ⟨RX12, "item", "(IIII)I"⟩
abbrev cX12_wishes : ByteArray := prog_14_method_89_code
def yX12_wishes : MethodName := ⟨RX12, "wishes", "(IIII)I"⟩
def RJ6 : String := "java/lang/Integer"
def TJ6 : u_T := fun k => match k with
  | _ => ("", "", "", false)
def tyJ6 : Nat → FieldType := fun k => match k with
  | _ => .int
abbrev wsJ60 : List Cond := u_ws RJ6 TJ6 0
theorem nmJ6 : ∀ a, a < 0 → ∀ b, b < 0 → a ≠ b → (TJ6 a).2.1 ≠ (TJ6 b).2.1 := by decide +kernel
theorem tyJ6_ok : ∀ k, k < 0 → parseFieldDescriptor (TJ6 k).2.2.1 = some (tyJ6 k) := by decide +kernel
abbrev cJ6_numberOfTrailingZeros_0f7a4 : ByteArray := prog_15_method_48_code
def yJ6_numberOfTrailingZeros_0f7a4 : MethodName := ⟨RJ6, "numberOfTrailingZeros", "(I)I"⟩
abbrev cJ6_bitCount_0f7a4 : ByteArray := prog_15_method_49_code
def yJ6_bitCount_0f7a4 : MethodName := ⟨RJ6, "bitCount", "(I)I"⟩
def RJ9 : String := "java/lang/Math"
def TJ9 : u_T := fun k => match k with
  | _ => ("", "", "", false)
def tyJ9 : Nat → FieldType := fun k => match k with
  | _ => .int
abbrev wsJ90 : List Cond := u_ws RJ9 TJ9 0
theorem nmJ9 : ∀ a, a < 0 → ∀ b, b < 0 → a ≠ b → (TJ9 a).2.1 ≠ (TJ9 b).2.1 := by decide +kernel
theorem tyJ9_ok : ∀ k, k < 0 → parseFieldDescriptor (TJ9 k).2.2.1 = some (tyJ9 k) := by decide +kernel
abbrev cJ9_max_7cf53 : ByteArray := prog_16_method_65_code
def yJ9_max_7cf53 : MethodName := ⟨RJ9, "max", "(II)I"⟩
abbrev cJ9_min_7cf53 : ByteArray := prog_16_method_69_code
def yJ9_min_7cf53 : MethodName := ⟨RJ9, "min", "(II)I"⟩
def RL : String := "BargainHallLaw"
abbrev cL_law : ByteArray := code
def yL_law : MethodName := ⟨RL, "law", "([I)Z"⟩
abbrev vwCl : List vw_C := [(RX0, TX0, 2), (RX1, TX1, 6), (RX2, TX2, 5), (RX3, TX3, 5), (RX4, TX4, 6), (RX5, TX5, 1), (RX6, TX6, 3), (RX7, TX7, 9), (RX8, TX8, 3), (RX9, TX9, 7), (RX10, TX10, 3), (RX11, TX11, 13), (RX12, TX12, 54)]
theorem inX0 : ∀ w ∈ wsX00, w ∈ lw_tbl := by decide +kernel
theorem inX1 : ∀ w ∈ wsX10, w ∈ lw_tbl := by decide +kernel
theorem inX2 : ∀ w ∈ wsX20, w ∈ lw_tbl := by decide +kernel
theorem inX3 : ∀ w ∈ wsX30, w ∈ lw_tbl := by decide +kernel
theorem inX4 : ∀ w ∈ wsX40, w ∈ lw_tbl := by decide +kernel
theorem inX5 : ∀ w ∈ wsX50, w ∈ lw_tbl := by decide +kernel
theorem inX6 : ∀ w ∈ wsX60, w ∈ lw_tbl := by decide +kernel
theorem inX7 : ∀ w ∈ wsX70, w ∈ lw_tbl := by decide +kernel
theorem inX8 : ∀ w ∈ wsX80, w ∈ lw_tbl := by decide +kernel
theorem inX9 : ∀ w ∈ wsX90, w ∈ lw_tbl := by decide +kernel
theorem inX10 : ∀ w ∈ wsX100, w ∈ lw_tbl := by decide +kernel
theorem inX11 : ∀ w ∈ wsX110, w ∈ lw_tbl := by decide +kernel
theorem inX12 : ∀ w ∈ wsX120, w ∈ lw_tbl := by decide +kernel
