-- ===== PART A: goes FIRST, ahead of the names: the tables' words, and 'selects' of the private methods out of them =====
/-- a private method of a class that the tables say can be made, by its rows of tables_1 -/
def lw_okq (q : MethodName × Nat) : Prop := (q.1.cls ≠ "java/lang/invoke/MethodHandle" ∧ q.1.cls ≠ "java/lang/invoke/VarHandle") ∧ Cond.instantiable q.1.cls q.2 ∈ tables_1 ∧ Cond.privateMethod q.1 ∈ tables_1 ∧ Cond.instanceMethod q.1 ∈ tables_1
theorem lw_p0 : lw_okq (⟨"ThankedMoves$Tape", "scanWord", "()V"⟩, 7) := ⟨⟨by decide +kernel, by decide +kernel⟩, List.mem_of_getElem? (i := 184) (by decide +kernel), List.mem_of_getElem? (i := 351) (by decide +kernel), List.mem_of_getElem? (i := 352) (by decide +kernel)⟩
theorem lw_p1 : lw_okq (⟨"ThankedMoves$Tape", "isSpelt", "(II)Z"⟩, 7) := ⟨⟨by decide +kernel, by decide +kernel⟩, List.mem_of_getElem? (i := 184) (by decide +kernel), List.mem_of_getElem? (i := 404) (by decide +kernel), List.mem_of_getElem? (i := 405) (by decide +kernel)⟩
theorem lw_p2 : lw_okq (⟨"ThankedMoves$Tape", "add", "(III)V"⟩, 7) := ⟨⟨by decide +kernel, by decide +kernel⟩, List.mem_of_getElem? (i := 184) (by decide +kernel), List.mem_of_getElem? (i := 408) (by decide +kernel), List.mem_of_getElem? (i := 409) (by decide +kernel)⟩
theorem lw_p3 : lw_okq (⟨"ThankedMoves$Tape", "scanNumber", "()V"⟩, 7) := ⟨⟨by decide +kernel, by decide +kernel⟩, List.mem_of_getElem? (i := 184) (by decide +kernel), List.mem_of_getElem? (i := 415) (by decide +kernel), List.mem_of_getElem? (i := 416) (by decide +kernel)⟩
theorem lw_p4 : lw_okq (⟨"ThankedMoves$Tape", "scanSign", "()V"⟩, 7) := ⟨⟨by decide +kernel, by decide +kernel⟩, List.mem_of_getElem? (i := 184) (by decide +kernel), List.mem_of_getElem? (i := 422) (by decide +kernel), List.mem_of_getElem? (i := 423) (by decide +kernel)⟩
theorem lw_p5 : lw_okq (⟨"ThankedMoves$Reader", "readClause", "()V"⟩, 7) := ⟨⟨by decide +kernel, by decide +kernel⟩, List.mem_of_getElem? (i := 217) (by decide +kernel), List.mem_of_getElem? (i := 492) (by decide +kernel), List.mem_of_getElem? (i := 493) (by decide +kernel)⟩
theorem lw_p6 : lw_okq (⟨"ThankedMoves$Reader", "fail", "(I)V"⟩, 7) := ⟨⟨by decide +kernel, by decide +kernel⟩, List.mem_of_getElem? (i := 217) (by decide +kernel), List.mem_of_getElem? (i := 496) (by decide +kernel), List.mem_of_getElem? (i := 497) (by decide +kernel)⟩
theorem lw_p7 : lw_okq (⟨"ThankedMoves$Reader", "readLaw", "(I)V"⟩, 7) := ⟨⟨by decide +kernel, by decide +kernel⟩, List.mem_of_getElem? (i := 217) (by decide +kernel), List.mem_of_getElem? (i := 500) (by decide +kernel), List.mem_of_getElem? (i := 501) (by decide +kernel)⟩
theorem lw_p8 : lw_okq (⟨"ThankedMoves$Reader", "advance", "()V"⟩, 7) := ⟨⟨by decide +kernel, by decide +kernel⟩, List.mem_of_getElem? (i := 217) (by decide +kernel), List.mem_of_getElem? (i := 504) (by decide +kernel), List.mem_of_getElem? (i := 505) (by decide +kernel)⟩
theorem lw_p9 : lw_okq (⟨"ThankedMoves$Reader", "readSum", "(I)V"⟩, 7) := ⟨⟨by decide +kernel, by decide +kernel⟩, List.mem_of_getElem? (i := 217) (by decide +kernel), List.mem_of_getElem? (i := 508) (by decide +kernel), List.mem_of_getElem? (i := 509) (by decide +kernel)⟩
theorem lw_p10 : lw_okq (⟨"ThankedMoves$Reader", "readProduct", "(I)V"⟩, 7) := ⟨⟨by decide +kernel, by decide +kernel⟩, List.mem_of_getElem? (i := 217) (by decide +kernel), List.mem_of_getElem? (i := 512) (by decide +kernel), List.mem_of_getElem? (i := 513) (by decide +kernel)⟩
theorem lw_p11 : lw_okq (⟨"ThankedMoves$Reader", "readOne", "(I)V"⟩, 7) := ⟨⟨by decide +kernel, by decide +kernel⟩, List.mem_of_getElem? (i := 217) (by decide +kernel), List.mem_of_getElem? (i := 516) (by decide +kernel), List.mem_of_getElem? (i := 517) (by decide +kernel)⟩
theorem lw_p12 : lw_okq (⟨"ThankedMoves$Reader", "numberIn", "(II)I"⟩, 7) := ⟨⟨by decide +kernel, by decide +kernel⟩, List.mem_of_getElem? (i := 217) (by decide +kernel), List.mem_of_getElem? (i := 520) (by decide +kernel), List.mem_of_getElem? (i := 521) (by decide +kernel)⟩
theorem lw_p13 : lw_okq (⟨"ThankedMoves$Reader", "opens", "(I)Z"⟩, 7) := ⟨⟨by decide +kernel, by decide +kernel⟩, List.mem_of_getElem? (i := 217) (by decide +kernel), List.mem_of_getElem? (i := 528) (by decide +kernel), List.mem_of_getElem? (i := 529) (by decide +kernel)⟩
theorem lw_p14 : lw_okq (⟨"ThankedMoves$Reader", "expect", "(I)V"⟩, 7) := ⟨⟨by decide +kernel, by decide +kernel⟩, List.mem_of_getElem? (i := 217) (by decide +kernel), List.mem_of_getElem? (i := 532) (by decide +kernel), List.mem_of_getElem? (i := 533) (by decide +kernel)⟩
theorem lw_p15 : lw_okq (⟨"ThankedMoves$Reader", "readOperand", "(II)V"⟩, 7) := ⟨⟨by decide +kernel, by decide +kernel⟩, List.mem_of_getElem? (i := 217) (by decide +kernel), List.mem_of_getElem? (i := 536) (by decide +kernel), List.mem_of_getElem? (i := 537) (by decide +kernel)⟩
def lw_privs_1 : List (MethodName × Nat) := [(⟨"ThankedMoves$Tape", "scanWord", "()V"⟩, 7), (⟨"ThankedMoves$Tape", "isSpelt", "(II)Z"⟩, 7), (⟨"ThankedMoves$Tape", "add", "(III)V"⟩, 7), (⟨"ThankedMoves$Tape", "scanNumber", "()V"⟩, 7), (⟨"ThankedMoves$Tape", "scanSign", "()V"⟩, 7), (⟨"ThankedMoves$Reader", "readClause", "()V"⟩, 7), (⟨"ThankedMoves$Reader", "fail", "(I)V"⟩, 7), (⟨"ThankedMoves$Reader", "readLaw", "(I)V"⟩, 7), (⟨"ThankedMoves$Reader", "advance", "()V"⟩, 7), (⟨"ThankedMoves$Reader", "readSum", "(I)V"⟩, 7), (⟨"ThankedMoves$Reader", "readProduct", "(I)V"⟩, 7), (⟨"ThankedMoves$Reader", "readOne", "(I)V"⟩, 7), (⟨"ThankedMoves$Reader", "numberIn", "(II)I"⟩, 7), (⟨"ThankedMoves$Reader", "opens", "(I)Z"⟩, 7), (⟨"ThankedMoves$Reader", "expect", "(I)V"⟩, 7), (⟨"ThankedMoves$Reader", "readOperand", "(II)V"⟩, 7)]
theorem lw_r1 : ∀ q ∈ lw_privs_1, lw_okq q := List.forall_mem_cons.mpr ⟨lw_p0, List.forall_mem_cons.mpr ⟨lw_p1, List.forall_mem_cons.mpr ⟨lw_p2, List.forall_mem_cons.mpr ⟨lw_p3, List.forall_mem_cons.mpr ⟨lw_p4, List.forall_mem_cons.mpr ⟨lw_p5, List.forall_mem_cons.mpr ⟨lw_p6, List.forall_mem_cons.mpr ⟨lw_p7, List.forall_mem_cons.mpr ⟨lw_p8, List.forall_mem_cons.mpr ⟨lw_p9, List.forall_mem_cons.mpr ⟨lw_p10, List.forall_mem_cons.mpr ⟨lw_p11, List.forall_mem_cons.mpr ⟨lw_p12, List.forall_mem_cons.mpr ⟨lw_p13, List.forall_mem_cons.mpr ⟨lw_p14, List.forall_mem_cons.mpr ⟨lw_p15, fun _ h => absurd h List.not_mem_nil⟩⟩⟩⟩⟩⟩⟩⟩⟩⟩⟩⟩⟩⟩⟩⟩
theorem lw_p16 : lw_okq (⟨"ThankedMoves$Reader", "readOver", "(I)V"⟩, 7) := ⟨⟨by decide +kernel, by decide +kernel⟩, List.mem_of_getElem? (i := 217) (by decide +kernel), List.mem_of_getElem? (i := 540) (by decide +kernel), List.mem_of_getElem? (i := 541) (by decide +kernel)⟩
theorem lw_p17 : lw_okq (⟨"ThankedMoves$Reader", "readIf", "(I)V"⟩, 7) := ⟨⟨by decide +kernel, by decide +kernel⟩, List.mem_of_getElem? (i := 217) (by decide +kernel), List.mem_of_getElem? (i := 544) (by decide +kernel), List.mem_of_getElem? (i := 545) (by decide +kernel)⟩
theorem lw_p18 : lw_okq (⟨"ThankedMoves$Reader", "readEither", "(I)V"⟩, 7) := ⟨⟨by decide +kernel, by decide +kernel⟩, List.mem_of_getElem? (i := 217) (by decide +kernel), List.mem_of_getElem? (i := 548) (by decide +kernel), List.mem_of_getElem? (i := 549) (by decide +kernel)⟩
theorem lw_p19 : lw_okq (⟨"ThankedMoves$Reader", "readBoth", "(I)V"⟩, 7) := ⟨⟨by decide +kernel, by decide +kernel⟩, List.mem_of_getElem? (i := 217) (by decide +kernel), List.mem_of_getElem? (i := 552) (by decide +kernel), List.mem_of_getElem? (i := 553) (by decide +kernel)⟩
theorem lw_p20 : lw_okq (⟨"ThankedMoves$Reader", "readAsk", "(I)V"⟩, 7) := ⟨⟨by decide +kernel, by decide +kernel⟩, List.mem_of_getElem? (i := 217) (by decide +kernel), List.mem_of_getElem? (i := 556) (by decide +kernel), List.mem_of_getElem? (i := 557) (by decide +kernel)⟩
theorem lw_p21 : lw_okq (⟨"ThankedMoves$Reader", "readName", "()V"⟩, 7) := ⟨⟨by decide +kernel, by decide +kernel⟩, List.mem_of_getElem? (i := 217) (by decide +kernel), List.mem_of_getElem? (i := 564) (by decide +kernel), List.mem_of_getElem? (i := 565) (by decide +kernel)⟩
theorem lw_p22 : lw_okq (⟨"ThankedMoves$Reader", "readDeed", "(I)V"⟩, 7) := ⟨⟨by decide +kernel, by decide +kernel⟩, List.mem_of_getElem? (i := 217) (by decide +kernel), List.mem_of_getElem? (i := 572) (by decide +kernel), List.mem_of_getElem? (i := 573) (by decide +kernel)⟩
theorem lw_p23 : lw_okq (⟨"ThankedMoves", "isText", "(I)Z"⟩, 10) := ⟨⟨by decide +kernel, by decide +kernel⟩, List.mem_of_getElem? (i := 18) (by decide +kernel), List.mem_of_getElem? (i := 585) (by decide +kernel), List.mem_of_getElem? (i := 586) (by decide +kernel)⟩
theorem lw_p24 : lw_okq (⟨"ThankedMoves", "rule", "()LThankedMoves$Text;"⟩, 10) := ⟨⟨by decide +kernel, by decide +kernel⟩, List.mem_of_getElem? (i := 18) (by decide +kernel), List.mem_of_getElem? (i := 612) (by decide +kernel), List.mem_of_getElem? (i := 613) (by decide +kernel)⟩
theorem lw_p25 : lw_okq (⟨"ThankedMoves$Street", "giveOne", "(I)V"⟩, 12) := ⟨⟨by decide +kernel, by decide +kernel⟩, List.mem_of_getElem? (i := 32) (by decide +kernel), List.mem_of_getElem? (i := 658) (by decide +kernel), List.mem_of_getElem? (i := 659) (by decide +kernel)⟩
theorem lw_p26 : lw_okq (⟨"ThankedMoves$Street", "writeDown", "(II)V"⟩, 12) := ⟨⟨by decide +kernel, by decide +kernel⟩, List.mem_of_getElem? (i := 32) (by decide +kernel), List.mem_of_getElem? (i := 663) (by decide +kernel), List.mem_of_getElem? (i := 664) (by decide +kernel)⟩
theorem lw_p27 : lw_okq (⟨"ThankedMoves", "perform", "(III)Z"⟩, 10) := ⟨⟨by decide +kernel, by decide +kernel⟩, List.mem_of_getElem? (i := 18) (by decide +kernel), List.mem_of_getElem? (i := 692) (by decide +kernel), List.mem_of_getElem? (i := 693) (by decide +kernel)⟩
theorem lw_p28 : lw_okq (⟨"ThankedMoves$Street", "drawn", "()I"⟩, 12) := ⟨⟨by decide +kernel, by decide +kernel⟩, List.mem_of_getElem? (i := 32) (by decide +kernel), List.mem_of_getElem? (i := 705) (by decide +kernel), List.mem_of_getElem? (i := 706) (by decide +kernel)⟩
theorem lw_p29 : lw_okq (⟨"ThankedMoves", "isPerson", "(I)Z"⟩, 10) := ⟨⟨by decide +kernel, by decide +kernel⟩, List.mem_of_getElem? (i := 18) (by decide +kernel), List.mem_of_getElem? (i := 746) (by decide +kernel), List.mem_of_getElem? (i := 747) (by decide +kernel)⟩
theorem lw_p30 : lw_okq (⟨"ThankedMoves", "atRest", "()LThankedMoves$Street;"⟩, 10) := ⟨⟨by decide +kernel, by decide +kernel⟩, List.mem_of_getElem? (i := 18) (by decide +kernel), List.mem_of_getElem? (i := 783) (by decide +kernel), List.mem_of_getElem? (i := 784) (by decide +kernel)⟩
theorem lw_p31 : lw_okq (⟨"ThankedMoves", "waveOver", "(LThankedMoves$Street;I)LThankedMoves$Street;"⟩, 10) := ⟨⟨by decide +kernel, by decide +kernel⟩, List.mem_of_getElem? (i := 18) (by decide +kernel), List.mem_of_getElem? (i := 791) (by decide +kernel), List.mem_of_getElem? (i := 792) (by decide +kernel)⟩
def lw_privs_2 : List (MethodName × Nat) := [(⟨"ThankedMoves$Reader", "readOver", "(I)V"⟩, 7), (⟨"ThankedMoves$Reader", "readIf", "(I)V"⟩, 7), (⟨"ThankedMoves$Reader", "readEither", "(I)V"⟩, 7), (⟨"ThankedMoves$Reader", "readBoth", "(I)V"⟩, 7), (⟨"ThankedMoves$Reader", "readAsk", "(I)V"⟩, 7), (⟨"ThankedMoves$Reader", "readName", "()V"⟩, 7), (⟨"ThankedMoves$Reader", "readDeed", "(I)V"⟩, 7), (⟨"ThankedMoves", "isText", "(I)Z"⟩, 10), (⟨"ThankedMoves", "rule", "()LThankedMoves$Text;"⟩, 10), (⟨"ThankedMoves$Street", "giveOne", "(I)V"⟩, 12), (⟨"ThankedMoves$Street", "writeDown", "(II)V"⟩, 12), (⟨"ThankedMoves", "perform", "(III)Z"⟩, 10), (⟨"ThankedMoves$Street", "drawn", "()I"⟩, 12), (⟨"ThankedMoves", "isPerson", "(I)Z"⟩, 10), (⟨"ThankedMoves", "atRest", "()LThankedMoves$Street;"⟩, 10), (⟨"ThankedMoves", "waveOver", "(LThankedMoves$Street;I)LThankedMoves$Street;"⟩, 10)]
theorem lw_r2 : ∀ q ∈ lw_privs_2, lw_okq q := List.forall_mem_cons.mpr ⟨lw_p16, List.forall_mem_cons.mpr ⟨lw_p17, List.forall_mem_cons.mpr ⟨lw_p18, List.forall_mem_cons.mpr ⟨lw_p19, List.forall_mem_cons.mpr ⟨lw_p20, List.forall_mem_cons.mpr ⟨lw_p21, List.forall_mem_cons.mpr ⟨lw_p22, List.forall_mem_cons.mpr ⟨lw_p23, List.forall_mem_cons.mpr ⟨lw_p24, List.forall_mem_cons.mpr ⟨lw_p25, List.forall_mem_cons.mpr ⟨lw_p26, List.forall_mem_cons.mpr ⟨lw_p27, List.forall_mem_cons.mpr ⟨lw_p28, List.forall_mem_cons.mpr ⟨lw_p29, List.forall_mem_cons.mpr ⟨lw_p30, List.forall_mem_cons.mpr ⟨lw_p31, fun _ h => absurd h List.not_mem_nil⟩⟩⟩⟩⟩⟩⟩⟩⟩⟩⟩⟩⟩⟩⟩⟩
theorem lw_p32 : lw_okq (⟨"ThankedMoves", "doubleWave", "(II)LThankedMoves$Street;"⟩, 10) := ⟨⟨by decide +kernel, by decide +kernel⟩, List.mem_of_getElem? (i := 18) (by decide +kernel), List.mem_of_getElem? (i := 811) (by decide +kernel), List.mem_of_getElem? (i := 812) (by decide +kernel)⟩
theorem lw_p33 : lw_okq (⟨"ThankedMoves", "sendsOff", "(III)Z"⟩, 10) := ⟨⟨by decide +kernel, by decide +kernel⟩, List.mem_of_getElem? (i := 18) (by decide +kernel), List.mem_of_getElem? (i := 844) (by decide +kernel), List.mem_of_getElem? (i := 845) (by decide +kernel)⟩
theorem lw_p34 : lw_okq (⟨"ThankedMoves", "findMeeting", "(IIII)Z"⟩, 10) := ⟨⟨by decide +kernel, by decide +kernel⟩, List.mem_of_getElem? (i := 18) (by decide +kernel), List.mem_of_getElem? (i := 852) (by decide +kernel), List.mem_of_getElem? (i := 853) (by decide +kernel)⟩
theorem lw_p35 : lw_okq (⟨"ThankedMoves", "goOn", "(II)Z"⟩, 10) := ⟨⟨by decide +kernel, by decide +kernel⟩, List.mem_of_getElem? (i := 18) (by decide +kernel), List.mem_of_getElem? (i := 856) (by decide +kernel), List.mem_of_getElem? (i := 857) (by decide +kernel)⟩
theorem lw_p36 : lw_okq (⟨"ThankedMoves", "countDraws", "(III)I"⟩, 10) := ⟨⟨by decide +kernel, by decide +kernel⟩, List.mem_of_getElem? (i := 18) (by decide +kernel), List.mem_of_getElem? (i := 869) (by decide +kernel), List.mem_of_getElem? (i := 870) (by decide +kernel)⟩
theorem lw_p37 : lw_okq (⟨"ThankedMoves$Cart", "drive", "([IIII)I"⟩, 5) := ⟨⟨by decide +kernel, by decide +kernel⟩, List.mem_of_getElem? (i := 248) (by decide +kernel), List.mem_of_getElem? (i := 900) (by decide +kernel), List.mem_of_getElem? (i := 901) (by decide +kernel)⟩
theorem lw_p38 : lw_okq (⟨"ThankedMoves$Cart", "visit", "([II)V"⟩, 5) := ⟨⟨by decide +kernel, by decide +kernel⟩, List.mem_of_getElem? (i := 248) (by decide +kernel), List.mem_of_getElem? (i := 904) (by decide +kernel), List.mem_of_getElem? (i := 905) (by decide +kernel)⟩
theorem lw_p39 : lw_okq (⟨"ThankedMoves$Cart", "isBetter", "(I)Z"⟩, 5) := ⟨⟨by decide +kernel, by decide +kernel⟩, List.mem_of_getElem? (i := 248) (by decide +kernel), List.mem_of_getElem? (i := 912) (by decide +kernel), List.mem_of_getElem? (i := 913) (by decide +kernel)⟩
theorem lw_p40 : lw_okq (⟨"ThankedMoves$Cart", "keep", "(I)V"⟩, 5) := ⟨⟨by decide +kernel, by decide +kernel⟩, List.mem_of_getElem? (i := 248) (by decide +kernel), List.mem_of_getElem? (i := 916) (by decide +kernel), List.mem_of_getElem? (i := 917) (by decide +kernel)⟩
theorem lw_p41 : lw_okq (⟨"ThankedMoves", "allSaidHolds", "(LThankedMoves$Text;)Z"⟩, 10) := ⟨⟨by decide +kernel, by decide +kernel⟩, List.mem_of_getElem? (i := 18) (by decide +kernel), List.mem_of_getElem? (i := 963) (by decide +kernel), List.mem_of_getElem? (i := 964) (by decide +kernel)⟩
theorem lw_p42 : lw_okq (⟨"ThankedMovesModel", "four", "(I)V"⟩, 36) := ⟨⟨by decide +kernel, by decide +kernel⟩, List.mem_of_getElem? (i := 1011) (by decide +kernel), List.mem_of_getElem? (i := 1152) (by decide +kernel), List.mem_of_getElem? (i := 1153) (by decide +kernel)⟩
theorem lw_p43 : lw_okq (⟨"ThankedMovesModel", "readText", "()I"⟩, 36) := ⟨⟨by decide +kernel, by decide +kernel⟩, List.mem_of_getElem? (i := 1011) (by decide +kernel), List.mem_of_getElem? (i := 1164) (by decide +kernel), List.mem_of_getElem? (i := 1165) (by decide +kernel)⟩
theorem lw_p44 : lw_okq (⟨"ThankedMovesModel", "nextToken", "()V"⟩, 36) := ⟨⟨by decide +kernel, by decide +kernel⟩, List.mem_of_getElem? (i := 1011) (by decide +kernel), List.mem_of_getElem? (i := 1168) (by decide +kernel), List.mem_of_getElem? (i := 1169) (by decide +kernel)⟩
theorem lw_p45 : lw_okq (⟨"ThankedMovesModel", "byteAt", "(I)I"⟩, 36) := ⟨⟨by decide +kernel, by decide +kernel⟩, List.mem_of_getElem? (i := 1011) (by decide +kernel), List.mem_of_getElem? (i := 1172) (by decide +kernel), List.mem_of_getElem? (i := 1173) (by decide +kernel)⟩
theorem lw_p46 : lw_okq (⟨"ThankedMovesModel", "clause", "()I"⟩, 36) := ⟨⟨by decide +kernel, by decide +kernel⟩, List.mem_of_getElem? (i := 1011) (by decide +kernel), List.mem_of_getElem? (i := 1187) (by decide +kernel), List.mem_of_getElem? (i := 1188) (by decide +kernel)⟩
theorem lw_p47 : lw_okq (⟨"ThankedMovesModel", "sortOf", "()I"⟩, 36) := ⟨⟨by decide +kernel, by decide +kernel⟩, List.mem_of_getElem? (i := 1011) (by decide +kernel), List.mem_of_getElem? (i := 1191) (by decide +kernel), List.mem_of_getElem? (i := 1192) (by decide +kernel)⟩
def lw_privs_3 : List (MethodName × Nat) := [(⟨"ThankedMoves", "doubleWave", "(II)LThankedMoves$Street;"⟩, 10), (⟨"ThankedMoves", "sendsOff", "(III)Z"⟩, 10), (⟨"ThankedMoves", "findMeeting", "(IIII)Z"⟩, 10), (⟨"ThankedMoves", "goOn", "(II)Z"⟩, 10), (⟨"ThankedMoves", "countDraws", "(III)I"⟩, 10), (⟨"ThankedMoves$Cart", "drive", "([IIII)I"⟩, 5), (⟨"ThankedMoves$Cart", "visit", "([II)V"⟩, 5), (⟨"ThankedMoves$Cart", "isBetter", "(I)Z"⟩, 5), (⟨"ThankedMoves$Cart", "keep", "(I)V"⟩, 5), (⟨"ThankedMoves", "allSaidHolds", "(LThankedMoves$Text;)Z"⟩, 10), (⟨"ThankedMovesModel", "four", "(I)V"⟩, 36), (⟨"ThankedMovesModel", "readText", "()I"⟩, 36), (⟨"ThankedMovesModel", "nextToken", "()V"⟩, 36), (⟨"ThankedMovesModel", "byteAt", "(I)I"⟩, 36), (⟨"ThankedMovesModel", "clause", "()I"⟩, 36), (⟨"ThankedMovesModel", "sortOf", "()I"⟩, 36)]
theorem lw_r3 : ∀ q ∈ lw_privs_3, lw_okq q := List.forall_mem_cons.mpr ⟨lw_p32, List.forall_mem_cons.mpr ⟨lw_p33, List.forall_mem_cons.mpr ⟨lw_p34, List.forall_mem_cons.mpr ⟨lw_p35, List.forall_mem_cons.mpr ⟨lw_p36, List.forall_mem_cons.mpr ⟨lw_p37, List.forall_mem_cons.mpr ⟨lw_p38, List.forall_mem_cons.mpr ⟨lw_p39, List.forall_mem_cons.mpr ⟨lw_p40, List.forall_mem_cons.mpr ⟨lw_p41, List.forall_mem_cons.mpr ⟨lw_p42, List.forall_mem_cons.mpr ⟨lw_p43, List.forall_mem_cons.mpr ⟨lw_p44, List.forall_mem_cons.mpr ⟨lw_p45, List.forall_mem_cons.mpr ⟨lw_p46, List.forall_mem_cons.mpr ⟨lw_p47, fun _ h => absurd h List.not_mem_nil⟩⟩⟩⟩⟩⟩⟩⟩⟩⟩⟩⟩⟩⟩⟩⟩
theorem lw_p48 : lw_okq (⟨"ThankedMovesModel", "isWord", "(J)Z"⟩, 36) := ⟨⟨by decide +kernel, by decide +kernel⟩, List.mem_of_getElem? (i := 1011) (by decide +kernel), List.mem_of_getElem? (i := 1207) (by decide +kernel), List.mem_of_getElem? (i := 1208) (by decide +kernel)⟩
theorem lw_p49 : lw_okq (⟨"ThankedMovesModel", "body", "(II)I"⟩, 36) := ⟨⟨by decide +kernel, by decide +kernel⟩, List.mem_of_getElem? (i := 1011) (by decide +kernel), List.mem_of_getElem? (i := 1217) (by decide +kernel), List.mem_of_getElem? (i := 1218) (by decide +kernel)⟩
theorem lw_p50 : lw_okq (⟨"ThankedMovesModel", "figure", "(III)I"⟩, 36) := ⟨⟨by decide +kernel, by decide +kernel⟩, List.mem_of_getElem? (i := 1011) (by decide +kernel), List.mem_of_getElem? (i := 1221) (by decide +kernel), List.mem_of_getElem? (i := 1222) (by decide +kernel)⟩
theorem lw_p51 : lw_okq (⟨"ThankedMovesModel", "atHouse", "(III)I"⟩, 36) := ⟨⟨by decide +kernel, by decide +kernel⟩, List.mem_of_getElem? (i := 1011) (by decide +kernel), List.mem_of_getElem? (i := 1225) (by decide +kernel), List.mem_of_getElem? (i := 1226) (by decide +kernel)⟩
theorem lw_p52 : lw_okq (⟨"ThankedMovesModel", "lawClause", "(I)I"⟩, 36) := ⟨⟨by decide +kernel, by decide +kernel⟩, List.mem_of_getElem? (i := 1011) (by decide +kernel), List.mem_of_getElem? (i := 1229) (by decide +kernel), List.mem_of_getElem? (i := 1230) (by decide +kernel)⟩
theorem lw_p53 : lw_okq (⟨"ThankedMovesModel", "summed", "()I"⟩, 36) := ⟨⟨by decide +kernel, by decide +kernel⟩, List.mem_of_getElem? (i := 1011) (by decide +kernel), List.mem_of_getElem? (i := 1233) (by decide +kernel), List.mem_of_getElem? (i := 1234) (by decide +kernel)⟩
theorem lw_p54 : lw_okq (⟨"ThankedMovesModel", "behindOne", "()I"⟩, 36) := ⟨⟨by decide +kernel, by decide +kernel⟩, List.mem_of_getElem? (i := 1011) (by decide +kernel), List.mem_of_getElem? (i := 1237) (by decide +kernel), List.mem_of_getElem? (i := 1238) (by decide +kernel)⟩
theorem lw_p55 : lw_okq (⟨"ThankedMovesModel", "betweenOf", "()I"⟩, 36) := ⟨⟨by decide +kernel, by decide +kernel⟩, List.mem_of_getElem? (i := 1011) (by decide +kernel), List.mem_of_getElem? (i := 1241) (by decide +kernel), List.mem_of_getElem? (i := 1242) (by decide +kernel)⟩
theorem lw_p56 : lw_okq (⟨"ThankedMovesModel", "openNow", "()I"⟩, 36) := ⟨⟨by decide +kernel, by decide +kernel⟩, List.mem_of_getElem? (i := 1011) (by decide +kernel), List.mem_of_getElem? (i := 1245) (by decide +kernel), List.mem_of_getElem? (i := 1246) (by decide +kernel)⟩
theorem lw_p57 : lw_okq (⟨"ThankedMovesModel", "openAt", "()I"⟩, 36) := ⟨⟨by decide +kernel, by decide +kernel⟩, List.mem_of_getElem? (i := 1011) (by decide +kernel), List.mem_of_getElem? (i := 1249) (by decide +kernel), List.mem_of_getElem? (i := 1250) (by decide +kernel)⟩
theorem lw_p58 : lw_okq (⟨"ThankedMovesModel", "isCompared", "()Z"⟩, 36) := ⟨⟨by decide +kernel, by decide +kernel⟩, List.mem_of_getElem? (i := 1011) (by decide +kernel), List.mem_of_getElem? (i := 1253) (by decide +kernel), List.mem_of_getElem? (i := 1254) (by decide +kernel)⟩
theorem lw_p59 : lw_okq (⟨"ThankedMovesModel", "compareOf", "()I"⟩, 36) := ⟨⟨by decide +kernel, by decide +kernel⟩, List.mem_of_getElem? (i := 1011) (by decide +kernel), List.mem_of_getElem? (i := 1260) (by decide +kernel), List.mem_of_getElem? (i := 1261) (by decide +kernel)⟩
theorem lw_p60 : lw_okq (⟨"ThankedMovesModel", "settlePile", "(I)V"⟩, 36) := ⟨⟨by decide +kernel, by decide +kernel⟩, List.mem_of_getElem? (i := 1011) (by decide +kernel), List.mem_of_getElem? (i := 1264) (by decide +kernel), List.mem_of_getElem? (i := 1265) (by decide +kernel)⟩
theorem lw_p61 : lw_okq (⟨"ThankedMovesModel", "emit", "(II)V"⟩, 36) := ⟨⟨by decide +kernel, by decide +kernel⟩, List.mem_of_getElem? (i := 1011) (by decide +kernel), List.mem_of_getElem? (i := 1268) (by decide +kernel), List.mem_of_getElem? (i := 1269) (by decide +kernel)⟩
theorem lw_p62 : lw_okq (⟨"ThankedMovesModel", "partOf", "(I)I"⟩, 36) := ⟨⟨by decide +kernel, by decide +kernel⟩, List.mem_of_getElem? (i := 1011) (by decide +kernel), List.mem_of_getElem? (i := 1272) (by decide +kernel), List.mem_of_getElem? (i := 1273) (by decide +kernel)⟩
theorem lw_p63 : lw_okq (⟨"ThankedMovesModel", "endOne", "()I"⟩, 36) := ⟨⟨by decide +kernel, by decide +kernel⟩, List.mem_of_getElem? (i := 1011) (by decide +kernel), List.mem_of_getElem? (i := 1276) (by decide +kernel), List.mem_of_getElem? (i := 1277) (by decide +kernel)⟩
def lw_privs_4 : List (MethodName × Nat) := [(⟨"ThankedMovesModel", "isWord", "(J)Z"⟩, 36), (⟨"ThankedMovesModel", "body", "(II)I"⟩, 36), (⟨"ThankedMovesModel", "figure", "(III)I"⟩, 36), (⟨"ThankedMovesModel", "atHouse", "(III)I"⟩, 36), (⟨"ThankedMovesModel", "lawClause", "(I)I"⟩, 36), (⟨"ThankedMovesModel", "summed", "()I"⟩, 36), (⟨"ThankedMovesModel", "behindOne", "()I"⟩, 36), (⟨"ThankedMovesModel", "betweenOf", "()I"⟩, 36), (⟨"ThankedMovesModel", "openNow", "()I"⟩, 36), (⟨"ThankedMovesModel", "openAt", "()I"⟩, 36), (⟨"ThankedMovesModel", "isCompared", "()Z"⟩, 36), (⟨"ThankedMovesModel", "compareOf", "()I"⟩, 36), (⟨"ThankedMovesModel", "settlePile", "(I)V"⟩, 36), (⟨"ThankedMovesModel", "emit", "(II)V"⟩, 36), (⟨"ThankedMovesModel", "partOf", "(I)I"⟩, 36), (⟨"ThankedMovesModel", "endOne", "()I"⟩, 36)]
theorem lw_r4 : ∀ q ∈ lw_privs_4, lw_okq q := List.forall_mem_cons.mpr ⟨lw_p48, List.forall_mem_cons.mpr ⟨lw_p49, List.forall_mem_cons.mpr ⟨lw_p50, List.forall_mem_cons.mpr ⟨lw_p51, List.forall_mem_cons.mpr ⟨lw_p52, List.forall_mem_cons.mpr ⟨lw_p53, List.forall_mem_cons.mpr ⟨lw_p54, List.forall_mem_cons.mpr ⟨lw_p55, List.forall_mem_cons.mpr ⟨lw_p56, List.forall_mem_cons.mpr ⟨lw_p57, List.forall_mem_cons.mpr ⟨lw_p58, List.forall_mem_cons.mpr ⟨lw_p59, List.forall_mem_cons.mpr ⟨lw_p60, List.forall_mem_cons.mpr ⟨lw_p61, List.forall_mem_cons.mpr ⟨lw_p62, List.forall_mem_cons.mpr ⟨lw_p63, fun _ h => absurd h List.not_mem_nil⟩⟩⟩⟩⟩⟩⟩⟩⟩⟩⟩⟩⟩⟩⟩⟩
theorem lw_p64 : lw_okq (⟨"ThankedMovesModel", "beginOne", "()I"⟩, 36) := ⟨⟨by decide +kernel, by decide +kernel⟩, List.mem_of_getElem? (i := 1011) (by decide +kernel), List.mem_of_getElem? (i := 1280) (by decide +kernel), List.mem_of_getElem? (i := 1281) (by decide +kernel)⟩
theorem lw_p65 : lw_okq (⟨"ThankedMovesModel", "nameOf", "()I"⟩, 36) := ⟨⟨by decide +kernel, by decide +kernel⟩, List.mem_of_getElem? (i := 1011) (by decide +kernel), List.mem_of_getElem? (i := 1284) (by decide +kernel), List.mem_of_getElem? (i := 1285) (by decide +kernel)⟩
theorem lw_p66 : lw_okq (⟨"ThankedMovesModel", "isOf", "(I)Z"⟩, 36) := ⟨⟨by decide +kernel, by decide +kernel⟩, List.mem_of_getElem? (i := 1011) (by decide +kernel), List.mem_of_getElem? (i := 1288) (by decide +kernel), List.mem_of_getElem? (i := 1289) (by decide +kernel)⟩
theorem lw_p67 : lw_okq (⟨"ThankedMovesModel", "opened", "(I)I"⟩, 36) := ⟨⟨by decide +kernel, by decide +kernel⟩, List.mem_of_getElem? (i := 1011) (by decide +kernel), List.mem_of_getElem? (i := 1292) (by decide +kernel), List.mem_of_getElem? (i := 1293) (by decide +kernel)⟩
theorem lw_p68 : lw_okq (⟨"ThankedMovesModel", "isAskAhead", "()Z"⟩, 36) := ⟨⟨by decide +kernel, by decide +kernel⟩, List.mem_of_getElem? (i := 1011) (by decide +kernel), List.mem_of_getElem? (i := 1296) (by decide +kernel), List.mem_of_getElem? (i := 1297) (by decide +kernel)⟩
theorem lw_p69 : lw_okq (⟨"ThankedMovesModel", "canGood", "(II)Z"⟩, 36) := ⟨⟨by decide +kernel, by decide +kernel⟩, List.mem_of_getElem? (i := 1011) (by decide +kernel), List.mem_of_getElem? (i := 1316) (by decide +kernel), List.mem_of_getElem? (i := 1317) (by decide +kernel)⟩
theorem lw_p70 : lw_okq (⟨"ThankedMovesModel", "keep", "()V"⟩, 36) := ⟨⟨by decide +kernel, by decide +kernel⟩, List.mem_of_getElem? (i := 1011) (by decide +kernel), List.mem_of_getElem? (i := 1320) (by decide +kernel), List.mem_of_getElem? (i := 1321) (by decide +kernel)⟩
theorem lw_p71 : lw_okq (⟨"ThankedMovesModel", "canThank", "(I)Z"⟩, 36) := ⟨⟨by decide +kernel, by decide +kernel⟩, List.mem_of_getElem? (i := 1011) (by decide +kernel), List.mem_of_getElem? (i := 1328) (by decide +kernel), List.mem_of_getElem? (i := 1329) (by decide +kernel)⟩
theorem lw_p72 : lw_okq (⟨"ThankedMovesModel", "holdsOf", "(II)I"⟩, 36) := ⟨⟨by decide +kernel, by decide +kernel⟩, List.mem_of_getElem? (i := 1011) (by decide +kernel), List.mem_of_getElem? (i := 1332) (by decide +kernel), List.mem_of_getElem? (i := 1333) (by decide +kernel)⟩
theorem lw_p73 : lw_okq (⟨"ThankedMovesModel", "name", "(I)V"⟩, 36) := ⟨⟨by decide +kernel, by decide +kernel⟩, List.mem_of_getElem? (i := 1011) (by decide +kernel), List.mem_of_getElem? (i := 1336) (by decide +kernel), List.mem_of_getElem? (i := 1337) (by decide +kernel)⟩
theorem lw_p74 : lw_okq (⟨"ThankedMovesModel", "peopleIn", "(I)I"⟩, 36) := ⟨⟨by decide +kernel, by decide +kernel⟩, List.mem_of_getElem? (i := 1011) (by decide +kernel), List.mem_of_getElem? (i := 1340) (by decide +kernel), List.mem_of_getElem? (i := 1341) (by decide +kernel)⟩
theorem lw_p75 : lw_okq (⟨"ThankedMovesModel", "kindOf", "(I)I"⟩, 36) := ⟨⟨by decide +kernel, by decide +kernel⟩, List.mem_of_getElem? (i := 1011) (by decide +kernel), List.mem_of_getElem? (i := 1347) (by decide +kernel), List.mem_of_getElem? (i := 1348) (by decide +kernel)⟩
theorem lw_p76 : lw_okq (⟨"ThankedMovesModel", "says", "(III)I"⟩, 36) := ⟨⟨by decide +kernel, by decide +kernel⟩, List.mem_of_getElem? (i := 1011) (by decide +kernel), List.mem_of_getElem? (i := 1351) (by decide +kernel), List.mem_of_getElem? (i := 1352) (by decide +kernel)⟩
theorem lw_p77 : lw_okq (⟨"ThankedMovesModel", "summedUp", "(II)J"⟩, 36) := ⟨⟨by decide +kernel, by decide +kernel⟩, List.mem_of_getElem? (i := 1011) (by decide +kernel), List.mem_of_getElem? (i := 1355) (by decide +kernel), List.mem_of_getElem? (i := 1356) (by decide +kernel)⟩
theorem lw_p78 : lw_okq (⟨"ThankedMovesModel", "houseKind", "(J)J"⟩, 36) := ⟨⟨by decide +kernel, by decide +kernel⟩, List.mem_of_getElem? (i := 1011) (by decide +kernel), List.mem_of_getElem? (i := 1359) (by decide +kernel), List.mem_of_getElem? (i := 1360) (by decide +kernel)⟩
theorem lw_p79 : lw_okq (⟨"ThankedMovesModel", "thankNow", "(I)V"⟩, 36) := ⟨⟨by decide +kernel, by decide +kernel⟩, List.mem_of_getElem? (i := 1011) (by decide +kernel), List.mem_of_getElem? (i := 1381) (by decide +kernel), List.mem_of_getElem? (i := 1382) (by decide +kernel)⟩
def lw_privs_5 : List (MethodName × Nat) := [(⟨"ThankedMovesModel", "beginOne", "()I"⟩, 36), (⟨"ThankedMovesModel", "nameOf", "()I"⟩, 36), (⟨"ThankedMovesModel", "isOf", "(I)Z"⟩, 36), (⟨"ThankedMovesModel", "opened", "(I)I"⟩, 36), (⟨"ThankedMovesModel", "isAskAhead", "()Z"⟩, 36), (⟨"ThankedMovesModel", "canGood", "(II)Z"⟩, 36), (⟨"ThankedMovesModel", "keep", "()V"⟩, 36), (⟨"ThankedMovesModel", "canThank", "(I)Z"⟩, 36), (⟨"ThankedMovesModel", "holdsOf", "(II)I"⟩, 36), (⟨"ThankedMovesModel", "name", "(I)V"⟩, 36), (⟨"ThankedMovesModel", "peopleIn", "(I)I"⟩, 36), (⟨"ThankedMovesModel", "kindOf", "(I)I"⟩, 36), (⟨"ThankedMovesModel", "says", "(III)I"⟩, 36), (⟨"ThankedMovesModel", "summedUp", "(II)J"⟩, 36), (⟨"ThankedMovesModel", "houseKind", "(J)J"⟩, 36), (⟨"ThankedMovesModel", "thankNow", "(I)V"⟩, 36)]
theorem lw_r5 : ∀ q ∈ lw_privs_5, lw_okq q := List.forall_mem_cons.mpr ⟨lw_p64, List.forall_mem_cons.mpr ⟨lw_p65, List.forall_mem_cons.mpr ⟨lw_p66, List.forall_mem_cons.mpr ⟨lw_p67, List.forall_mem_cons.mpr ⟨lw_p68, List.forall_mem_cons.mpr ⟨lw_p69, List.forall_mem_cons.mpr ⟨lw_p70, List.forall_mem_cons.mpr ⟨lw_p71, List.forall_mem_cons.mpr ⟨lw_p72, List.forall_mem_cons.mpr ⟨lw_p73, List.forall_mem_cons.mpr ⟨lw_p74, List.forall_mem_cons.mpr ⟨lw_p75, List.forall_mem_cons.mpr ⟨lw_p76, List.forall_mem_cons.mpr ⟨lw_p77, List.forall_mem_cons.mpr ⟨lw_p78, List.forall_mem_cons.mpr ⟨lw_p79, fun _ h => absurd h List.not_mem_nil⟩⟩⟩⟩⟩⟩⟩⟩⟩⟩⟩⟩⟩⟩⟩⟩
theorem lw_p80 : lw_okq (⟨"ThankedMovesModel", "hand", "(I)V"⟩, 36) := ⟨⟨by decide +kernel, by decide +kernel⟩, List.mem_of_getElem? (i := 1011) (by decide +kernel), List.mem_of_getElem? (i := 1385) (by decide +kernel), List.mem_of_getElem? (i := 1386) (by decide +kernel)⟩
theorem lw_p81 : lw_okq (⟨"ThankedMovesModel", "write", "(II)V"⟩, 36) := ⟨⟨by decide +kernel, by decide +kernel⟩, List.mem_of_getElem? (i := 1011) (by decide +kernel), List.mem_of_getElem? (i := 1389) (by decide +kernel), List.mem_of_getElem? (i := 1390) (by decide +kernel)⟩
theorem lw_p82 : lw_okq (⟨"ThankedMovesModel", "readyHouse", "()I"⟩, 36) := ⟨⟨by decide +kernel, by decide +kernel⟩, List.mem_of_getElem? (i := 1011) (by decide +kernel), List.mem_of_getElem? (i := 1397) (by decide +kernel), List.mem_of_getElem? (i := 1398) (by decide +kernel)⟩
theorem lw_p83 : lw_okq (⟨"ThankedMovesModel", "settleNow", "()I"⟩, 36) := ⟨⟨by decide +kernel, by decide +kernel⟩, List.mem_of_getElem? (i := 1011) (by decide +kernel), List.mem_of_getElem? (i := 1401) (by decide +kernel), List.mem_of_getElem? (i := 1402) (by decide +kernel)⟩
theorem lw_p84 : lw_okq (⟨"ThankedMovesModel", "arePassed", "(I)Z"⟩, 36) := ⟨⟨by decide +kernel, by decide +kernel⟩, List.mem_of_getElem? (i := 1011) (by decide +kernel), List.mem_of_getElem? (i := 1409) (by decide +kernel), List.mem_of_getElem? (i := 1410) (by decide +kernel)⟩
theorem lw_p85 : lw_okq (⟨"ThankedMovesModel", "pass", "()V"⟩, 36) := ⟨⟨by decide +kernel, by decide +kernel⟩, List.mem_of_getElem? (i := 1011) (by decide +kernel), List.mem_of_getElem? (i := 1413) (by decide +kernel), List.mem_of_getElem? (i := 1414) (by decide +kernel)⟩
theorem lw_p86 : lw_okq (⟨"ThankedMovesModel", "drawnBy", "(I)I"⟩, 36) := ⟨⟨by decide +kernel, by decide +kernel⟩, List.mem_of_getElem? (i := 1011) (by decide +kernel), List.mem_of_getElem? (i := 1417) (by decide +kernel), List.mem_of_getElem? (i := 1418) (by decide +kernel)⟩
theorem lw_p87 : lw_okq (⟨"ThankedMovesModel", "anew", "()V"⟩, 36) := ⟨⟨by decide +kernel, by decide +kernel⟩, List.mem_of_getElem? (i := 1011) (by decide +kernel), List.mem_of_getElem? (i := 1421) (by decide +kernel), List.mem_of_getElem? (i := 1422) (by decide +kernel)⟩
theorem lw_p88 : lw_okq (⟨"ThankedMovesModel", "giftsOf", "(I)I"⟩, 36) := ⟨⟨by decide +kernel, by decide +kernel⟩, List.mem_of_getElem? (i := 1011) (by decide +kernel), List.mem_of_getElem? (i := 1428) (by decide +kernel), List.mem_of_getElem? (i := 1429) (by decide +kernel)⟩
theorem lw_p89 : lw_okq (⟨"ThankedMovesModel", "isPlayed", "(I)Z"⟩, 36) := ⟨⟨by decide +kernel, by decide +kernel⟩, List.mem_of_getElem? (i := 1011) (by decide +kernel), List.mem_of_getElem? (i := 1436) (by decide +kernel), List.mem_of_getElem? (i := 1437) (by decide +kernel)⟩
theorem lw_p90 : lw_okq (⟨"ThankedMovesModel", "happens", "(I)V"⟩, 36) := ⟨⟨by decide +kernel, by decide +kernel⟩, List.mem_of_getElem? (i := 1011) (by decide +kernel), List.mem_of_getElem? (i := 1449) (by decide +kernel), List.mem_of_getElem? (i := 1450) (by decide +kernel)⟩
theorem lw_p91 : lw_okq (⟨"ThankedMovesModel", "isPerson", "(I)Z"⟩, 36) := ⟨⟨by decide +kernel, by decide +kernel⟩, List.mem_of_getElem? (i := 1011) (by decide +kernel), List.mem_of_getElem? (i := 1461) (by decide +kernel), List.mem_of_getElem? (i := 1462) (by decide +kernel)⟩
theorem lw_p92 : lw_okq (⟨"ThankedMovesModel", "allKind", "()I"⟩, 36) := ⟨⟨by decide +kernel, by decide +kernel⟩, List.mem_of_getElem? (i := 1011) (by decide +kernel), List.mem_of_getElem? (i := 1469) (by decide +kernel), List.mem_of_getElem? (i := 1470) (by decide +kernel)⟩
theorem lw_p93 : lw_okq (⟨"ThankedMovesModel", "entry", "(II)I"⟩, 36) := ⟨⟨by decide +kernel, by decide +kernel⟩, List.mem_of_getElem? (i := 1011) (by decide +kernel), List.mem_of_getElem? (i := 1477) (by decide +kernel), List.mem_of_getElem? (i := 1478) (by decide +kernel)⟩
theorem lw_p94 : lw_okq (⟨"ThankedMovesModel", "linesOf", "(I)I"⟩, 36) := ⟨⟨by decide +kernel, by decide +kernel⟩, List.mem_of_getElem? (i := 1011) (by decide +kernel), List.mem_of_getElem? (i := 1485) (by decide +kernel), List.mem_of_getElem? (i := 1486) (by decide +kernel)⟩
theorem lw_p95 : lw_okq (⟨"ThankedMovesModel", "besideOf", "(I)I"⟩, 36) := ⟨⟨by decide +kernel, by decide +kernel⟩, List.mem_of_getElem? (i := 1011) (by decide +kernel), List.mem_of_getElem? (i := 1521) (by decide +kernel), List.mem_of_getElem? (i := 1522) (by decide +kernel)⟩
def lw_privs_6 : List (MethodName × Nat) := [(⟨"ThankedMovesModel", "hand", "(I)V"⟩, 36), (⟨"ThankedMovesModel", "write", "(II)V"⟩, 36), (⟨"ThankedMovesModel", "readyHouse", "()I"⟩, 36), (⟨"ThankedMovesModel", "settleNow", "()I"⟩, 36), (⟨"ThankedMovesModel", "arePassed", "(I)Z"⟩, 36), (⟨"ThankedMovesModel", "pass", "()V"⟩, 36), (⟨"ThankedMovesModel", "drawnBy", "(I)I"⟩, 36), (⟨"ThankedMovesModel", "anew", "()V"⟩, 36), (⟨"ThankedMovesModel", "giftsOf", "(I)I"⟩, 36), (⟨"ThankedMovesModel", "isPlayed", "(I)Z"⟩, 36), (⟨"ThankedMovesModel", "happens", "(I)V"⟩, 36), (⟨"ThankedMovesModel", "isPerson", "(I)Z"⟩, 36), (⟨"ThankedMovesModel", "allKind", "()I"⟩, 36), (⟨"ThankedMovesModel", "entry", "(II)I"⟩, 36), (⟨"ThankedMovesModel", "linesOf", "(I)I"⟩, 36), (⟨"ThankedMovesModel", "besideOf", "(I)I"⟩, 36)]
theorem lw_r6 : ∀ q ∈ lw_privs_6, lw_okq q := List.forall_mem_cons.mpr ⟨lw_p80, List.forall_mem_cons.mpr ⟨lw_p81, List.forall_mem_cons.mpr ⟨lw_p82, List.forall_mem_cons.mpr ⟨lw_p83, List.forall_mem_cons.mpr ⟨lw_p84, List.forall_mem_cons.mpr ⟨lw_p85, List.forall_mem_cons.mpr ⟨lw_p86, List.forall_mem_cons.mpr ⟨lw_p87, List.forall_mem_cons.mpr ⟨lw_p88, List.forall_mem_cons.mpr ⟨lw_p89, List.forall_mem_cons.mpr ⟨lw_p90, List.forall_mem_cons.mpr ⟨lw_p91, List.forall_mem_cons.mpr ⟨lw_p92, List.forall_mem_cons.mpr ⟨lw_p93, List.forall_mem_cons.mpr ⟨lw_p94, List.forall_mem_cons.mpr ⟨lw_p95, fun _ h => absurd h List.not_mem_nil⟩⟩⟩⟩⟩⟩⟩⟩⟩⟩⟩⟩⟩⟩⟩⟩
theorem lw_p96 : lw_okq (⟨"ThankedMovesModel", "setAside", "()V"⟩, 36) := ⟨⟨by decide +kernel, by decide +kernel⟩, List.mem_of_getElem? (i := 1011) (by decide +kernel), List.mem_of_getElem? (i := 1544) (by decide +kernel), List.mem_of_getElem? (i := 1545) (by decide +kernel)⟩
theorem lw_p97 : lw_okq (⟨"ThankedMovesModel", "putBack", "()V"⟩, 36) := ⟨⟨by decide +kernel, by decide +kernel⟩, List.mem_of_getElem? (i := 1011) (by decide +kernel), List.mem_of_getElem? (i := 1548) (by decide +kernel), List.mem_of_getElem? (i := 1549) (by decide +kernel)⟩
theorem lw_p98 : lw_okq (⟨"ThankedMovesModel", "layWave", "(II)V"⟩, 36) := ⟨⟨by decide +kernel, by decide +kernel⟩, List.mem_of_getElem? (i := 1011) (by decide +kernel), List.mem_of_getElem? (i := 1560) (by decide +kernel), List.mem_of_getElem? (i := 1561) (by decide +kernel)⟩
theorem lw_p99 : lw_okq (⟨"ThankedMovesModel", "goOne", "(I)V"⟩, 36) := ⟨⟨by decide +kernel, by decide +kernel⟩, List.mem_of_getElem? (i := 1011) (by decide +kernel), List.mem_of_getElem? (i := 1584) (by decide +kernel), List.mem_of_getElem? (i := 1585) (by decide +kernel)⟩
theorem lw_p100 : lw_okq (⟨"ThankedMovesModel", "noteAt", "(I)V"⟩, 36) := ⟨⟨by decide +kernel, by decide +kernel⟩, List.mem_of_getElem? (i := 1011) (by decide +kernel), List.mem_of_getElem? (i := 1592) (by decide +kernel), List.mem_of_getElem? (i := 1593) (by decide +kernel)⟩
theorem lw_p101 : lw_okq (⟨"ThankedMovesModel", "isAsAt", "(I)Z"⟩, 36) := ⟨⟨by decide +kernel, by decide +kernel⟩, List.mem_of_getElem? (i := 1011) (by decide +kernel), List.mem_of_getElem? (i := 1596) (by decide +kernel), List.mem_of_getElem? (i := 1597) (by decide +kernel)⟩
theorem lw_p102 : lw_okq (⟨"ThankedMovesModel", "isOffBy", "(III)Z"⟩, 36) := ⟨⟨by decide +kernel, by decide +kernel⟩, List.mem_of_getElem? (i := 1011) (by decide +kernel), List.mem_of_getElem? (i := 1608) (by decide +kernel), List.mem_of_getElem? (i := 1609) (by decide +kernel)⟩
theorem lw_p103 : lw_okq (⟨"ThankedMovesModel", "isMet", "(IIII)Z"⟩, 36) := ⟨⟨by decide +kernel, by decide +kernel⟩, List.mem_of_getElem? (i := 1011) (by decide +kernel), List.mem_of_getElem? (i := 1616) (by decide +kernel), List.mem_of_getElem? (i := 1617) (by decide +kernel)⟩
theorem lw_p104 : lw_okq (⟨"ThankedMovesModel", "areDone", "(IIZ)Z"⟩, 36) := ⟨⟨by decide +kernel, by decide +kernel⟩, List.mem_of_getElem? (i := 1011) (by decide +kernel), List.mem_of_getElem? (i := 1620) (by decide +kernel), List.mem_of_getElem? (i := 1621) (by decide +kernel)⟩
theorem lw_p105 : lw_okq (⟨"ThankedMovesModel", "isDoneSo", "(II)Z"⟩, 36) := ⟨⟨by decide +kernel, by decide +kernel⟩, List.mem_of_getElem? (i := 1011) (by decide +kernel), List.mem_of_getElem? (i := 1628) (by decide +kernel), List.mem_of_getElem? (i := 1629) (by decide +kernel)⟩
theorem lw_p106 : lw_okq (⟨"ThankedMovesModel", "likelyBy", "(IIZ)I"⟩, 36) := ⟨⟨by decide +kernel, by decide +kernel⟩, List.mem_of_getElem? (i := 1011) (by decide +kernel), List.mem_of_getElem? (i := 1636) (by decide +kernel), List.mem_of_getElem? (i := 1637) (by decide +kernel)⟩
theorem lw_p107 : lw_okq (⟨"ThankedMovesModel", "isSo", "(III)Z"⟩, 36) := ⟨⟨by decide +kernel, by decide +kernel⟩, List.mem_of_getElem? (i := 1011) (by decide +kernel), List.mem_of_getElem? (i := 1640) (by decide +kernel), List.mem_of_getElem? (i := 1641) (by decide +kernel)⟩
theorem lw_p108 : lw_okq (⟨"ThankedMovesModel", "layRound", "(I)I"⟩, 36) := ⟨⟨by decide +kernel, by decide +kernel⟩, List.mem_of_getElem? (i := 1011) (by decide +kernel), List.mem_of_getElem? (i := 1655) (by decide +kernel), List.mem_of_getElem? (i := 1656) (by decide +kernel)⟩
theorem lw_p109 : lw_okq (⟨"ThankedMovesModel", "roundBy", "(II)I"⟩, 36) := ⟨⟨by decide +kernel, by decide +kernel⟩, List.mem_of_getElem? (i := 1011) (by decide +kernel), List.mem_of_getElem? (i := 1659) (by decide +kernel), List.mem_of_getElem? (i := 1660) (by decide +kernel)⟩
theorem lw_p110 : lw_okq (⟨"ThankedMovesModel", "isDue", "(II)Z"⟩, 36) := ⟨⟨by decide +kernel, by decide +kernel⟩, List.mem_of_getElem? (i := 1011) (by decide +kernel), List.mem_of_getElem? (i := 1664) (by decide +kernel), List.mem_of_getElem? (i := 1665) (by decide +kernel)⟩
theorem lw_p111 : lw_okq (⟨"ThankedMovesModel", "isLower", "()Z"⟩, 36) := ⟨⟨by decide +kernel, by decide +kernel⟩, List.mem_of_getElem? (i := 1011) (by decide +kernel), List.mem_of_getElem? (i := 1668) (by decide +kernel), List.mem_of_getElem? (i := 1669) (by decide +kernel)⟩
def lw_privs_7 : List (MethodName × Nat) := [(⟨"ThankedMovesModel", "setAside", "()V"⟩, 36), (⟨"ThankedMovesModel", "putBack", "()V"⟩, 36), (⟨"ThankedMovesModel", "layWave", "(II)V"⟩, 36), (⟨"ThankedMovesModel", "goOne", "(I)V"⟩, 36), (⟨"ThankedMovesModel", "noteAt", "(I)V"⟩, 36), (⟨"ThankedMovesModel", "isAsAt", "(I)Z"⟩, 36), (⟨"ThankedMovesModel", "isOffBy", "(III)Z"⟩, 36), (⟨"ThankedMovesModel", "isMet", "(IIII)Z"⟩, 36), (⟨"ThankedMovesModel", "areDone", "(IIZ)Z"⟩, 36), (⟨"ThankedMovesModel", "isDoneSo", "(II)Z"⟩, 36), (⟨"ThankedMovesModel", "likelyBy", "(IIZ)I"⟩, 36), (⟨"ThankedMovesModel", "isSo", "(III)Z"⟩, 36), (⟨"ThankedMovesModel", "layRound", "(I)I"⟩, 36), (⟨"ThankedMovesModel", "roundBy", "(II)I"⟩, 36), (⟨"ThankedMovesModel", "isDue", "(II)Z"⟩, 36), (⟨"ThankedMovesModel", "isLower", "()Z"⟩, 36)]
theorem lw_r7 : ∀ q ∈ lw_privs_7, lw_okq q := List.forall_mem_cons.mpr ⟨lw_p96, List.forall_mem_cons.mpr ⟨lw_p97, List.forall_mem_cons.mpr ⟨lw_p98, List.forall_mem_cons.mpr ⟨lw_p99, List.forall_mem_cons.mpr ⟨lw_p100, List.forall_mem_cons.mpr ⟨lw_p101, List.forall_mem_cons.mpr ⟨lw_p102, List.forall_mem_cons.mpr ⟨lw_p103, List.forall_mem_cons.mpr ⟨lw_p104, List.forall_mem_cons.mpr ⟨lw_p105, List.forall_mem_cons.mpr ⟨lw_p106, List.forall_mem_cons.mpr ⟨lw_p107, List.forall_mem_cons.mpr ⟨lw_p108, List.forall_mem_cons.mpr ⟨lw_p109, List.forall_mem_cons.mpr ⟨lw_p110, List.forall_mem_cons.mpr ⟨lw_p111, fun _ h => absurd h List.not_mem_nil⟩⟩⟩⟩⟩⟩⟩⟩⟩⟩⟩⟩⟩⟩⟩⟩
def lw_privs : List (MethodName × Nat) := lw_privs_1 ++ (lw_privs_2 ++ (lw_privs_3 ++ (lw_privs_4 ++ (lw_privs_5 ++ (lw_privs_6 ++ (lw_privs_7))))))
def lw_tbl : List Cond := k2_sels lw_privs ++ tables_1
theorem lw_privs_ok : ∀ q ∈ lw_privs, lw_okq q := by
  show ∀ q ∈ lw_privs_1 ++ (lw_privs_2 ++ (lw_privs_3 ++ (lw_privs_4 ++ (lw_privs_5 ++ (lw_privs_6 ++ (lw_privs_7)))))), lw_okq q
  exact List.forall_mem_append.mpr ⟨lw_r1, List.forall_mem_append.mpr ⟨lw_r2, List.forall_mem_append.mpr ⟨lw_r3, List.forall_mem_append.mpr ⟨lw_r4, List.forall_mem_append.mpr ⟨lw_r5, List.forall_mem_append.mpr ⟨lw_r6, lw_r7⟩⟩⟩⟩⟩⟩

/-! ===== BEGIN words of one list among another's, by their places ===== -/
theorem goodIn_r {big : List Cond} (ws : List Cond) (ps : List Nat) (hp : ws = ps.filterMap (fun i => big[i]?)) (h : ws.all goodWord = true) : GoodIn big ws := by
  intro w hw
  have h1 := List.all_eq_true.mp h w hw
  rw [hp] at hw
  obtain ⟨i, -, hi⟩ := List.mem_filterMap.mp hw
  have hm : w ∈ big := by first | exact List.mem_of_getElem? hi | exact List.getElem?_mem hi
  exact ⟨hm, good_of_word h1⟩
theorem goodIn_app {big a b : List Cond} (ha : GoodIn big a) (hb : GoodIn big b) : GoodIn big (a ++ b) := fun w h => (List.mem_append.mp h).elim (ha w) (hb w)
theorem goodIn_ca {big a b : List Cond} {c : Cond} (ha : GoodIn big (c :: a)) (hb : GoodIn big b) : GoodIn big (c :: (a ++ b)) := fun w h => (List.mem_cons.mp h).elim (fun e => ha w (List.mem_cons.mpr (Or.inl e))) (fun h => (List.mem_append.mp h).elim (fun h => ha w (List.mem_cons.mpr (Or.inr h))) (hb w))
theorem goodIn_sub {big ws : List Cond} (hm : ∀ w ∈ ws, w ∈ big) (h : ws.all goodWord = true) : GoodIn big ws := fun w hw => ⟨hm w hw, good_of_word (List.all_eq_true.mp h w hw)⟩
/-! ===== END ===== -/

/-! ===== BEGIN printed: names, fields, word lists, decode rows ===== -/
def RX0 : String := "ThankedMoves$Cart"
def TX0 : u_T := fun k => match k with
  | 0 => ("ThankedMoves$Cart", "best", "[I", true)
  | 1 => ("ThankedMoves$Cart", "bestCount", "I", false)
  | 2 => ("ThankedMoves$Cart", "bestTime", "I", false)
  | 3 => ("ThankedMoves$Cart", "order", "[I", true)
  | _ => ("ThankedMoves$Cart", "count", "I", false)
def tyX0 : Nat → FieldType := fun k => match k with
  | 0 => .array .int
  | 1 => .int
  | 2 => .int
  | 3 => .array .int
  | _ => .int
abbrev wsX00 : List Cond := u_ws RX0 TX0 5
theorem nmX0 : ∀ a, a < 5 → ∀ b, b < 5 → a ≠ b → (TX0 a).2.1 ≠ (TX0 b).2.1 := by decide +kernel
theorem tyX0_ok : ∀ k, k < 5 → parseFieldDescriptor (TX0 k).2.2.1 = some (tyX0 k) := by decide +kernel
abbrev cX0_init : ByteArray := prog_2_method_1_code
def yX0_init : MethodName := ⟨RX0, "<init>", "()V"⟩
abbrev cX0_plan : ByteArray := prog_2_method_2_code
def yX0_plan : MethodName := ⟨RX0, "plan", "([II)I"⟩
abbrev cX0_drive : ByteArray := prog_2_method_3_code
def yX0_drive : MethodName := ⟨RX0, "drive", "([IIII)I"⟩
abbrev cX0_visit : ByteArray := prog_2_method_4_code
def yX0_visit : MethodName := ⟨RX0, "visit", "([II)V"⟩
abbrev cX0_isBetter : ByteArray := prog_2_method_5_code
def yX0_isBetter : MethodName := ⟨RX0, "isBetter", "(I)Z"⟩
abbrev cX0_keep : ByteArray := prog_2_method_6_code
def yX0_keep : MethodName := ⟨RX0, "keep", "(I)V"⟩
def RX1 : String := "ThankedMoves$Reader"
def TX1 : u_T := fun k => match k with
  | 0 => ("ThankedMoves$Reader", "fault", "I", false)
  | 1 => ("ThankedMoves$Reader", "place", "I", false)
  | 2 => ("ThankedMoves$Reader", "tape", "LThankedMoves$Tape;", true)
  | 3 => ("ThankedMoves$Reader", "into", "LThankedMoves$Text;", false)
  | 4 => ("ThankedMoves$Reader", "inHolds", "Z", false)
  | 5 => ("ThankedMoves$Reader", "next", "I", false)
  | _ => ("ThankedMoves$Reader", "token", "I", false)
def tyX1 : Nat → FieldType := fun k => match k with
  | 0 => .int
  | 1 => .int
  | 2 => .object "ThankedMoves$Tape"
  | 3 => .object "ThankedMoves$Text"
  | 4 => .boolean
  | 5 => .int
  | _ => .int
abbrev wsX10 : List Cond := u_ws RX1 TX1 7
theorem nmX1 : ∀ a, a < 7 → ∀ b, b < 7 → a ≠ b → (TX1 a).2.1 ≠ (TX1 b).2.1 := by decide +kernel
theorem tyX1_ok : ∀ k, k < 7 → parseFieldDescriptor (TX1 k).2.2.1 = some (tyX1 k) := by decide +kernel
abbrev cX1_init : ByteArray := prog_3_method_1_code
def yX1_init : MethodName := ⟨RX1, "<init>", "(LThankedMoves$Tape;LThankedMoves$Text;)V"⟩
abbrev cX1_readInto : ByteArray := prog_3_method_2_code
def yX1_readInto : MethodName := ⟨RX1, "readInto", "(LThankedMoves$Text;)Z"⟩
abbrev cX1_advance : ByteArray := prog_3_method_3_code
def yX1_advance : MethodName := ⟨RX1, "advance", "()V"⟩
abbrev cX1_fail : ByteArray := prog_3_method_4_code
def yX1_fail : MethodName := ⟨RX1, "fail", "(I)V"⟩
abbrev cX1_expect : ByteArray := prog_3_method_5_code
def yX1_expect : MethodName := ⟨RX1, "expect", "(I)V"⟩
abbrev cX1_numberIn : ByteArray := prog_3_method_6_code
def yX1_numberIn : MethodName := ⟨RX1, "numberIn", "(II)I"⟩
abbrev cX1_readClause : ByteArray := prog_3_method_7_code
def yX1_readClause : MethodName := ⟨RX1, "readClause", "()V"⟩
abbrev cX1_readLaw : ByteArray := prog_3_method_8_code
def yX1_readLaw : MethodName := ⟨RX1, "readLaw", "(I)V"⟩
abbrev cX1_readDeed : ByteArray := prog_3_method_9_code
def yX1_readDeed : MethodName := ⟨RX1, "readDeed", "(I)V"⟩
abbrev cX1_opens : ByteArray := prog_3_method_10_code
def yX1_opens : MethodName := ⟨RX1, "opens", "(I)Z"⟩
abbrev cX1_readSum : ByteArray := prog_3_method_11_code
def yX1_readSum : MethodName := ⟨RX1, "readSum", "(I)V"⟩
abbrev cX1_readProduct : ByteArray := prog_3_method_12_code
def yX1_readProduct : MethodName := ⟨RX1, "readProduct", "(I)V"⟩
abbrev cX1_readOne : ByteArray := prog_3_method_13_code
def yX1_readOne : MethodName := ⟨RX1, "readOne", "(I)V"⟩
abbrev cX1_readOperand : ByteArray := prog_3_method_14_code
def yX1_readOperand : MethodName := ⟨RX1, "readOperand", "(II)V"⟩
abbrev cX1_readOver : ByteArray := prog_3_method_15_code
def yX1_readOver : MethodName := ⟨RX1, "readOver", "(I)V"⟩
abbrev cX1_readIf : ByteArray := prog_3_method_16_code
def yX1_readIf : MethodName := ⟨RX1, "readIf", "(I)V"⟩
abbrev cX1_readName : ByteArray := prog_3_method_17_code
def yX1_readName : MethodName := ⟨RX1, "readName", "()V"⟩
abbrev cX1_readEither : ByteArray := prog_3_method_18_code
def yX1_readEither : MethodName := ⟨RX1, "readEither", "(I)V"⟩
abbrev cX1_readBoth : ByteArray := prog_3_method_19_code
def yX1_readBoth : MethodName := ⟨RX1, "readBoth", "(I)V"⟩
abbrev cX1_readAsk : ByteArray := prog_3_method_20_code
def yX1_readAsk : MethodName := ⟨RX1, "readAsk", "(I)V"⟩
def RX2 : String := "ThankedMoves$Street"
def TX2 : u_T := fun k => match k with
  | 0 => ("ThankedMoves$Street", "kindness", "[I", true)
  | 1 => ("ThankedMoves$Street", "homes", "[I", true)
  | 2 => ("ThankedMoves$Street", "people", "I", false)
  | 3 => ("ThankedMoves$Street", "gone", "I", false)
  | 4 => ("ThankedMoves$Street", "snow", "I", false)
  | 5 => ("ThankedMoves$Street", "last", "I", false)
  | 6 => ("ThankedMoves$Street", "night", "I", false)
  | 7 => ("ThankedMoves$Street", "x", "I", false)
  | 8 => ("ThankedMoves$Street", "entries", "[I", true)
  | 9 => ("ThankedMoves$Street", "written", "I", false)
  | 10 => ("ThankedMoves$Street", "thanks", "[I", true)
  | _ => ("ThankedMoves$Street", "moves", "I", false)
def tyX2 : Nat → FieldType := fun k => match k with
  | 0 => .array .int
  | 1 => .array .int
  | 2 => .int
  | 3 => .int
  | 4 => .int
  | 5 => .int
  | 6 => .int
  | 7 => .int
  | 8 => .array .int
  | 9 => .int
  | 10 => .array .int
  | _ => .int
abbrev wsX20 : List Cond := u_ws RX2 TX2 12
theorem nmX2 : ∀ a, a < 12 → ∀ b, b < 12 → a ≠ b → (TX2 a).2.1 ≠ (TX2 b).2.1 := by decide +kernel
theorem tyX2_ok : ∀ k, k < 12 → parseFieldDescriptor (TX2 k).2.2.1 = some (tyX2 k) := by decide +kernel
abbrev cX2_init : ByteArray := prog_4_method_1_code
def yX2_init : MethodName := ⟨RX2, "<init>", "()V"⟩
abbrev cX2_take : ByteArray := prog_4_method_2_code
def yX2_take : MethodName := ⟨RX2, "take", "(LThankedMoves$Street;)V"⟩
abbrev cX2_addPerson : ByteArray := prog_4_method_3_code
def yX2_addPerson : MethodName := ⟨RX2, "addPerson", "(I)V"⟩
abbrev cX2_takesGood : ByteArray := prog_4_method_4_code
def yX2_takesGood : MethodName := ⟨RX2, "takesGood", "(II)Z"⟩
abbrev cX2_isReady : ByteArray := prog_4_method_5_code
def yX2_isReady : MethodName := ⟨RX2, "isReady", "(ILThankedMoves$Text;)Z"⟩
abbrev cX2_handOn : ByteArray := prog_4_method_6_code
def yX2_handOn : MethodName := ⟨RX2, "handOn", "(I)V"⟩
abbrev cX2_giveOne : ByteArray := prog_4_method_7_code
def yX2_giveOne : MethodName := ⟨RX2, "giveOne", "(I)V"⟩
abbrev cX2_writeDown : ByteArray := prog_4_method_8_code
def yX2_writeDown : MethodName := ⟨RX2, "writeDown", "(II)V"⟩
abbrev cX2_nightWritten : ByteArray := prog_4_method_9_code
def yX2_nightWritten : MethodName := ⟨RX2, "nightWritten", "(I)I"⟩
abbrev cX2_personWritten : ByteArray := prog_4_method_10_code
def yX2_personWritten : MethodName := ⟨RX2, "personWritten", "(I)I"⟩
abbrev cX2_houseWritten : ByteArray := prog_4_method_11_code
def yX2_houseWritten : MethodName := ⟨RX2, "houseWritten", "(I)I"⟩
abbrev cX2_timesWritten : ByteArray := prog_4_method_12_code
def yX2_timesWritten : MethodName := ⟨RX2, "timesWritten", "(I)I"⟩
abbrev cX2_settleBy : ByteArray := prog_4_method_13_code
def yX2_settleBy : MethodName := ⟨RX2, "settleBy", "(LThankedMoves$Text;)I"⟩
abbrev cX2_drawn : ByteArray := prog_4_method_14_code
def yX2_drawn : MethodName := ⟨RX2, "drawn", "()I"⟩
abbrev cX2_passNight : ByteArray := prog_4_method_15_code
def yX2_passNight : MethodName := ⟨RX2, "passNight", "(LThankedMoves$Text;)V"⟩
abbrev cX2_passYear : ByteArray := prog_4_method_16_code
def yX2_passYear : MethodName := ⟨RX2, "passYear", "(LThankedMoves$Text;)V"⟩
abbrev cX2_thanksInAll : ByteArray := prog_4_method_17_code
def yX2_thanksInAll : MethodName := ⟨RX2, "thanksInAll", "()I"⟩
abbrev cX2_restKey : ByteArray := prog_4_method_18_code
def yX2_restKey : MethodName := ⟨RX2, "restKey", "()J"⟩
abbrev cX2_isAsKindAs : ByteArray := prog_4_method_19_code
def yX2_isAsKindAs : MethodName := ⟨RX2, "isAsKindAs", "(LThankedMoves$Street;)Z"⟩
abbrev cX2_kindnessIn : ByteArray := prog_4_method_20_code
def yX2_kindnessIn : MethodName := ⟨RX2, "kindnessIn", "(II)I"⟩
abbrev cX2_kindnessOf : ByteArray := prog_4_method_21_code
def yX2_kindnessOf : MethodName := ⟨RX2, "kindnessOf", "(I)I"⟩
abbrev cX2_peopleIn : ByteArray := prog_4_method_22_code
def yX2_peopleIn : MethodName := ⟨RX2, "peopleIn", "(I)I"⟩
abbrev cX2_countIn : ByteArray := prog_4_method_23_code
def yX2_countIn : MethodName := ⟨RX2, "countIn", "(I)I"⟩
abbrev cX2_inStreet : ByteArray := prog_4_method_24_code
def yX2_inStreet : MethodName := ⟨RX2, "inStreet", "()I"⟩
abbrev cX2_neighbours : ByteArray := prog_4_method_25_code
def yX2_neighbours : MethodName := ⟨RX2, "neighbours", "(I)I"⟩
def RX3 : String := "ThankedMoves$Tape"
def TX3 : u_T := fun k => match k with
  | 0 => ("ThankedMoves$Tape", "bytes", "[I", true)
  | 1 => ("ThankedMoves$Tape", "length", "I", false)
  | 2 => ("ThankedMoves$Tape", "tokens", "[I", true)
  | 3 => ("ThankedMoves$Tape", "starts", "[I", true)
  | 4 => ("ThankedMoves$Tape", "numbers", "[I", true)
  | 5 => ("ThankedMoves$Tape", "count", "I", false)
  | _ => ("ThankedMoves$Tape", "at", "I", false)
def tyX3 : Nat → FieldType := fun k => match k with
  | 0 => .array .int
  | 1 => .int
  | 2 => .array .int
  | 3 => .array .int
  | 4 => .array .int
  | 5 => .int
  | _ => .int
abbrev wsX30 : List Cond := u_ws RX3 TX3 7
theorem nmX3 : ∀ a, a < 7 → ∀ b, b < 7 → a ≠ b → (TX3 a).2.1 ≠ (TX3 b).2.1 := by decide +kernel
theorem tyX3_ok : ∀ k, k < 7 → parseFieldDescriptor (TX3 k).2.2.1 = some (tyX3 k) := by decide +kernel
abbrev cX3_init : ByteArray := prog_5_method_1_code
def yX3_init : MethodName := ⟨RX3, "<init>", "()V"⟩
abbrev cX3_addFour : ByteArray := prog_5_method_2_code
def yX3_addFour : MethodName := ⟨RX3, "addFour", "(I)V"⟩
abbrev cX3_scan : ByteArray := prog_5_method_3_code
def yX3_scan : MethodName := ⟨RX3, "scan", "()V"⟩
abbrev cX3_add : ByteArray := prog_5_method_4_code
def yX3_add : MethodName := ⟨RX3, "add", "(III)V"⟩
abbrev cX3_isLetter : ByteArray := prog_5_method_5_code
def yX3_isLetter : MethodName := ⟨RX3, "isLetter", "(I)Z"⟩
abbrev cX3_isDigit : ByteArray := prog_5_method_6_code
def yX3_isDigit : MethodName := ⟨RX3, "isDigit", "(I)Z"⟩
abbrev cX3_scanWord : ByteArray := prog_5_method_7_code
def yX3_scanWord : MethodName := ⟨RX3, "scanWord", "()V"⟩
abbrev cX3_isSpelt : ByteArray := prog_5_method_8_code
def yX3_isSpelt : MethodName := ⟨RX3, "isSpelt", "(II)Z"⟩
abbrev cX3_scanNumber : ByteArray := prog_5_method_9_code
def yX3_scanNumber : MethodName := ⟨RX3, "scanNumber", "()V"⟩
abbrev cX3_scanSign : ByteArray := prog_5_method_10_code
def yX3_scanSign : MethodName := ⟨RX3, "scanSign", "()V"⟩
def RX4 : String := "ThankedMoves$Text"
def TX4 : u_T := fun k => match k with
  | 0 => ("ThankedMoves$Text", "code", "[I", true)
  | 1 => ("ThankedMoves$Text", "length", "I", false)
  | 2 => ("ThankedMoves$Text", "holdsFrom", "I", false)
  | 3 => ("ThankedMoves$Text", "holdsTo", "I", false)
  | 4 => ("ThankedMoves$Text", "giftsFrom", "I", false)
  | 5 => ("ThankedMoves$Text", "giftsTo", "I", false)
  | 6 => ("ThankedMoves$Text", "acts", "[I", true)
  | 7 => ("ThankedMoves$Text", "firsts", "[I", true)
  | 8 => ("ThankedMoves$Text", "seconds", "[I", true)
  | 9 => ("ThankedMoves$Text", "clauses", "I", false)
  | 10 => ("ThankedMoves$Text", "looksFar", "Z", false)
  | _ => ("ThankedMoves$Text", "stack", "[I", true)
def tyX4 : Nat → FieldType := fun k => match k with
  | 0 => .array .int
  | 1 => .int
  | 2 => .int
  | 3 => .int
  | 4 => .int
  | 5 => .int
  | 6 => .array .int
  | 7 => .array .int
  | 8 => .array .int
  | 9 => .int
  | 10 => .boolean
  | _ => .array .int
abbrev wsX40 : List Cond := u_ws RX4 TX4 12
theorem nmX4 : ∀ a, a < 12 → ∀ b, b < 12 → a ≠ b → (TX4 a).2.1 ≠ (TX4 b).2.1 := by decide +kernel
theorem tyX4_ok : ∀ k, k < 12 → parseFieldDescriptor (TX4 k).2.2.1 = some (tyX4 k) := by decide +kernel
abbrev cX4_init : ByteArray := prog_6_method_1_code
def yX4_init : MethodName := ⟨RX4, "<init>", "()V"⟩
abbrev cX4_clear : ByteArray := prog_6_method_2_code
def yX4_clear : MethodName := ⟨RX4, "clear", "()V"⟩
abbrev cX4_addClause : ByteArray := prog_6_method_3_code
def yX4_addClause : MethodName := ⟨RX4, "addClause", "(III)V"⟩
abbrev cX4_emit : ByteArray := prog_6_method_4_code
def yX4_emit : MethodName := ⟨RX4, "emit", "(II)I"⟩
abbrev cX4_landHere : ByteArray := prog_6_method_5_code
def yX4_landHere : MethodName := ⟨RX4, "landHere", "(I)V"⟩
abbrev cX4_worth : ByteArray := prog_6_method_6_code
def yX4_worth : MethodName := ⟨RX4, "worth", "(ZLThankedMoves$Street;I)I"⟩
abbrev cX4_operands : ByteArray := prog_6_method_7_code
def yX4_operands : MethodName := ⟨RX4, "operands", "(I)I"⟩
abbrev cX4_named : ByteArray := prog_6_method_8_code
def yX4_named : MethodName := ⟨RX4, "named", "(IILThankedMoves$Street;I)J"⟩
abbrev cX4_changed : ByteArray := prog_6_method_9_code
def yX4_changed : MethodName := ⟨RX4, "changed", "(IILThankedMoves$Street;)J"⟩
abbrev cX4_joined : ByteArray := prog_6_method_10_code
def yX4_joined : MethodName := ⟨RX4, "joined", "(IJJ)J"⟩
def RX5 : String := "ThankedMoves$Town"
def TX5 : u_T := fun k => match k with
  | 0 => ("ThankedMoves$Town", "now", "LThankedMoves$Street;", true)
  | 1 => ("ThankedMoves$Town", "steps", "[LThankedMoves$Street;", true)
  | 2 => ("ThankedMoves$Town", "stepCount", "I", false)
  | 3 => ("ThankedMoves$Town", "dues", "[I", true)
  | 4 => ("ThankedMoves$Town", "saidHouses", "[I", true)
  | 5 => ("ThankedMoves$Town", "saidHolds", "[I", true)
  | 6 => ("ThankedMoves$Town", "said", "I", false)
  | 7 => ("ThankedMoves$Town", "texts", "I", false)
  | _ => ("ThankedMoves$Town", "ruling", "I", false)
def tyX5 : Nat → FieldType := fun k => match k with
  | 0 => .object "ThankedMoves$Street"
  | 1 => .array (.object "ThankedMoves$Street")
  | 2 => .int
  | 3 => .array .int
  | 4 => .array .int
  | 5 => .array .int
  | 6 => .int
  | 7 => .int
  | _ => .int
abbrev wsX50 : List Cond := u_ws RX5 TX5 9
theorem nmX5 : ∀ a, a < 9 → ∀ b, b < 9 → a ≠ b → (TX5 a).2.1 ≠ (TX5 b).2.1 := by decide +kernel
theorem tyX5_ok : ∀ k, k < 9 → parseFieldDescriptor (TX5 k).2.2.1 = some (tyX5 k) := by decide +kernel
abbrev cX5_init : ByteArray := prog_7_method_1_code
def yX5_init : MethodName := ⟨RX5, "<init>", "()V"⟩
abbrev cX5_takeAll : ByteArray := prog_7_method_2_code
def yX5_takeAll : MethodName := ⟨RX5, "takeAll", "(LThankedMoves$Town;)V"⟩
abbrev cX5_tellKindness : ByteArray := prog_7_method_3_code
def yX5_tellKindness : MethodName := ⟨RX5, "tellKindness", "(II)V"⟩
abbrev cX5_tellPerson : ByteArray := prog_7_method_4_code
def yX5_tellPerson : MethodName := ⟨RX5, "tellPerson", "(I)V"⟩
abbrev cX5_keepStep : ByteArray := prog_7_method_5_code
def yX5_keepStep : MethodName := ⟨RX5, "keepStep", "()V"⟩
abbrev cX5_takeBack : ByteArray := prog_7_method_6_code
def yX5_takeBack : MethodName := ⟨RX5, "takeBack", "()V"⟩
def RX6 : String := "ThankedMoves"
def TX6 : u_T := fun k => match k with
  | 0 => ("ThankedMoves", "town", "LThankedMoves$Town;", true)
  | 1 => ("ThankedMoves", "kept", "LThankedMoves$Town;", true)
  | 2 => ("ThankedMoves", "texts", "[LThankedMoves$Text;", true)
  | 3 => ("ThankedMoves", "lawless", "LThankedMoves$Text;", true)
  | 4 => ("ThankedMoves", "tape", "LThankedMoves$Tape;", true)
  | 5 => ("ThankedMoves", "reader", "LThankedMoves$Reader;", true)
  | 6 => ("ThankedMoves", "levels", "[LThankedMoves$Street;", true)
  | 7 => ("ThankedMoves", "path", "[I", true)
  | 8 => ("ThankedMoves", "history", "[J", true)
  | _ => ("ThankedMoves", "doctor", "LThankedMoves$Cart;", true)
def tyX6 : Nat → FieldType := fun k => match k with
  | 0 => .object "ThankedMoves$Town"
  | 1 => .object "ThankedMoves$Town"
  | 2 => .array (.object "ThankedMoves$Text")
  | 3 => .object "ThankedMoves$Text"
  | 4 => .object "ThankedMoves$Tape"
  | 5 => .object "ThankedMoves$Reader"
  | 6 => .array (.object "ThankedMoves$Street")
  | 7 => .array .int
  | 8 => .array .long
  | _ => .object "ThankedMoves$Cart"
abbrev wsX60 : List Cond := u_ws RX6 TX6 10
theorem nmX6 : ∀ a, a < 10 → ∀ b, b < 10 → a ≠ b → (TX6 a).2.1 ≠ (TX6 b).2.1 := by decide +kernel
theorem tyX6_ok : ∀ k, k < 10 → parseFieldDescriptor (TX6 k).2.2.1 = some (tyX6 k) := by decide +kernel
abbrev cX6_init : ByteArray := prog_1_method_1_code
def yX6_init : MethodName := ⟨RX6, "<init>", "()V"⟩
abbrev cX6_person : ByteArray := prog_1_method_2_code
def yX6_person : MethodName := ⟨RX6, "person", "(I)I"⟩
abbrev cX6_kind : ByteArray := prog_1_method_3_code
def yX6_kind : MethodName := ⟨RX6, "kind", "(II)Z"⟩
abbrev cX6_feed : ByteArray := prog_1_method_4_code
def yX6_feed : MethodName := ⟨RX6, "feed", "(IIIII)I"⟩
abbrev cX6_end : ByteArray := prog_1_method_5_code
def yX6_end : MethodName := ⟨RX6, "end", "(I)I"⟩
abbrev cX6_text : ByteArray := prog_1_method_6_code
def yX6_text : MethodName := ⟨RX6, "text", "()I"⟩
abbrev cX6_fault : ByteArray := prog_1_method_7_code
def yX6_fault : MethodName := ⟨RX6, "fault", "(I)I"⟩
abbrev cX6_by : ByteArray := prog_1_method_8_code
def yX6_by : MethodName := ⟨RX6, "by", "(I)Z"⟩
abbrev cX6_good : ByteArray := prog_1_method_9_code
def yX6_good : MethodName := ⟨RX6, "good", "(II)Z"⟩
abbrev cX6_thank : ByteArray := prog_1_method_10_code
def yX6_thank : MethodName := ⟨RX6, "thank", "(I)Z"⟩
abbrev cX6_settle : ByteArray := prog_1_method_11_code
def yX6_settle : MethodName := ⟨RX6, "settle", "()I"⟩
abbrev cX6_night : ByteArray := prog_1_method_12_code
def yX6_night : MethodName := ⟨RX6, "night", "(I)I"⟩
abbrev cX6_played : ByteArray := prog_1_method_13_code
def yX6_played : MethodName := ⟨RX6, "played", "(I)I"⟩
abbrev cX6_years : ByteArray := prog_1_method_14_code
def yX6_years : MethodName := ⟨RX6, "years", "(II)I"⟩
abbrev cX6_undo : ByteArray := prog_1_method_15_code
def yX6_undo : MethodName := ⟨RX6, "undo", "()I"⟩
abbrev cX6_of : ByteArray := prog_1_method_16_code
def yX6_of : MethodName := ⟨RX6, "of", "(II)I"⟩
abbrev cX6_ofPerson : ByteArray := prog_1_method_17_code
def yX6_ofPerson : MethodName := ⟨RX6, "ofPerson", "(I)I"⟩
abbrev cX6_is : ByteArray := prog_1_method_18_code
def yX6_is : MethodName := ⟨RX6, "is", "(I)I"⟩
abbrev cX6_book : ByteArray := prog_1_method_19_code
def yX6_book : MethodName := ⟨RX6, "book", "(II)I"⟩
abbrev cX6_foretold : ByteArray := prog_1_method_20_code
def yX6_foretold : MethodName := ⟨RX6, "foretold", "(III)I"⟩
abbrev cX6_rest : ByteArray := prog_1_method_21_code
def yX6_rest : MethodName := ⟨RX6, "rest", "(II)I"⟩
abbrev cX6_wave : ByteArray := prog_1_method_22_code
def yX6_wave : MethodName := ⟨RX6, "wave", "(I)I"⟩
abbrev cX6_greatest : ByteArray := prog_1_method_23_code
def yX6_greatest : MethodName := ⟨RX6, "greatest", "(Z)I"⟩
abbrev cX6_reached : ByteArray := prog_1_method_24_code
def yX6_reached : MethodName := ⟨RX6, "reached", "(I)I"⟩
abbrev cX6_waves : ByteArray := prog_1_method_25_code
def yX6_waves : MethodName := ⟨RX6, "waves", "(II)I"⟩
abbrev cX6_until : ByteArray := prog_1_method_26_code
def yX6_until : MethodName := ⟨RX6, "until", "(II)I"⟩
abbrev cX6_mover : ByteArray := prog_1_method_27_code
def yX6_mover : MethodName := ⟨RX6, "mover", "(Z)I"⟩
abbrev cX6_again : ByteArray := prog_1_method_28_code
def yX6_again : MethodName := ⟨RX6, "again", "()Z"⟩
abbrev cX6_period : ByteArray := prog_1_method_29_code
def yX6_period : MethodName := ⟨RX6, "period", "(IZ)I"⟩
abbrev cX6_least : ByteArray := prog_1_method_30_code
def yX6_least : MethodName := ⟨RX6, "least", "(IZ)I"⟩
abbrev cX6_meet : ByteArray := prog_1_method_31_code
def yX6_meet : MethodName := ⟨RX6, "meet", "(III)I"⟩
abbrev cX6_doers : ByteArray := prog_1_method_32_code
def yX6_doers : MethodName := ⟨RX6, "doers", "(Z)I"⟩
abbrev cX6_likely : ByteArray := prog_1_method_33_code
def yX6_likely : MethodName := ⟨RX6, "likely", "(IIZ)I"⟩
abbrev cX6_off : ByteArray := prog_1_method_34_code
def yX6_off : MethodName := ⟨RX6, "off", "(IZ)I"⟩
abbrev cX6_need : ByteArray := prog_1_method_35_code
def yX6_need : MethodName := ⟨RX6, "need", "(II)Z"⟩
abbrev cX6_cart : ByteArray := prog_1_method_36_code
def yX6_cart : MethodName := ⟨RX6, "cart", "(I)I"⟩
abbrev cX6_round : ByteArray := prog_1_method_37_code
def yX6_round : MethodName := ⟨RX6, "round", "(II)I"⟩
abbrev cX6_sick : ByteArray := prog_1_method_38_code
def yX6_sick : MethodName := ⟨RX6, "sick", "()I"⟩
abbrev cX6_beside : ByteArray := prog_1_method_39_code
def yX6_beside : MethodName := ⟨RX6, "beside", "(I)I"⟩
abbrev cX6_alone : ByteArray := prog_1_method_40_code
def yX6_alone : MethodName := ⟨RX6, "alone", "()I"⟩
abbrev cX6_spread : ByteArray := prog_1_method_41_code
def yX6_spread : MethodName := ⟨RX6, "spread", "()I"⟩
abbrev cX6_crowded : ByteArray := prog_1_method_42_code
def yX6_crowded : MethodName := ⟨RX6, "crowded", "()I"⟩
abbrev cX6_empty : ByteArray := prog_1_method_43_code
def yX6_empty : MethodName := ⟨RX6, "empty", "()I"⟩
abbrev cX6_said : ByteArray := prog_1_method_44_code
def yX6_said : MethodName := ⟨RX6, "said", "(II)I"⟩
abbrev cX6_whose : ByteArray := prog_1_method_45_code
def yX6_whose : MethodName := ⟨RX6, "whose", "()I"⟩
abbrev cX6_ready : ByteArray := prog_1_method_46_code
def yX6_ready : MethodName := ⟨RX6, "ready", "()I"⟩
abbrev cX6_balance : ByteArray := prog_1_method_47_code
def yX6_balance : MethodName := ⟨RX6, "balance", "()I"⟩
abbrev cX6_middle : ByteArray := prog_1_method_48_code
def yX6_middle : MethodName := ⟨RX6, "middle", "()I"⟩
abbrev cX6_kindest : ByteArray := prog_1_method_49_code
def yX6_kindest : MethodName := ⟨RX6, "kindest", "()I"⟩
abbrev cX6_travelled : ByteArray := prog_1_method_50_code
def yX6_travelled : MethodName := ⟨RX6, "travelled", "()I"⟩
abbrev cX6_ledger : ByteArray := prog_1_method_51_code
def yX6_ledger : MethodName := ⟨RX6, "ledger", "(I)I"⟩
abbrev cX6_image : ByteArray := prog_1_method_52_code
def yX6_image : MethodName := ⟨RX6, "image", "()I"⟩
abbrev cX6_back : ByteArray := prog_1_method_53_code
def yX6_back : MethodName := ⟨RX6, "back", "()I"⟩
abbrev cX6_about : ByteArray := prog_1_method_54_code
def yX6_about : MethodName := ⟨RX6, "about", "(I)I"⟩
abbrev cX6_isHouse : ByteArray := prog_1_method_55_code
def yX6_isHouse : MethodName := ⟨RX6, "isHouse", "(I)Z"⟩
abbrev cX6_isPerson : ByteArray := prog_1_method_56_code
def yX6_isPerson : MethodName := ⟨RX6, "isPerson", "(I)Z"⟩
abbrev cX6_isText : ByteArray := prog_1_method_57_code
def yX6_isText : MethodName := ⟨RX6, "isText", "(I)Z"⟩
abbrev cX6_rule : ByteArray := prog_1_method_58_code
def yX6_rule : MethodName := ⟨RX6, "rule", "()LThankedMoves$Text;"⟩
abbrev cX6_perform : ByteArray := prog_1_method_59_code
def yX6_perform : MethodName := ⟨RX6, "perform", "(III)Z"⟩
abbrev cX6_atRest : ByteArray := prog_1_method_60_code
def yX6_atRest : MethodName := ⟨RX6, "atRest", "()LThankedMoves$Street;"⟩
abbrev cX6_waveOver : ByteArray := prog_1_method_61_code
def yX6_waveOver : MethodName := ⟨RX6, "waveOver", "(LThankedMoves$Street;I)LThankedMoves$Street;"⟩
abbrev cX6_doubleWave : ByteArray := prog_1_method_62_code
def yX6_doubleWave : MethodName := ⟨RX6, "doubleWave", "(II)LThankedMoves$Street;"⟩
abbrev cX6_sendsOff : ByteArray := prog_1_method_63_code
def yX6_sendsOff : MethodName := ⟨RX6, "sendsOff", "(III)Z"⟩
abbrev cX6_goOn : ByteArray := prog_1_method_64_code
def yX6_goOn : MethodName := ⟨RX6, "goOn", "(II)Z"⟩
abbrev cX6_findMeeting : ByteArray := prog_1_method_65_code
def yX6_findMeeting : MethodName := ⟨RX6, "findMeeting", "(IIII)Z"⟩
abbrev cX6_countDraws : ByteArray := prog_1_method_66_code
def yX6_countDraws : MethodName := ⟨RX6, "countDraws", "(III)I"⟩
abbrev cX6_inLowestTerms : ByteArray := prog_1_method_67_code
def yX6_inLowestTerms : MethodName := ⟨RX6, "inLowestTerms", "(IIZ)I"⟩
abbrev cX6_allSaidHolds : ByteArray := prog_1_method_68_code
def yX6_allSaidHolds : MethodName := ⟨RX6, "allSaidHolds", "(LThankedMoves$Text;)Z"⟩
def RX7 : String := "ThankedMovesModel"
def TX7 : u_T := fun k => match k with
  | 0 => ("ThankedMovesModel", "a", "[I", true)
  | 1 => ("ThankedMovesModel", "image", "[I", true)
  | 2 => ("ThankedMovesModel", "texts", "[I", true)
  | 3 => ("ThankedMovesModel", "tape", "[I", true)
  | 4 => ("ThankedMovesModel", "taped", "I", false)
  | 5 => ("ThankedMovesModel", "fault", "I", false)
  | 6 => ("ThankedMovesModel", "faultPlace", "I", false)
  | 7 => ("ThankedMovesModel", "at", "I", false)
  | 8 => ("ThankedMovesModel", "place", "I", false)
  | 9 => ("ThankedMovesModel", "token", "I", false)
  | 10 => ("ThankedMovesModel", "number", "I", false)
  | 11 => ("ThankedMovesModel", "word", "J", false)
  | 12 => ("ThankedMovesModel", "text0", "I", false)
  | 13 => ("ThankedMovesModel", "written", "I", false)
  | 14 => ("ThankedMovesModel", "sort0", "I", false)
  | 15 => ("ThankedMovesModel", "pile", "[I", true)
  | 16 => ("ThankedMovesModel", "piled", "I", false)
  | 17 => ("ThankedMovesModel", "opens", "I", false)
  | 18 => ("ThankedMovesModel", "isWhole", "Z", false)
  | 19 => ("ThankedMovesModel", "once", "I", false)
  | 20 => ("ThankedMovesModel", "named", "[I", true)
  | 21 => ("ThankedMovesModel", "values", "[J", true)
  | 22 => ("ThankedMovesModel", "truth", "[Z", true)
  | 23 => ("ThankedMovesModel", "isWritten", "Z", false)
  | 24 => ("ThankedMovesModel", "wentOff", "I", false)
  | 25 => ("ThankedMovesModel", "moved", "I", false)
  | 26 => ("ThankedMovesModel", "thanked", "I", false)
  | 27 => ("ThankedMovesModel", "aside", "[I", true)
  | 28 => ("ThankedMovesModel", "often", "[I", true)
  | 29 => ("ThankedMovesModel", "waveTimes", "I", false)
  | 30 => ("ThankedMovesModel", "waveHouses", "I", false)
  | 31 => ("ThankedMovesModel", "waveMoves", "I", false)
  | 32 => ("ThankedMovesModel", "kinds", "[I", true)
  | 33 => ("ThankedMovesModel", "order", "[I", true)
  | 34 => ("ThankedMovesModel", "bestOrder", "[I", true)
  | _ => ("ThankedMovesModel", "ordered", "I", false)
def tyX7 : Nat → FieldType := fun k => match k with
  | 0 => .array .int
  | 1 => .array .int
  | 2 => .array .int
  | 3 => .array .int
  | 4 => .int
  | 5 => .int
  | 6 => .int
  | 7 => .int
  | 8 => .int
  | 9 => .int
  | 10 => .int
  | 11 => .long
  | 12 => .int
  | 13 => .int
  | 14 => .int
  | 15 => .array .int
  | 16 => .int
  | 17 => .int
  | 18 => .boolean
  | 19 => .int
  | 20 => .array .int
  | 21 => .array .long
  | 22 => .array .boolean
  | 23 => .boolean
  | 24 => .int
  | 25 => .int
  | 26 => .int
  | 27 => .array .int
  | 28 => .array .int
  | 29 => .int
  | 30 => .int
  | 31 => .int
  | 32 => .array .int
  | 33 => .array .int
  | 34 => .array .int
  | _ => .int
abbrev wsX70 : List Cond := u_ws RX7 TX7 36
theorem nmX7 : ∀ a, a < 36 → ∀ b, b < 36 → a ≠ b → (TX7 a).2.1 ≠ (TX7 b).2.1 := by decide +kernel
theorem tyX7_ok : ∀ k, k < 36 → parseFieldDescriptor (TX7 k).2.2.1 = some (tyX7 k) := by decide +kernel
abbrev cX7_init : ByteArray := prog_9_method_1_code
def yX7_init : MethodName := ⟨RX7, "<init>", "()V"⟩
abbrev cX7_copy : ByteArray := prog_9_method_2_code
def yX7_copy : MethodName := ⟨RX7, "copy", "([I[I)V"⟩
abbrev cX7_isIn : ByteArray := prog_9_method_3_code
def yX7_isIn : MethodName := ⟨RX7, "isIn", "(III)Z"⟩
abbrev cX7_cut : ByteArray := prog_9_method_4_code
def yX7_cut : MethodName := ⟨RX7, "cut", "(JII)I"⟩
abbrev cX7_size : ByteArray := prog_9_method_5_code
def yX7_size : MethodName := ⟨RX7, "size", "(I)I"⟩
abbrev cX7_has : ByteArray := prog_9_method_6_code
def yX7_has : MethodName := ⟨RX7, "has", "(II)Z"⟩
abbrev cX7_bits : ByteArray := prog_9_method_7_code
def yX7_bits : MethodName := ⟨RX7, "bits", "(I)I"⟩
abbrev cX7_isHouse : ByteArray := prog_9_method_8_code
def yX7_isHouse : MethodName := ⟨RX7, "isHouse", "(I)Z"⟩
abbrev cX7_isPerson : ByteArray := prog_9_method_9_code
def yX7_isPerson : MethodName := ⟨RX7, "isPerson", "(I)Z"⟩
abbrev cX7_peopleIn : ByteArray := prog_9_method_10_code
def yX7_peopleIn : MethodName := ⟨RX7, "peopleIn", "(I)I"⟩
abbrev cX7_kindOf : ByteArray := prog_9_method_11_code
def yX7_kindOf : MethodName := ⟨RX7, "kindOf", "(I)I"⟩
abbrev cX7_allKind : ByteArray := prog_9_method_12_code
def yX7_allKind : MethodName := ⟨RX7, "allKind", "()I"⟩
abbrev cX7_person : ByteArray := prog_9_method_13_code
def yX7_person : MethodName := ⟨RX7, "person", "(I)I"⟩
abbrev cX7_kind : ByteArray := prog_9_method_14_code
def yX7_kind : MethodName := ⟨RX7, "kind", "(II)Z"⟩
abbrev cX7_need : ByteArray := prog_9_method_15_code
def yX7_need : MethodName := ⟨RX7, "need", "(II)Z"⟩
abbrev cX7_four : ByteArray := prog_9_method_16_code
def yX7_four : MethodName := ⟨RX7, "four", "(I)V"⟩
abbrev cX7_feed : ByteArray := prog_9_method_17_code
def yX7_feed : MethodName := ⟨RX7, "feed", "(IIIII)I"⟩
abbrev cX7_end : ByteArray := prog_9_method_18_code
def yX7_end : MethodName := ⟨RX7, "end", "(I)I"⟩
abbrev cX7_byteAt : ByteArray := prog_9_method_19_code
def yX7_byteAt : MethodName := ⟨RX7, "byteAt", "(I)I"⟩
abbrev cX7_isLetterByte : ByteArray := prog_9_method_20_code
def yX7_isLetterByte : MethodName := ⟨RX7, "isLetterByte", "(I)Z"⟩
abbrev cX7_isFigure : ByteArray := prog_9_method_21_code
def yX7_isFigure : MethodName := ⟨RX7, "isFigure", "(I)Z"⟩
abbrev cX7_isSign : ByteArray := prog_9_method_22_code
def yX7_isSign : MethodName := ⟨RX7, "isSign", "(I)Z"⟩
abbrev cX7_nextToken : ByteArray := prog_9_method_23_code
def yX7_nextToken : MethodName := ⟨RX7, "nextToken", "()V"⟩
abbrev cX7_w2 : ByteArray := prog_9_method_24_code
def yX7_w2 : MethodName := ⟨RX7, "w2", "(II)J"⟩
abbrev cX7_w3 : ByteArray := prog_9_method_25_code
def yX7_w3 : MethodName := ⟨RX7, "w3", "(III)J"⟩
abbrev cX7_w4 : ByteArray := prog_9_method_26_code
def yX7_w4 : MethodName := ⟨RX7, "w4", "(IIII)J"⟩
abbrev cX7_w5 : ByteArray := prog_9_method_27_code
def yX7_w5 : MethodName := ⟨RX7, "w5", "(IIIII)J"⟩
abbrev cX7_w6 : ByteArray := prog_9_method_28_code
def yX7_w6 : MethodName := ⟨RX7, "w6", "(IIIIII)J"⟩
abbrev cX7_isWord : ByteArray := prog_9_method_29_code
def yX7_isWord : MethodName := ⟨RX7, "isWord", "(J)Z"⟩
abbrev cX7_emit : ByteArray := prog_9_method_30_code
def yX7_emit : MethodName := ⟨RX7, "emit", "(II)V"⟩
abbrev cX7_nameOf : ByteArray := prog_9_method_31_code
def yX7_nameOf : MethodName := ⟨RX7, "nameOf", "()I"⟩
abbrev cX7_isOf : ByteArray := prog_9_method_32_code
def yX7_isOf : MethodName := ⟨RX7, "isOf", "(I)Z"⟩
abbrev cX7_rank : ByteArray := prog_9_method_33_code
def yX7_rank : MethodName := ⟨RX7, "rank", "(I)I"⟩
abbrev cX7_settlePile : ByteArray := prog_9_method_34_code
def yX7_settlePile : MethodName := ⟨RX7, "settlePile", "(I)V"⟩
abbrev cX7_openAt : ByteArray := prog_9_method_35_code
def yX7_openAt : MethodName := ⟨RX7, "openAt", "()I"⟩
abbrev cX7_openNow : ByteArray := prog_9_method_36_code
def yX7_openNow : MethodName := ⟨RX7, "openNow", "()I"⟩
abbrev cX7_isCompared : ByteArray := prog_9_method_37_code
def yX7_isCompared : MethodName := ⟨RX7, "isCompared", "()Z"⟩
abbrev cX7_isAskAhead : ByteArray := prog_9_method_38_code
def yX7_isAskAhead : MethodName := ⟨RX7, "isAskAhead", "()Z"⟩
abbrev cX7_opened : ByteArray := prog_9_method_39_code
def yX7_opened : MethodName := ⟨RX7, "opened", "(I)I"⟩
abbrev cX7_beginOne : ByteArray := prog_9_method_40_code
def yX7_beginOne : MethodName := ⟨RX7, "beginOne", "()I"⟩
abbrev cX7_endOne : ByteArray := prog_9_method_41_code
def yX7_endOne : MethodName := ⟨RX7, "endOne", "()I"⟩
abbrev cX7_compareOf : ByteArray := prog_9_method_42_code
def yX7_compareOf : MethodName := ⟨RX7, "compareOf", "()I"⟩
abbrev cX7_betweenOf : ByteArray := prog_9_method_43_code
def yX7_betweenOf : MethodName := ⟨RX7, "betweenOf", "()I"⟩
abbrev cX7_partOf : ByteArray := prog_9_method_44_code
def yX7_partOf : MethodName := ⟨RX7, "partOf", "(I)I"⟩
abbrev cX7_behindOne : ByteArray := prog_9_method_45_code
def yX7_behindOne : MethodName := ⟨RX7, "behindOne", "()I"⟩
abbrev cX7_summed : ByteArray := prog_9_method_46_code
def yX7_summed : MethodName := ⟨RX7, "summed", "()I"⟩
abbrev cX7_figure : ByteArray := prog_9_method_47_code
def yX7_figure : MethodName := ⟨RX7, "figure", "(III)I"⟩
abbrev cX7_lawClause : ByteArray := prog_9_method_48_code
def yX7_lawClause : MethodName := ⟨RX7, "lawClause", "(I)I"⟩
abbrev cX7_atHouse : ByteArray := prog_9_method_49_code
def yX7_atHouse : MethodName := ⟨RX7, "atHouse", "(III)I"⟩
abbrev cX7_body : ByteArray := prog_9_method_50_code
def yX7_body : MethodName := ⟨RX7, "body", "(II)I"⟩
abbrev cX7_sortOf : ByteArray := prog_9_method_51_code
def yX7_sortOf : MethodName := ⟨RX7, "sortOf", "()I"⟩
abbrev cX7_clause : ByteArray := prog_9_method_52_code
def yX7_clause : MethodName := ⟨RX7, "clause", "()I"⟩
abbrev cX7_readText : ByteArray := prog_9_method_53_code
def yX7_readText : MethodName := ⟨RX7, "readText", "()I"⟩
abbrev cX7_text : ByteArray := prog_9_method_54_code
def yX7_text : MethodName := ⟨RX7, "text", "()I"⟩
abbrev cX7_fault : ByteArray := prog_9_method_55_code
def yX7_fault : MethodName := ⟨RX7, "fault", "(I)I"⟩
abbrev cX7_by : ByteArray := prog_9_method_56_code
def yX7_by : MethodName := ⟨RX7, "by", "(I)Z"⟩
abbrev cX7_clip : ByteArray := prog_9_method_57_code
def yX7_clip : MethodName := ⟨RX7, "clip", "(J)J"⟩
abbrev cX7_two : ByteArray := prog_9_method_58_code
def yX7_two : MethodName := ⟨RX7, "two", "(IJJ)J"⟩
abbrev cX7_isAsked : ByteArray := prog_9_method_59_code
def yX7_isAsked : MethodName := ⟨RX7, "isAsked", "(IJJ)Z"⟩
abbrev cX7_houseKind : ByteArray := prog_9_method_60_code
def yX7_houseKind : MethodName := ⟨RX7, "houseKind", "(J)J"⟩
abbrev cX7_joined : ByteArray := prog_9_method_61_code
def yX7_joined : MethodName := ⟨RX7, "joined", "(IZZ)Z"⟩
abbrev cX7_summedUp : ByteArray := prog_9_method_62_code
def yX7_summedUp : MethodName := ⟨RX7, "summedUp", "(II)J"⟩
abbrev cX7_says : ByteArray := prog_9_method_63_code
def yX7_says : MethodName := ⟨RX7, "says", "(III)I"⟩
abbrev cX7_name : ByteArray := prog_9_method_64_code
def yX7_name : MethodName := ⟨RX7, "name", "(I)V"⟩
abbrev cX7_holdsOf : ByteArray := prog_9_method_65_code
def yX7_holdsOf : MethodName := ⟨RX7, "holdsOf", "(II)I"⟩
abbrev cX7_giftsOf : ByteArray := prog_9_method_66_code
def yX7_giftsOf : MethodName := ⟨RX7, "giftsOf", "(I)I"⟩
abbrev cX7_write : ByteArray := prog_9_method_67_code
def yX7_write : MethodName := ⟨RX7, "write", "(II)V"⟩
abbrev cX7_drawnBy : ByteArray := prog_9_method_68_code
def yX7_drawnBy : MethodName := ⟨RX7, "drawnBy", "(I)I"⟩
abbrev cX7_anew : ByteArray := prog_9_method_69_code
def yX7_anew : MethodName := ⟨RX7, "anew", "()V"⟩
abbrev cX7_canThank : ByteArray := prog_9_method_70_code
def yX7_canThank : MethodName := ⟨RX7, "canThank", "(I)Z"⟩
abbrev cX7_hand : ByteArray := prog_9_method_71_code
def yX7_hand : MethodName := ⟨RX7, "hand", "(I)V"⟩
abbrev cX7_thankNow : ByteArray := prog_9_method_72_code
def yX7_thankNow : MethodName := ⟨RX7, "thankNow", "(I)V"⟩
abbrev cX7_readyHouse : ByteArray := prog_9_method_73_code
def yX7_readyHouse : MethodName := ⟨RX7, "readyHouse", "()I"⟩
abbrev cX7_settleNow : ByteArray := prog_9_method_74_code
def yX7_settleNow : MethodName := ⟨RX7, "settleNow", "()I"⟩
abbrev cX7_canGood : ByteArray := prog_9_method_75_code
def yX7_canGood : MethodName := ⟨RX7, "canGood", "(II)Z"⟩
abbrev cX7_pass : ByteArray := prog_9_method_76_code
def yX7_pass : MethodName := ⟨RX7, "pass", "()V"⟩
abbrev cX7_keep : ByteArray := prog_9_method_77_code
def yX7_keep : MethodName := ⟨RX7, "keep", "()V"⟩
abbrev cX7_undo : ByteArray := prog_9_method_78_code
def yX7_undo : MethodName := ⟨RX7, "undo", "()I"⟩
abbrev cX7_good : ByteArray := prog_9_method_79_code
def yX7_good : MethodName := ⟨RX7, "good", "(II)Z"⟩
abbrev cX7_thank : ByteArray := prog_9_method_80_code
def yX7_thank : MethodName := ⟨RX7, "thank", "(I)Z"⟩
abbrev cX7_settle : ByteArray := prog_9_method_81_code
def yX7_settle : MethodName := ⟨RX7, "settle", "()I"⟩
abbrev cX7_arePassed : ByteArray := prog_9_method_82_code
def yX7_arePassed : MethodName := ⟨RX7, "arePassed", "(I)Z"⟩
abbrev cX7_night : ByteArray := prog_9_method_83_code
def yX7_night : MethodName := ⟨RX7, "night", "(I)I"⟩
abbrev cX7_isPlayed : ByteArray := prog_9_method_84_code
def yX7_isPlayed : MethodName := ⟨RX7, "isPlayed", "(I)Z"⟩
abbrev cX7_played : ByteArray := prog_9_method_85_code
def yX7_played : MethodName := ⟨RX7, "played", "(I)I"⟩
abbrev cX7_happens : ByteArray := prog_9_method_86_code
def yX7_happens : MethodName := ⟨RX7, "happens", "(I)V"⟩
abbrev cX7_years : ByteArray := prog_9_method_87_code
def yX7_years : MethodName := ⟨RX7, "years", "(II)I"⟩
abbrev cX7_of : ByteArray := prog_9_method_88_code
def yX7_of : MethodName := ⟨RX7, "of", "(II)I"⟩
abbrev cX7_ofPerson : ByteArray := prog_9_method_89_code
def yX7_ofPerson : MethodName := ⟨RX7, "ofPerson", "(I)I"⟩
abbrev cX7_is : ByteArray := prog_9_method_90_code
def yX7_is : MethodName := ⟨RX7, "is", "(I)I"⟩
abbrev cX7_entry : ByteArray := prog_9_method_91_code
def yX7_entry : MethodName := ⟨RX7, "entry", "(II)I"⟩
abbrev cX7_book : ByteArray := prog_9_method_92_code
def yX7_book : MethodName := ⟨RX7, "book", "(II)I"⟩
abbrev cX7_linesOf : ByteArray := prog_9_method_93_code
def yX7_linesOf : MethodName := ⟨RX7, "linesOf", "(I)I"⟩
abbrev cX7_ledger : ByteArray := prog_9_method_94_code
def yX7_ledger : MethodName := ⟨RX7, "ledger", "(I)I"⟩
abbrev cX7_travelled : ByteArray := prog_9_method_95_code
def yX7_travelled : MethodName := ⟨RX7, "travelled", "()I"⟩
abbrev cX7_ready : ByteArray := prog_9_method_96_code
def yX7_ready : MethodName := ⟨RX7, "ready", "()I"⟩
abbrev cX7_balance : ByteArray := prog_9_method_97_code
def yX7_balance : MethodName := ⟨RX7, "balance", "()I"⟩
abbrev cX7_middle : ByteArray := prog_9_method_98_code
def yX7_middle : MethodName := ⟨RX7, "middle", "()I"⟩
abbrev cX7_kindest : ByteArray := prog_9_method_99_code
def yX7_kindest : MethodName := ⟨RX7, "kindest", "()I"⟩
abbrev cX7_crowded : ByteArray := prog_9_method_100_code
def yX7_crowded : MethodName := ⟨RX7, "crowded", "()I"⟩
abbrev cX7_empty : ByteArray := prog_9_method_101_code
def yX7_empty : MethodName := ⟨RX7, "empty", "()I"⟩
abbrev cX7_besideOf : ByteArray := prog_9_method_102_code
def yX7_besideOf : MethodName := ⟨RX7, "besideOf", "(I)I"⟩
abbrev cX7_beside : ByteArray := prog_9_method_103_code
def yX7_beside : MethodName := ⟨RX7, "beside", "(I)I"⟩
abbrev cX7_alone : ByteArray := prog_9_method_104_code
def yX7_alone : MethodName := ⟨RX7, "alone", "()I"⟩
abbrev cX7_spread : ByteArray := prog_9_method_105_code
def yX7_spread : MethodName := ⟨RX7, "spread", "()I"⟩
abbrev cX7_sick : ByteArray := prog_9_method_106_code
def yX7_sick : MethodName := ⟨RX7, "sick", "()I"⟩
abbrev cX7_setAside : ByteArray := prog_9_method_107_code
def yX7_setAside : MethodName := ⟨RX7, "setAside", "()V"⟩
abbrev cX7_putBack : ByteArray := prog_9_method_108_code
def yX7_putBack : MethodName := ⟨RX7, "putBack", "()V"⟩
abbrev cX7_foretold : ByteArray := prog_9_method_109_code
def yX7_foretold : MethodName := ⟨RX7, "foretold", "(III)I"⟩
abbrev cX7_rest : ByteArray := prog_9_method_110_code
def yX7_rest : MethodName := ⟨RX7, "rest", "(II)I"⟩
abbrev cX7_layWave : ByteArray := prog_9_method_111_code
def yX7_layWave : MethodName := ⟨RX7, "layWave", "(II)V"⟩
abbrev cX7_wave : ByteArray := prog_9_method_112_code
def yX7_wave : MethodName := ⟨RX7, "wave", "(I)I"⟩
abbrev cX7_greatest : ByteArray := prog_9_method_113_code
def yX7_greatest : MethodName := ⟨RX7, "greatest", "(Z)I"⟩
abbrev cX7_reached : ByteArray := prog_9_method_114_code
def yX7_reached : MethodName := ⟨RX7, "reached", "(I)I"⟩
abbrev cX7_waves : ByteArray := prog_9_method_115_code
def yX7_waves : MethodName := ⟨RX7, "waves", "(II)I"⟩
abbrev cX7_mover : ByteArray := prog_9_method_116_code
def yX7_mover : MethodName := ⟨RX7, "mover", "(Z)I"⟩
abbrev cX7_goOne : ByteArray := prog_9_method_117_code
def yX7_goOne : MethodName := ⟨RX7, "goOne", "(I)V"⟩
abbrev cX7_until : ByteArray := prog_9_method_118_code
def yX7_until : MethodName := ⟨RX7, "until", "(II)I"⟩
abbrev cX7_isAsAt : ByteArray := prog_9_method_119_code
def yX7_isAsAt : MethodName := ⟨RX7, "isAsAt", "(I)Z"⟩
abbrev cX7_noteAt : ByteArray := prog_9_method_120_code
def yX7_noteAt : MethodName := ⟨RX7, "noteAt", "(I)V"⟩
abbrev cX7_again : ByteArray := prog_9_method_121_code
def yX7_again : MethodName := ⟨RX7, "again", "()Z"⟩
abbrev cX7_period : ByteArray := prog_9_method_122_code
def yX7_period : MethodName := ⟨RX7, "period", "(IZ)I"⟩
abbrev cX7_isOffBy : ByteArray := prog_9_method_123_code
def yX7_isOffBy : MethodName := ⟨RX7, "isOffBy", "(III)Z"⟩
abbrev cX7_least : ByteArray := prog_9_method_124_code
def yX7_least : MethodName := ⟨RX7, "least", "(IZ)I"⟩
abbrev cX7_areDone : ByteArray := prog_9_method_125_code
def yX7_areDone : MethodName := ⟨RX7, "areDone", "(IIZ)Z"⟩
abbrev cX7_isMet : ByteArray := prog_9_method_126_code
def yX7_isMet : MethodName := ⟨RX7, "isMet", "(IIII)Z"⟩
abbrev cX7_meet : ByteArray := prog_9_method_127_code
def yX7_meet : MethodName := ⟨RX7, "meet", "(III)I"⟩
abbrev cX7_isDoneSo : ByteArray := prog_9_method_128_code
def yX7_isDoneSo : MethodName := ⟨RX7, "isDoneSo", "(II)Z"⟩
abbrev cX7_doers : ByteArray := prog_9_method_129_code
def yX7_doers : MethodName := ⟨RX7, "doers", "(Z)I"⟩
abbrev cX7_part : ByteArray := prog_9_method_130_code
def yX7_part : MethodName := ⟨RX7, "part", "(IIZ)I"⟩
abbrev cX7_isSo : ByteArray := prog_9_method_131_code
def yX7_isSo : MethodName := ⟨RX7, "isSo", "(III)Z"⟩
abbrev cX7_likelyBy : ByteArray := prog_9_method_132_code
def yX7_likelyBy : MethodName := ⟨RX7, "likelyBy", "(IIZ)I"⟩
abbrev cX7_likely : ByteArray := prog_9_method_133_code
def yX7_likely : MethodName := ⟨RX7, "likely", "(IIZ)I"⟩
abbrev cX7_off : ByteArray := prog_9_method_134_code
def yX7_off : MethodName := ⟨RX7, "off", "(IZ)I"⟩
abbrev cX7_isDue : ByteArray := prog_9_method_135_code
def yX7_isDue : MethodName := ⟨RX7, "isDue", "(II)Z"⟩
abbrev cX7_roundBy : ByteArray := prog_9_method_136_code
def yX7_roundBy : MethodName := ⟨RX7, "roundBy", "(II)I"⟩
abbrev cX7_isLower : ByteArray := prog_9_method_137_code
def yX7_isLower : MethodName := ⟨RX7, "isLower", "()Z"⟩
abbrev cX7_layRound : ByteArray := prog_9_method_138_code
def yX7_layRound : MethodName := ⟨RX7, "layRound", "(I)I"⟩
abbrev cX7_cart : ByteArray := prog_9_method_139_code
def yX7_cart : MethodName := ⟨RX7, "cart", "(I)I"⟩
abbrev cX7_round : ByteArray := prog_9_method_140_code
def yX7_round : MethodName := ⟨RX7, "round", "(II)I"⟩
abbrev cX7_said : ByteArray := prog_9_method_141_code
def yX7_said : MethodName := ⟨RX7, "said", "(II)I"⟩
abbrev cX7_whose : ByteArray := prog_9_method_142_code
def yX7_whose : MethodName := ⟨RX7, "whose", "()I"⟩
abbrev cX7_image : ByteArray := prog_9_method_143_code
def yX7_image : MethodName := ⟨RX7, "image", "()I"⟩
abbrev cX7_back : ByteArray := prog_9_method_144_code
def yX7_back : MethodName := ⟨RX7, "back", "()I"⟩
abbrev cX7_about : ByteArray := prog_9_method_145_code
def yX7_about : MethodName := ⟨RX7, "about", "(I)I"⟩
def RJ11 : String := "java/lang/Character"
def TJ11 : u_T := fun k => match k with
  | _ => ("", "", "", false)
def tyJ11 : Nat → FieldType := fun k => match k with
  | _ => .int
abbrev wsJ110 : List Cond := u_ws RJ11 TJ11 0
theorem nmJ11 : ∀ a, a < 0 → ∀ b, b < 0 → a ≠ b → (TJ11 a).2.1 ≠ (TJ11 b).2.1 := by decide +kernel
theorem tyJ11_ok : ∀ k, k < 0 → parseFieldDescriptor (TJ11 k).2.2.1 = some (tyJ11 k) := by decide +kernel
abbrev cJ11_isValidCodePoint_9a6ad : ByteArray := prog_10_method_11_code
def yJ11_isValidCodePoint_9a6ad : MethodName := ⟨RJ11, "isValidCodePoint", "(I)Z"⟩
abbrev cJ11_highSurrogate_5068e : ByteArray := prog_10_method_28_code
def yJ11_highSurrogate_5068e : MethodName := ⟨RJ11, "highSurrogate", "(I)C"⟩
abbrev cJ11_lowSurrogate_5068e : ByteArray := prog_10_method_29_code
def yJ11_lowSurrogate_5068e : MethodName := ⟨RJ11, "lowSurrogate", "(I)C"⟩
def RJ6 : String := "java/lang/Integer"
def TJ6 : u_T := fun k => match k with
  | _ => ("", "", "", false)
def tyJ6 : Nat → FieldType := fun k => match k with
  | _ => .int
abbrev wsJ60 : List Cond := u_ws RJ6 TJ6 0
theorem nmJ6 : ∀ a, a < 0 → ∀ b, b < 0 → a ≠ b → (TJ6 a).2.1 ≠ (TJ6 b).2.1 := by decide +kernel
theorem tyJ6_ok : ∀ k, k < 0 → parseFieldDescriptor (TJ6 k).2.2.1 = some (tyJ6 k) := by decide +kernel
abbrev cJ6_bitCount_0f7a4 : ByteArray := prog_11_method_49_code
def yJ6_bitCount_0f7a4 : MethodName := ⟨RJ6, "bitCount", "(I)I"⟩
def RJ9 : String := "java/lang/Math"
def TJ9 : u_T := fun k => match k with
  | _ => ("", "", "", false)
def tyJ9 : Nat → FieldType := fun k => match k with
  | _ => .int
abbrev wsJ90 : List Cond := u_ws RJ9 TJ9 0
theorem nmJ9 : ∀ a, a < 0 → ∀ b, b < 0 → a ≠ b → (TJ9 a).2.1 ≠ (TJ9 b).2.1 := by decide +kernel
theorem tyJ9_ok : ∀ k, k < 0 → parseFieldDescriptor (TJ9 k).2.2.1 = some (tyJ9 k) := by decide +kernel
abbrev cJ9_abs_0f7a4 : ByteArray := prog_12_method_59_code
def yJ9_abs_0f7a4 : MethodName := ⟨RJ9, "abs", "(I)I"⟩
abbrev cJ9_max_7cf53 : ByteArray := prog_12_method_65_code
def yJ9_max_7cf53 : MethodName := ⟨RJ9, "max", "(II)I"⟩
abbrev cJ9_max_f86c9 : ByteArray := prog_12_method_66_code
def yJ9_max_f86c9 : MethodName := ⟨RJ9, "max", "(JJ)J"⟩
abbrev cJ9_min_7cf53 : ByteArray := prog_12_method_69_code
def yJ9_min_7cf53 : MethodName := ⟨RJ9, "min", "(II)I"⟩
abbrev cJ9_min_f86c9 : ByteArray := prog_12_method_70_code
def yJ9_min_f86c9 : MethodName := ⟨RJ9, "min", "(JJ)J"⟩
def RJ0 : String := "java/lang/String"
def TJ0 : u_T := fun k => match k with
  | _ => ("", "", "", false)
def tyJ0 : Nat → FieldType := fun k => match k with
  | _ => .int
abbrev wsJ00 : List Cond := u_ws RJ0 TJ0 0
theorem nmJ0 : ∀ a, a < 0 → ∀ b, b < 0 → a ≠ b → (TJ0 a).2.1 ≠ (TJ0 b).2.1 := by decide +kernel
theorem tyJ0_ok : ∀ k, k < 0 → parseFieldDescriptor (TJ0 k).2.2.1 = some (tyJ0 k) := by decide +kernel
abbrev cJ0_length_8abf5 : ByteArray := prog_13_method_54_code
def yJ0_length_8abf5 : MethodName := ⟨RJ0, "length", "()I"⟩
abbrev cJ0_charAt_5068e : ByteArray := prog_13_method_56_code
def yJ0_charAt_5068e : MethodName := ⟨RJ0, "charAt", "(I)C"⟩
abbrev cJ0_indexOf_0f7a4 : ByteArray := prog_13_method_79_code
def yJ0_indexOf_0f7a4 : MethodName := ⟨RJ0, "indexOf", "(I)I"⟩
abbrev cJ0_indexOf_7cf53 : ByteArray := prog_13_method_80_code
def yJ0_indexOf_7cf53 : MethodName := ⟨RJ0, "indexOf", "(II)I"⟩
abbrev cJ0_coder_7d493 : ByteArray := prog_13_method_152_code
def yJ0_coder_7d493 : MethodName := ⟨RJ0, "coder", "()B"⟩
abbrev cJ0_isLatin1_aae02 : ByteArray := prog_13_method_154_code
def yJ0_isLatin1_aae02 : MethodName := ⟨RJ0, "isLatin1", "()Z"⟩
abbrev cJ0_checkIndex_df160 : ByteArray := prog_13_method_155_code
def yJ0_checkIndex_df160 : MethodName := ⟨RJ0, "checkIndex", "(II)V"⟩
abbrev cJ0_checkBoundsBeginEnd_23922 : ByteArray := prog_13_method_158_code
def yJ0_checkBoundsBeginEnd_23922 : MethodName := ⟨RJ0, "checkBoundsBeginEnd", "(III)V"⟩
def RJ1 : String := "java/lang/StringLatin1"
def TJ1 : u_T := fun k => match k with
  | _ => ("", "", "", false)
def tyJ1 : Nat → FieldType := fun k => match k with
  | _ => .int
abbrev wsJ10 : List Cond := u_ws RJ1 TJ1 0
theorem nmJ1 : ∀ a, a < 0 → ∀ b, b < 0 → a ≠ b → (TJ1 a).2.1 ≠ (TJ1 b).2.1 := by decide +kernel
theorem tyJ1_ok : ∀ k, k < 0 → parseFieldDescriptor (TJ1 k).2.2.1 = some (tyJ1 k) := by decide +kernel
abbrev cJ1_charAt_3b067 : ByteArray := prog_14_method_2_code
def yJ1_charAt_3b067 : MethodName := ⟨RJ1, "charAt", "([BI)C"⟩
abbrev cJ1_canEncode_9a6ad : ByteArray := prog_14_method_4_code
def yJ1_canEncode_9a6ad : MethodName := ⟨RJ1, "canEncode", "(I)Z"⟩
abbrev cJ1_indexOf_4cfef : ByteArray := prog_14_method_22_code
def yJ1_indexOf_4cfef : MethodName := ⟨RJ1, "indexOf", "([BIII)I"⟩
abbrev cJ1_indexOfChar_4cfef : ByteArray := prog_14_method_23_code
def yJ1_indexOfChar_4cfef : MethodName := ⟨RJ1, "indexOfChar", "([BIII)I"⟩
def RJ2 : String := "java/lang/StringUTF16"
def TJ2 : u_T := fun k => match k with
  | _ => ("", "", "", false)
def tyJ2 : Nat → FieldType := fun k => match k with
  | _ => .int
abbrev wsJ20 : List Cond := u_ws RJ2 TJ2 0
theorem nmJ2 : ∀ a, a < 0 → ∀ b, b < 0 → a ≠ b → (TJ2 a).2.1 ≠ (TJ2 b).2.1 := by decide +kernel
theorem tyJ2_ok : ∀ k, k < 0 → parseFieldDescriptor (TJ2 k).2.2.1 = some (tyJ2 k) := by decide +kernel
abbrev cJ2_getChar_3b067 : ByteArray := prog_15_method_5_code
def yJ2_getChar_3b067 : MethodName := ⟨RJ2, "getChar", "([BI)C"⟩
abbrev cJ2_length_9d52b : ByteArray := prog_15_method_6_code
def yJ2_length_9d52b : MethodName := ⟨RJ2, "length", "([B)I"⟩
abbrev cJ2_indexOf_4cfef : ByteArray := prog_15_method_40_code
def yJ2_indexOf_4cfef : MethodName := ⟨RJ2, "indexOf", "([BIII)I"⟩
abbrev cJ2_indexOfChar_4cfef : ByteArray := prog_15_method_47_code
def yJ2_indexOfChar_4cfef : MethodName := ⟨RJ2, "indexOfChar", "([BIII)I"⟩
abbrev cJ2_indexOfCharUnsafe_4cfef : ByteArray := prog_15_method_48_code
def yJ2_indexOfCharUnsafe_4cfef : MethodName := ⟨RJ2, "indexOfCharUnsafe", "([BIII)I"⟩
abbrev cJ2_indexOfSupplementary_4cfef : ByteArray := prog_15_method_49_code
def yJ2_indexOfSupplementary_4cfef : MethodName := ⟨RJ2, "indexOfSupplementary", "([BIII)I"⟩
abbrev cJ2_charAt_3b067 : ByteArray := prog_15_method_83_code
def yJ2_charAt_3b067 : MethodName := ⟨RJ2, "charAt", "([BI)C"⟩
abbrev cJ2_checkIndex_2214a : ByteArray := prog_15_method_91_code
def yJ2_checkIndex_2214a : MethodName := ⟨RJ2, "checkIndex", "(I[B)V"⟩
abbrev cJ2_checkBoundsBeginEnd_d044e : ByteArray := prog_15_method_93_code
def yJ2_checkBoundsBeginEnd_d044e : MethodName := ⟨RJ2, "checkBoundsBeginEnd", "(II[B)V"⟩
def RJ10 : String := "java/lang/System"
def TJ10 : u_T := fun k => match k with
  | _ => ("", "", "", false)
def tyJ10 : Nat → FieldType := fun k => match k with
  | _ => .int
abbrev wsJ100 : List Cond := u_ws RJ10 TJ10 0
theorem nmJ10 : ∀ a, a < 0 → ∀ b, b < 0 → a ≠ b → (TJ10 a).2.1 ≠ (TJ10 b).2.1 := by decide +kernel
theorem tyJ10_ok : ∀ k, k < 0 → parseFieldDescriptor (TJ10 k).2.2.1 = some (tyJ10 k) := by decide +kernel
def RJ3 : String := "jdk/internal/util/Preconditions"
def TJ3 : u_T := fun k => match k with
  | _ => ("", "", "", false)
def tyJ3 : Nat → FieldType := fun k => match k with
  | _ => .int
abbrev wsJ30 : List Cond := u_ws RJ3 TJ3 0
theorem nmJ3 : ∀ a, a < 0 → ∀ b, b < 0 → a ≠ b → (TJ3 a).2.1 ≠ (TJ3 b).2.1 := by decide +kernel
theorem tyJ3_ok : ∀ k, k < 0 → parseFieldDescriptor (TJ3 k).2.2.1 = some (tyJ3 k) := by decide +kernel
abbrev cJ3_checkIndex_8e157 : ByteArray := prog_17_method_11_code
def yJ3_checkIndex_8e157 : MethodName := ⟨RJ3, "checkIndex", "(IILjava/util/function/BiFunction;)I"⟩
abbrev cJ3_checkFromToIndex_8c36e : ByteArray := prog_17_method_12_code
def yJ3_checkFromToIndex_8c36e : MethodName := ⟨RJ3, "checkFromToIndex", "(IIILjava/util/function/BiFunction;)I"⟩
def RL : String := "ThankedMovesLaw"
abbrev cL_law : ByteArray := code
def yL_law : MethodName := ⟨RL, "law", "([I)Z"⟩
abbrev vwCl : List vw_C := [(RX0, TX0, 5), (RX1, TX1, 7), (RX2, TX2, 12), (RX3, TX3, 7), (RX4, TX4, 12), (RX5, TX5, 9), (RX6, TX6, 10), (RX7, TX7, 36)]
