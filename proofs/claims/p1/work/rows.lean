section
-- ===== PART A: goes FIRST, ahead of the names: the tables' words, and 'selects' of the private methods out of them =====
/-- a private method of a class that the tables say can be made, by its rows of tables_1 -/
def lw_okq (q : MethodName × Nat) : Prop := (q.1.cls ≠ "java/lang/invoke/MethodHandle" ∧ q.1.cls ≠ "java/lang/invoke/VarHandle") ∧ Cond.instantiable q.1.cls q.2 ∈ tables_1 ∧ Cond.privateMethod q.1 ∈ tables_1 ∧ Cond.instanceMethod q.1 ∈ tables_1
theorem lw_p0 : lw_okq (⟨"HalfDays", "answer", "(I)I"⟩, 6) := ⟨⟨by decide +kernel, by decide +kernel⟩, List.mem_of_getElem? (i := 19) (by decide +kernel), List.mem_of_getElem? (i := 549) (by decide +kernel), List.mem_of_getElem? (i := 550) (by decide +kernel)⟩
theorem lw_p1 : lw_okq (⟨"HalfDays$Rolls", "isListedWithin", "(IIII)Z"⟩, 6) := ⟨⟨by decide +kernel, by decide +kernel⟩, List.mem_of_getElem? (i := 97) (by decide +kernel), List.mem_of_getElem? (i := 604) (by decide +kernel), List.mem_of_getElem? (i := 605) (by decide +kernel)⟩
theorem lw_p2 : lw_okq (⟨"HalfDays", "markThatCounts", "(IIII)I"⟩, 6) := ⟨⟨by decide +kernel, by decide +kernel⟩, List.mem_of_getElem? (i := 19) (by decide +kernel), List.mem_of_getElem? (i := 661) (by decide +kernel), List.mem_of_getElem? (i := 662) (by decide +kernel)⟩
theorem lw_p3 : lw_okq (⟨"HalfDays$Asker", "strikeClauses", "(I)V"⟩, 19) := ⟨⟨by decide +kernel, by decide +kernel⟩, List.mem_of_getElem? (i := 399) (by decide +kernel), List.mem_of_getElem? (i := 683) (by decide +kernel), List.mem_of_getElem? (i := 684) (by decide +kernel)⟩
theorem lw_p4 : lw_okq (⟨"HalfDays$Asker", "isHolding", "(LHalfDays$Text;I)Z"⟩, 19) := ⟨⟨by decide +kernel, by decide +kernel⟩, List.mem_of_getElem? (i := 399) (by decide +kernel), List.mem_of_getElem? (i := 688) (by decide +kernel), List.mem_of_getElem? (i := 689) (by decide +kernel)⟩
theorem lw_p5 : lw_okq (⟨"HalfDays$Asker", "reckon", "([III)J"⟩, 19) := ⟨⟨by decide +kernel, by decide +kernel⟩, List.mem_of_getElem? (i := 399) (by decide +kernel), List.mem_of_getElem? (i := 692) (by decide +kernel), List.mem_of_getElem? (i := 693) (by decide +kernel)⟩
theorem lw_p6 : lw_okq (⟨"HalfDays$Asker", "wordsValue", "(I)I"⟩, 19) := ⟨⟨by decide +kernel, by decide +kernel⟩, List.mem_of_getElem? (i := 399) (by decide +kernel), List.mem_of_getElem? (i := 697) (by decide +kernel), List.mem_of_getElem? (i := 698) (by decide +kernel)⟩
theorem lw_p7 : lw_okq (⟨"HalfDays$Reader", "nextToken", "()V"⟩, 16) := ⟨⟨by decide +kernel, by decide +kernel⟩, List.mem_of_getElem? (i := 336) (by decide +kernel), List.mem_of_getElem? (i := 742) (by decide +kernel), List.mem_of_getElem? (i := 743) (by decide +kernel)⟩
theorem lw_p8 : lw_okq (⟨"HalfDays$Reader", "readHead", "()V"⟩, 16) := ⟨⟨by decide +kernel, by decide +kernel⟩, List.mem_of_getElem? (i := 336) (by decide +kernel), List.mem_of_getElem? (i := 747) (by decide +kernel), List.mem_of_getElem? (i := 748) (by decide +kernel)⟩
theorem lw_p9 : lw_okq (⟨"HalfDays$Reader", "takeLetter", "()I"⟩, 16) := ⟨⟨by decide +kernel, by decide +kernel⟩, List.mem_of_getElem? (i := 336) (by decide +kernel), List.mem_of_getElem? (i := 752) (by decide +kernel), List.mem_of_getElem? (i := 753) (by decide +kernel)⟩
theorem lw_p10 : lw_okq (⟨"HalfDays$Reader", "refuseToken", "()V"⟩, 16) := ⟨⟨by decide +kernel, by decide +kernel⟩, List.mem_of_getElem? (i := 336) (by decide +kernel), List.mem_of_getElem? (i := 756) (by decide +kernel), List.mem_of_getElem? (i := 757) (by decide +kernel)⟩
theorem lw_p11 : lw_okq (⟨"HalfDays$Reader", "takeKind", "()I"⟩, 16) := ⟨⟨by decide +kernel, by decide +kernel⟩, List.mem_of_getElem? (i := 336) (by decide +kernel), List.mem_of_getElem? (i := 760) (by decide +kernel), List.mem_of_getElem? (i := 761) (by decide +kernel)⟩
theorem lw_p12 : lw_okq (⟨"HalfDays$Reader", "wordAmong", "([J)I"⟩, 16) := ⟨⟨by decide +kernel, by decide +kernel⟩, List.mem_of_getElem? (i := 336) (by decide +kernel), List.mem_of_getElem? (i := 766) (by decide +kernel), List.mem_of_getElem? (i := 767) (by decide +kernel)⟩
theorem lw_p13 : lw_okq (⟨"HalfDays$Reader", "putHead", "(II)V"⟩, 16) := ⟨⟨by decide +kernel, by decide +kernel⟩, List.mem_of_getElem? (i := 336) (by decide +kernel), List.mem_of_getElem? (i := 770) (by decide +kernel), List.mem_of_getElem? (i := 771) (by decide +kernel)⟩
theorem lw_p14 : lw_okq (⟨"HalfDays$Reader", "readStepHead", "(IJ)V"⟩, 16) := ⟨⟨by decide +kernel, by decide +kernel⟩, List.mem_of_getElem? (i := 336) (by decide +kernel), List.mem_of_getElem? (i := 776) (by decide +kernel), List.mem_of_getElem? (i := 777) (by decide +kernel)⟩
theorem lw_p15 : lw_okq (⟨"HalfDays$Reader", "takeNumber", "(II)I"⟩, 16) := ⟨⟨by decide +kernel, by decide +kernel⟩, List.mem_of_getElem? (i := 336) (by decide +kernel), List.mem_of_getElem? (i := 780) (by decide +kernel), List.mem_of_getElem? (i := 781) (by decide +kernel)⟩
def lw_privs_1 : List (MethodName × Nat) := [(⟨"HalfDays", "answer", "(I)I"⟩, 6), (⟨"HalfDays$Rolls", "isListedWithin", "(IIII)Z"⟩, 6), (⟨"HalfDays", "markThatCounts", "(IIII)I"⟩, 6), (⟨"HalfDays$Asker", "strikeClauses", "(I)V"⟩, 19), (⟨"HalfDays$Asker", "isHolding", "(LHalfDays$Text;I)Z"⟩, 19), (⟨"HalfDays$Asker", "reckon", "([III)J"⟩, 19), (⟨"HalfDays$Asker", "wordsValue", "(I)I"⟩, 19), (⟨"HalfDays$Reader", "nextToken", "()V"⟩, 16), (⟨"HalfDays$Reader", "readHead", "()V"⟩, 16), (⟨"HalfDays$Reader", "takeLetter", "()I"⟩, 16), (⟨"HalfDays$Reader", "refuseToken", "()V"⟩, 16), (⟨"HalfDays$Reader", "takeKind", "()I"⟩, 16), (⟨"HalfDays$Reader", "wordAmong", "([J)I"⟩, 16), (⟨"HalfDays$Reader", "putHead", "(II)V"⟩, 16), (⟨"HalfDays$Reader", "readStepHead", "(IJ)V"⟩, 16), (⟨"HalfDays$Reader", "takeNumber", "(II)I"⟩, 16)]
theorem lw_r1 : ∀ q ∈ lw_privs_1, lw_okq q := List.forall_mem_cons.mpr ⟨lw_p0, List.forall_mem_cons.mpr ⟨lw_p1, List.forall_mem_cons.mpr ⟨lw_p2, List.forall_mem_cons.mpr ⟨lw_p3, List.forall_mem_cons.mpr ⟨lw_p4, List.forall_mem_cons.mpr ⟨lw_p5, List.forall_mem_cons.mpr ⟨lw_p6, List.forall_mem_cons.mpr ⟨lw_p7, List.forall_mem_cons.mpr ⟨lw_p8, List.forall_mem_cons.mpr ⟨lw_p9, List.forall_mem_cons.mpr ⟨lw_p10, List.forall_mem_cons.mpr ⟨lw_p11, List.forall_mem_cons.mpr ⟨lw_p12, List.forall_mem_cons.mpr ⟨lw_p13, List.forall_mem_cons.mpr ⟨lw_p14, List.forall_mem_cons.mpr ⟨lw_p15, fun _ h => absurd h List.not_mem_nil⟩⟩⟩⟩⟩⟩⟩⟩⟩⟩⟩⟩⟩⟩⟩⟩
theorem lw_p16 : lw_okq (⟨"HalfDays$Reader", "readSum", "(I)V"⟩, 16) := ⟨⟨by decide +kernel, by decide +kernel⟩, List.mem_of_getElem? (i := 336) (by decide +kernel), List.mem_of_getElem? (i := 785) (by decide +kernel), List.mem_of_getElem? (i := 786) (by decide +kernel)⟩
theorem lw_p17 : lw_okq (⟨"HalfDays$Reader", "readPart", "(I)V"⟩, 16) := ⟨⟨by decide +kernel, by decide +kernel⟩, List.mem_of_getElem? (i := 336) (by decide +kernel), List.mem_of_getElem? (i := 789) (by decide +kernel), List.mem_of_getElem? (i := 790) (by decide +kernel)⟩
theorem lw_p18 : lw_okq (⟨"HalfDays$Reader", "readLeaf", "(II)V"⟩, 16) := ⟨⟨by decide +kernel, by decide +kernel⟩, List.mem_of_getElem? (i := 336) (by decide +kernel), List.mem_of_getElem? (i := 795) (by decide +kernel), List.mem_of_getElem? (i := 796) (by decide +kernel)⟩
theorem lw_p19 : lw_okq (⟨"HalfDays$Reader", "emit", "(II)V"⟩, 16) := ⟨⟨by decide +kernel, by decide +kernel⟩, List.mem_of_getElem? (i := 336) (by decide +kernel), List.mem_of_getElem? (i := 799) (by decide +kernel), List.mem_of_getElem? (i := 800) (by decide +kernel)⟩
theorem lw_p20 : lw_okq (⟨"HalfDays$Reader", "isSign", "(I)Z"⟩, 16) := ⟨⟨by decide +kernel, by decide +kernel⟩, List.mem_of_getElem? (i := 336) (by decide +kernel), List.mem_of_getElem? (i := 803) (by decide +kernel), List.mem_of_getElem? (i := 804) (by decide +kernel)⟩
theorem lw_p21 : lw_okq (⟨"HalfDays$Reader", "closeBracket", "(I)V"⟩, 16) := ⟨⟨by decide +kernel, by decide +kernel⟩, List.mem_of_getElem? (i := 336) (by decide +kernel), List.mem_of_getElem? (i := 807) (by decide +kernel), List.mem_of_getElem? (i := 808) (by decide +kernel)⟩
theorem lw_p22 : lw_okq (⟨"HalfDays$Reader", "takeWord", "(J)V"⟩, 16) := ⟨⟨by decide +kernel, by decide +kernel⟩, List.mem_of_getElem? (i := 336) (by decide +kernel), List.mem_of_getElem? (i := 811) (by decide +kernel), List.mem_of_getElem? (i := 812) (by decide +kernel)⟩
theorem lw_p23 : lw_okq (⟨"HalfDays$Reader", "readTest", "(I)V"⟩, 16) := ⟨⟨by decide +kernel, by decide +kernel⟩, List.mem_of_getElem? (i := 336) (by decide +kernel), List.mem_of_getElem? (i := 822) (by decide +kernel), List.mem_of_getElem? (i := 823) (by decide +kernel)⟩
theorem lw_p24 : lw_okq (⟨"HalfDays$Reader", "readPlain", "(I)V"⟩, 16) := ⟨⟨by decide +kernel, by decide +kernel⟩, List.mem_of_getElem? (i := 336) (by decide +kernel), List.mem_of_getElem? (i := 826) (by decide +kernel), List.mem_of_getElem? (i := 827) (by decide +kernel)⟩
theorem lw_p25 : lw_okq (⟨"HalfDays$Reader", "landJump", "(I)V"⟩, 16) := ⟨⟨by decide +kernel, by decide +kernel⟩, List.mem_of_getElem? (i := 336) (by decide +kernel), List.mem_of_getElem? (i := 833) (by decide +kernel), List.mem_of_getElem? (i := 834) (by decide +kernel)⟩
theorem lw_p26 : lw_okq (⟨"HalfDays$Asker", "awayWithin", "(II)I"⟩, 19) := ⟨⟨by decide +kernel, by decide +kernel⟩, List.mem_of_getElem? (i := 399) (by decide +kernel), List.mem_of_getElem? (i := 947) (by decide +kernel), List.mem_of_getElem? (i := 948) (by decide +kernel)⟩
theorem lw_p27 : lw_okq (⟨"HalfDays$Choices", "noteLikeness", "(I)V"⟩, 14) := ⟨⟨by decide +kernel, by decide +kernel⟩, List.mem_of_getElem? (i := 465) (by decide +kernel), List.mem_of_getElem? (i := 1033) (by decide +kernel), List.mem_of_getElem? (i := 1034) (by decide +kernel)⟩
theorem lw_p28 : lw_okq (⟨"HalfDays$Choices", "weighJoins", "(II)V"⟩, 14) := ⟨⟨by decide +kernel, by decide +kernel⟩, List.mem_of_getElem? (i := 465) (by decide +kernel), List.mem_of_getElem? (i := 1040) (by decide +kernel), List.mem_of_getElem? (i := 1041) (by decide +kernel)⟩
theorem lw_p29 : lw_okq (⟨"HalfDays$Choices", "scoreWith", "(III)I"⟩, 14) := ⟨⟨by decide +kernel, by decide +kernel⟩, List.mem_of_getElem? (i := 465) (by decide +kernel), List.mem_of_getElem? (i := 1044) (by decide +kernel), List.mem_of_getElem? (i := 1045) (by decide +kernel)⟩
theorem lw_p30 : lw_okq (⟨"HalfDays$Choices", "keepFirstBest", "()V"⟩, 14) := ⟨⟨by decide +kernel, by decide +kernel⟩, List.mem_of_getElem? (i := 465) (by decide +kernel), List.mem_of_getElem? (i := 1048) (by decide +kernel), List.mem_of_getElem? (i := 1049) (by decide +kernel)⟩
theorem lw_p31 : lw_okq (⟨"HalfDays$Choices", "noteWays", "(II)V"⟩, 14) := ⟨⟨by decide +kernel, by decide +kernel⟩, List.mem_of_getElem? (i := 465) (by decide +kernel), List.mem_of_getElem? (i := 1088) (by decide +kernel), List.mem_of_getElem? (i := 1089) (by decide +kernel)⟩
def lw_privs_2 : List (MethodName × Nat) := [(⟨"HalfDays$Reader", "readSum", "(I)V"⟩, 16), (⟨"HalfDays$Reader", "readPart", "(I)V"⟩, 16), (⟨"HalfDays$Reader", "readLeaf", "(II)V"⟩, 16), (⟨"HalfDays$Reader", "emit", "(II)V"⟩, 16), (⟨"HalfDays$Reader", "isSign", "(I)Z"⟩, 16), (⟨"HalfDays$Reader", "closeBracket", "(I)V"⟩, 16), (⟨"HalfDays$Reader", "takeWord", "(J)V"⟩, 16), (⟨"HalfDays$Reader", "readTest", "(I)V"⟩, 16), (⟨"HalfDays$Reader", "readPlain", "(I)V"⟩, 16), (⟨"HalfDays$Reader", "landJump", "(I)V"⟩, 16), (⟨"HalfDays$Asker", "awayWithin", "(II)I"⟩, 19), (⟨"HalfDays$Choices", "noteLikeness", "(I)V"⟩, 14), (⟨"HalfDays$Choices", "weighJoins", "(II)V"⟩, 14), (⟨"HalfDays$Choices", "scoreWith", "(III)I"⟩, 14), (⟨"HalfDays$Choices", "keepFirstBest", "()V"⟩, 14), (⟨"HalfDays$Choices", "noteWays", "(II)V"⟩, 14)]
theorem lw_r2 : ∀ q ∈ lw_privs_2, lw_okq q := List.forall_mem_cons.mpr ⟨lw_p16, List.forall_mem_cons.mpr ⟨lw_p17, List.forall_mem_cons.mpr ⟨lw_p18, List.forall_mem_cons.mpr ⟨lw_p19, List.forall_mem_cons.mpr ⟨lw_p20, List.forall_mem_cons.mpr ⟨lw_p21, List.forall_mem_cons.mpr ⟨lw_p22, List.forall_mem_cons.mpr ⟨lw_p23, List.forall_mem_cons.mpr ⟨lw_p24, List.forall_mem_cons.mpr ⟨lw_p25, List.forall_mem_cons.mpr ⟨lw_p26, List.forall_mem_cons.mpr ⟨lw_p27, List.forall_mem_cons.mpr ⟨lw_p28, List.forall_mem_cons.mpr ⟨lw_p29, List.forall_mem_cons.mpr ⟨lw_p30, List.forall_mem_cons.mpr ⟨lw_p31, fun _ h => absurd h List.not_mem_nil⟩⟩⟩⟩⟩⟩⟩⟩⟩⟩⟩⟩⟩⟩⟩⟩
theorem lw_p32 : lw_okq (⟨"HalfDays$Choices", "wayFrom", "(III)I"⟩, 14) := ⟨⟨by decide +kernel, by decide +kernel⟩, List.mem_of_getElem? (i := 465) (by decide +kernel), List.mem_of_getElem? (i := 1092) (by decide +kernel), List.mem_of_getElem? (i := 1093) (by decide +kernel)⟩
theorem lw_p33 : lw_okq (⟨"HalfDays$Choices", "fewestMinutes", "(I)I"⟩, 14) := ⟨⟨by decide +kernel, by decide +kernel⟩, List.mem_of_getElem? (i := 465) (by decide +kernel), List.mem_of_getElem? (i := 1099) (by decide +kernel), List.mem_of_getElem? (i := 1100) (by decide +kernel)⟩
theorem lw_p34 : lw_okq (⟨"HalfDays$Choices", "worthOf", "(I)I"⟩, 14) := ⟨⟨by decide +kernel, by decide +kernel⟩, List.mem_of_getElem? (i := 465) (by decide +kernel), List.mem_of_getElem? (i := 1105) (by decide +kernel), List.mem_of_getElem? (i := 1106) (by decide +kernel)⟩
theorem lw_p35 : lw_okq (⟨"HalfDays$Marks", "sumDay", "(I)I"⟩, 15) := ⟨⟨by decide +kernel, by decide +kernel⟩, List.mem_of_getElem? (i := 126) (by decide +kernel), List.mem_of_getElem? (i := 1164) (by decide +kernel), List.mem_of_getElem? (i := 1165) (by decide +kernel)⟩
theorem lw_p36 : lw_okq (⟨"HalfDays$Marks", "numberOf", "(I)I"⟩, 15) := ⟨⟨by decide +kernel, by decide +kernel⟩, List.mem_of_getElem? (i := 126) (by decide +kernel), List.mem_of_getElem? (i := 1168) (by decide +kernel), List.mem_of_getElem? (i := 1169) (by decide +kernel)⟩
theorem lw_p37 : lw_okq (⟨"HalfDays$Marks", "markAtPlace", "(II)I"⟩, 15) := ⟨⟨by decide +kernel, by decide +kernel⟩, List.mem_of_getElem? (i := 126) (by decide +kernel), List.mem_of_getElem? (i := 1188) (by decide +kernel), List.mem_of_getElem? (i := 1189) (by decide +kernel)⟩
theorem lw_p38 : lw_okq (⟨"HalfDaysModel", "told", "(I)I"⟩, 56) := ⟨⟨by decide +kernel, by decide +kernel⟩, List.mem_of_getElem? (i := 1246) (by decide +kernel), List.mem_of_getElem? (i := 1430) (by decide +kernel), List.mem_of_getElem? (i := 1431) (by decide +kernel)⟩
theorem lw_p39 : lw_okq (⟨"HalfDaysModel", "addFour", "(IIIII)V"⟩, 56) := ⟨⟨by decide +kernel, by decide +kernel⟩, List.mem_of_getElem? (i := 1246) (by decide +kernel), List.mem_of_getElem? (i := 1450) (by decide +kernel), List.mem_of_getElem? (i := 1451) (by decide +kernel)⟩
theorem lw_p40 : lw_okq (⟨"HalfDaysModel", "isSchool", "(I)Z"⟩, 56) := ⟨⟨by decide +kernel, by decide +kernel⟩, List.mem_of_getElem? (i := 1246) (by decide +kernel), List.mem_of_getElem? (i := 1466) (by decide +kernel), List.mem_of_getElem? (i := 1467) (by decide +kernel)⟩
theorem lw_p41 : lw_okq (⟨"HalfDaysModel", "isChild", "(I)Z"⟩, 56) := ⟨⟨by decide +kernel, by decide +kernel⟩, List.mem_of_getElem? (i := 1246) (by decide +kernel), List.mem_of_getElem? (i := 1474) (by decide +kernel), List.mem_of_getElem? (i := 1475) (by decide +kernel)⟩
theorem lw_p42 : lw_okq (⟨"HalfDaysModel", "isOnRoll", "(II)Z"⟩, 56) := ⟨⟨by decide +kernel, by decide +kernel⟩, List.mem_of_getElem? (i := 1246) (by decide +kernel), List.mem_of_getElem? (i := 1478) (by decide +kernel), List.mem_of_getElem? (i := 1479) (by decide +kernel)⟩
theorem lw_p43 : lw_okq (⟨"HalfDaysModel", "isOnSchool", "(III)Z"⟩, 56) := ⟨⟨by decide +kernel, by decide +kernel⟩, List.mem_of_getElem? (i := 1246) (by decide +kernel), List.mem_of_getElem? (i := 1490) (by decide +kernel), List.mem_of_getElem? (i := 1491) (by decide +kernel)⟩
theorem lw_p44 : lw_okq (⟨"HalfDaysModel", "hasFailed", "(II)Z"⟩, 56) := ⟨⟨by decide +kernel, by decide +kernel⟩, List.mem_of_getElem? (i := 1246) (by decide +kernel), List.mem_of_getElem? (i := 1502) (by decide +kernel), List.mem_of_getElem? (i := 1503) (by decide +kernel)⟩
theorem lw_p45 : lw_okq (⟨"HalfDaysModel", "isMark", "(I)Z"⟩, 56) := ⟨⟨by decide +kernel, by decide +kernel⟩, List.mem_of_getElem? (i := 1246) (by decide +kernel), List.mem_of_getElem? (i := 1523) (by decide +kernel), List.mem_of_getElem? (i := 1524) (by decide +kernel)⟩
theorem lw_p46 : lw_okq (⟨"HalfDaysModel", "knowBy", "(I)V"⟩, 56) := ⟨⟨by decide +kernel, by decide +kernel⟩, List.mem_of_getElem? (i := 1246) (by decide +kernel), List.mem_of_getElem? (i := 1532) (by decide +kernel), List.mem_of_getElem? (i := 1533) (by decide +kernel)⟩
theorem lw_p47 : lw_okq (⟨"HalfDaysModel", "findKinds", "()V"⟩, 56) := ⟨⟨by decide +kernel, by decide +kernel⟩, List.mem_of_getElem? (i := 1246) (by decide +kernel), List.mem_of_getElem? (i := 1536) (by decide +kernel), List.mem_of_getElem? (i := 1537) (by decide +kernel)⟩
def lw_privs_3 : List (MethodName × Nat) := [(⟨"HalfDays$Choices", "wayFrom", "(III)I"⟩, 14), (⟨"HalfDays$Choices", "fewestMinutes", "(I)I"⟩, 14), (⟨"HalfDays$Choices", "worthOf", "(I)I"⟩, 14), (⟨"HalfDays$Marks", "sumDay", "(I)I"⟩, 15), (⟨"HalfDays$Marks", "numberOf", "(I)I"⟩, 15), (⟨"HalfDays$Marks", "markAtPlace", "(II)I"⟩, 15), (⟨"HalfDaysModel", "told", "(I)I"⟩, 56), (⟨"HalfDaysModel", "addFour", "(IIIII)V"⟩, 56), (⟨"HalfDaysModel", "isSchool", "(I)Z"⟩, 56), (⟨"HalfDaysModel", "isChild", "(I)Z"⟩, 56), (⟨"HalfDaysModel", "isOnRoll", "(II)Z"⟩, 56), (⟨"HalfDaysModel", "isOnSchool", "(III)Z"⟩, 56), (⟨"HalfDaysModel", "hasFailed", "(II)Z"⟩, 56), (⟨"HalfDaysModel", "isMark", "(I)Z"⟩, 56), (⟨"HalfDaysModel", "knowBy", "(I)V"⟩, 56), (⟨"HalfDaysModel", "findKinds", "()V"⟩, 56)]
theorem lw_r3 : ∀ q ∈ lw_privs_3, lw_okq q := List.forall_mem_cons.mpr ⟨lw_p32, List.forall_mem_cons.mpr ⟨lw_p33, List.forall_mem_cons.mpr ⟨lw_p34, List.forall_mem_cons.mpr ⟨lw_p35, List.forall_mem_cons.mpr ⟨lw_p36, List.forall_mem_cons.mpr ⟨lw_p37, List.forall_mem_cons.mpr ⟨lw_p38, List.forall_mem_cons.mpr ⟨lw_p39, List.forall_mem_cons.mpr ⟨lw_p40, List.forall_mem_cons.mpr ⟨lw_p41, List.forall_mem_cons.mpr ⟨lw_p42, List.forall_mem_cons.mpr ⟨lw_p43, List.forall_mem_cons.mpr ⟨lw_p44, List.forall_mem_cons.mpr ⟨lw_p45, List.forall_mem_cons.mpr ⟨lw_p46, List.forall_mem_cons.mpr ⟨lw_p47, fun _ h => absurd h List.not_mem_nil⟩⟩⟩⟩⟩⟩⟩⟩⟩⟩⟩⟩⟩⟩⟩⟩
theorem lw_p48 : lw_okq (⟨"HalfDaysModel", "findForce", "(I)V"⟩, 56) := ⟨⟨by decide +kernel, by decide +kernel⟩, List.mem_of_getElem? (i := 1246) (by decide +kernel), List.mem_of_getElem? (i := 1540) (by decide +kernel), List.mem_of_getElem? (i := 1541) (by decide +kernel)⟩
theorem lw_p49 : lw_okq (⟨"HalfDaysModel", "setFor", "(II)V"⟩, 56) := ⟨⟨by decide +kernel, by decide +kernel⟩, List.mem_of_getElem? (i := 1246) (by decide +kernel), List.mem_of_getElem? (i := 1550) (by decide +kernel), List.mem_of_getElem? (i := 1551) (by decide +kernel)⟩
theorem lw_p50 : lw_okq (⟨"HalfDaysModel", "hasOn", "(III)Z"⟩, 56) := ⟨⟨by decide +kernel, by decide +kernel⟩, List.mem_of_getElem? (i := 1246) (by decide +kernel), List.mem_of_getElem? (i := 1554) (by decide +kernel), List.mem_of_getElem? (i := 1555) (by decide +kernel)⟩
theorem lw_p51 : lw_okq (⟨"HalfDaysModel", "find", "(III)Z"⟩, 56) := ⟨⟨by decide +kernel, by decide +kernel⟩, List.mem_of_getElem? (i := 1246) (by decide +kernel), List.mem_of_getElem? (i := 1558) (by decide +kernel), List.mem_of_getElem? (i := 1559) (by decide +kernel)⟩
theorem lw_p52 : lw_okq (⟨"HalfDaysModel", "isSo", "(II)Z"⟩, 56) := ⟨⟨by decide +kernel, by decide +kernel⟩, List.mem_of_getElem? (i := 1246) (by decide +kernel), List.mem_of_getElem? (i := 1562) (by decide +kernel), List.mem_of_getElem? (i := 1563) (by decide +kernel)⟩
theorem lw_p53 : lw_okq (⟨"HalfDaysModel", "run", "(III)V"⟩, 56) := ⟨⟨by decide +kernel, by decide +kernel⟩, List.mem_of_getElem? (i := 1246) (by decide +kernel), List.mem_of_getElem? (i := 1566) (by decide +kernel), List.mem_of_getElem? (i := 1567) (by decide +kernel)⟩
theorem lw_p54 : lw_okq (⟨"HalfDaysModel", "reckon", "(IJJ)J"⟩, 56) := ⟨⟨by decide +kernel, by decide +kernel⟩, List.mem_of_getElem? (i := 1246) (by decide +kernel), List.mem_of_getElem? (i := 1570) (by decide +kernel), List.mem_of_getElem? (i := 1571) (by decide +kernel)⟩
theorem lw_p55 : lw_okq (⟨"HalfDaysModel", "countsIn", "(III)I"⟩, 56) := ⟨⟨by decide +kernel, by decide +kernel⟩, List.mem_of_getElem? (i := 1246) (by decide +kernel), List.mem_of_getElem? (i := 1576) (by decide +kernel), List.mem_of_getElem? (i := 1577) (by decide +kernel)⟩
theorem lw_p56 : lw_okq (⟨"HalfDaysModel", "four", "(I)V"⟩, 56) := ⟨⟨by decide +kernel, by decide +kernel⟩, List.mem_of_getElem? (i := 1246) (by decide +kernel), List.mem_of_getElem? (i := 1588) (by decide +kernel), List.mem_of_getElem? (i := 1589) (by decide +kernel)⟩
theorem lw_p57 : lw_okq (⟨"HalfDaysModel", "readText", "(I)Z"⟩, 56) := ⟨⟨by decide +kernel, by decide +kernel⟩, List.mem_of_getElem? (i := 1246) (by decide +kernel), List.mem_of_getElem? (i := 1604) (by decide +kernel), List.mem_of_getElem? (i := 1605) (by decide +kernel)⟩
theorem lw_p58 : lw_okq (⟨"HalfDaysModel", "begin", "()V"⟩, 56) := ⟨⟨by decide +kernel, by decide +kernel⟩, List.mem_of_getElem? (i := 1246) (by decide +kernel), List.mem_of_getElem? (i := 1608) (by decide +kernel), List.mem_of_getElem? (i := 1609) (by decide +kernel)⟩
theorem lw_p59 : lw_okq (⟨"HalfDaysModel", "next", "()V"⟩, 56) := ⟨⟨by decide +kernel, by decide +kernel⟩, List.mem_of_getElem? (i := 1246) (by decide +kernel), List.mem_of_getElem? (i := 1612) (by decide +kernel), List.mem_of_getElem? (i := 1613) (by decide +kernel)⟩
theorem lw_p60 : lw_okq (⟨"HalfDaysModel", "readClause", "()V"⟩, 56) := ⟨⟨by decide +kernel, by decide +kernel⟩, List.mem_of_getElem? (i := 1246) (by decide +kernel), List.mem_of_getElem? (i := 1627) (by decide +kernel), List.mem_of_getElem? (i := 1628) (by decide +kernel)⟩
theorem lw_p61 : lw_okq (⟨"HalfDaysModel", "headAt", "()I"⟩, 56) := ⟨⟨by decide +kernel, by decide +kernel⟩, List.mem_of_getElem? (i := 1246) (by decide +kernel), List.mem_of_getElem? (i := 1631) (by decide +kernel), List.mem_of_getElem? (i := 1632) (by decide +kernel)⟩
theorem lw_p62 : lw_okq (⟨"HalfDaysModel", "isWord", "(J)Z"⟩, 56) := ⟨⟨by decide +kernel, by decide +kernel⟩, List.mem_of_getElem? (i := 1246) (by decide +kernel), List.mem_of_getElem? (i := 1636) (by decide +kernel), List.mem_of_getElem? (i := 1637) (by decide +kernel)⟩
theorem lw_p63 : lw_okq (⟨"HalfDaysModel", "must", "(Z)V"⟩, 56) := ⟨⟨by decide +kernel, by decide +kernel⟩, List.mem_of_getElem? (i := 1246) (by decide +kernel), List.mem_of_getElem? (i := 1645) (by decide +kernel), List.mem_of_getElem? (i := 1646) (by decide +kernel)⟩
def lw_privs_4 : List (MethodName × Nat) := [(⟨"HalfDaysModel", "findForce", "(I)V"⟩, 56), (⟨"HalfDaysModel", "setFor", "(II)V"⟩, 56), (⟨"HalfDaysModel", "hasOn", "(III)Z"⟩, 56), (⟨"HalfDaysModel", "find", "(III)Z"⟩, 56), (⟨"HalfDaysModel", "isSo", "(II)Z"⟩, 56), (⟨"HalfDaysModel", "run", "(III)V"⟩, 56), (⟨"HalfDaysModel", "reckon", "(IJJ)J"⟩, 56), (⟨"HalfDaysModel", "countsIn", "(III)I"⟩, 56), (⟨"HalfDaysModel", "four", "(I)V"⟩, 56), (⟨"HalfDaysModel", "readText", "(I)Z"⟩, 56), (⟨"HalfDaysModel", "begin", "()V"⟩, 56), (⟨"HalfDaysModel", "next", "()V"⟩, 56), (⟨"HalfDaysModel", "readClause", "()V"⟩, 56), (⟨"HalfDaysModel", "headAt", "()I"⟩, 56), (⟨"HalfDaysModel", "isWord", "(J)Z"⟩, 56), (⟨"HalfDaysModel", "must", "(Z)V"⟩, 56)]
theorem lw_r4 : ∀ q ∈ lw_privs_4, lw_okq q := List.forall_mem_cons.mpr ⟨lw_p48, List.forall_mem_cons.mpr ⟨lw_p49, List.forall_mem_cons.mpr ⟨lw_p50, List.forall_mem_cons.mpr ⟨lw_p51, List.forall_mem_cons.mpr ⟨lw_p52, List.forall_mem_cons.mpr ⟨lw_p53, List.forall_mem_cons.mpr ⟨lw_p54, List.forall_mem_cons.mpr ⟨lw_p55, List.forall_mem_cons.mpr ⟨lw_p56, List.forall_mem_cons.mpr ⟨lw_p57, List.forall_mem_cons.mpr ⟨lw_p58, List.forall_mem_cons.mpr ⟨lw_p59, List.forall_mem_cons.mpr ⟨lw_p60, List.forall_mem_cons.mpr ⟨lw_p61, List.forall_mem_cons.mpr ⟨lw_p62, List.forall_mem_cons.mpr ⟨lw_p63, fun _ h => absurd h List.not_mem_nil⟩⟩⟩⟩⟩⟩⟩⟩⟩⟩⟩⟩⟩⟩⟩⟩
theorem lw_p64 : lw_okq (⟨"HalfDaysModel", "number", "(JJ)I"⟩, 56) := ⟨⟨by decide +kernel, by decide +kernel⟩, List.mem_of_getElem? (i := 1246) (by decide +kernel), List.mem_of_getElem? (i := 1650) (by decide +kernel), List.mem_of_getElem? (i := 1651) (by decide +kernel)⟩
theorem lw_p65 : lw_okq (⟨"HalfDaysModel", "letter", "()I"⟩, 56) := ⟨⟨by decide +kernel, by decide +kernel⟩, List.mem_of_getElem? (i := 1246) (by decide +kernel), List.mem_of_getElem? (i := 1656) (by decide +kernel), List.mem_of_getElem? (i := 1657) (by decide +kernel)⟩
theorem lw_p66 : lw_okq (⟨"HalfDaysModel", "kind", "()I"⟩, 56) := ⟨⟨by decide +kernel, by decide +kernel⟩, List.mem_of_getElem? (i := 1246) (by decide +kernel), List.mem_of_getElem? (i := 1660) (by decide +kernel), List.mem_of_getElem? (i := 1661) (by decide +kernel)⟩
theorem lw_p67 : lw_okq (⟨"HalfDaysModel", "readExpression", "(Z)V"⟩, 56) := ⟨⟨by decide +kernel, by decide +kernel⟩, List.mem_of_getElem? (i := 1246) (by decide +kernel), List.mem_of_getElem? (i := 1669) (by decide +kernel), List.mem_of_getElem? (i := 1670) (by decide +kernel)⟩
theorem lw_p68 : lw_okq (⟨"HalfDaysModel", "readPlain", "()I"⟩, 56) := ⟨⟨by decide +kernel, by decide +kernel⟩, List.mem_of_getElem? (i := 1246) (by decide +kernel), List.mem_of_getElem? (i := 1673) (by decide +kernel), List.mem_of_getElem? (i := 1674) (by decide +kernel)⟩
theorem lw_p69 : lw_okq (⟨"HalfDaysModel", "push", "(II)V"⟩, 56) := ⟨⟨by decide +kernel, by decide +kernel⟩, List.mem_of_getElem? (i := 1246) (by decide +kernel), List.mem_of_getElem? (i := 1678) (by decide +kernel), List.mem_of_getElem? (i := 1679) (by decide +kernel)⟩
theorem lw_p70 : lw_okq (⟨"HalfDaysModel", "isSign", "(I)Z"⟩, 56) := ⟨⟨by decide +kernel, by decide +kernel⟩, List.mem_of_getElem? (i := 1246) (by decide +kernel), List.mem_of_getElem? (i := 1682) (by decide +kernel), List.mem_of_getElem? (i := 1683) (by decide +kernel)⟩
theorem lw_p71 : lw_okq (⟨"HalfDaysModel", "open", "(I)V"⟩, 56) := ⟨⟨by decide +kernel, by decide +kernel⟩, List.mem_of_getElem? (i := 1246) (by decide +kernel), List.mem_of_getElem? (i := 1686) (by decide +kernel), List.mem_of_getElem? (i := 1687) (by decide +kernel)⟩
theorem lw_p72 : lw_okq (⟨"HalfDaysModel", "plainAt", "()I"⟩, 56) := ⟨⟨by decide +kernel, by decide +kernel⟩, List.mem_of_getElem? (i := 1246) (by decide +kernel), List.mem_of_getElem? (i := 1690) (by decide +kernel), List.mem_of_getElem? (i := 1691) (by decide +kernel)⟩
theorem lw_p73 : lw_okq (⟨"HalfDaysModel", "leaf", "(ZII)V"⟩, 56) := ⟨⟨by decide +kernel, by decide +kernel⟩, List.mem_of_getElem? (i := 1246) (by decide +kernel), List.mem_of_getElem? (i := 1698) (by decide +kernel), List.mem_of_getElem? (i := 1699) (by decide +kernel)⟩
theorem lw_p74 : lw_okq (⟨"HalfDaysModel", "emit", "(II)V"⟩, 56) := ⟨⟨by decide +kernel, by decide +kernel⟩, List.mem_of_getElem? (i := 1246) (by decide +kernel), List.mem_of_getElem? (i := 1702) (by decide +kernel), List.mem_of_getElem? (i := 1703) (by decide +kernel)⟩
theorem lw_p75 : lw_okq (⟨"HalfDaysModel", "readPart", "()I"⟩, 56) := ⟨⟨by decide +kernel, by decide +kernel⟩, List.mem_of_getElem? (i := 1246) (by decide +kernel), List.mem_of_getElem? (i := 1706) (by decide +kernel), List.mem_of_getElem? (i := 1707) (by decide +kernel)⟩
theorem lw_p76 : lw_okq (⟨"HalfDaysModel", "partAt", "()I"⟩, 56) := ⟨⟨by decide +kernel, by decide +kernel⟩, List.mem_of_getElem? (i := 1246) (by decide +kernel), List.mem_of_getElem? (i := 1710) (by decide +kernel), List.mem_of_getElem? (i := 1711) (by decide +kernel)⟩
theorem lw_p77 : lw_okq (⟨"HalfDaysModel", "behindSum", "(Z)I"⟩, 56) := ⟨⟨by decide +kernel, by decide +kernel⟩, List.mem_of_getElem? (i := 1246) (by decide +kernel), List.mem_of_getElem? (i := 1722) (by decide +kernel), List.mem_of_getElem? (i := 1723) (by decide +kernel)⟩
theorem lw_p78 : lw_okq (⟨"HalfDaysModel", "settle", "(I)V"⟩, 56) := ⟨⟨by decide +kernel, by decide +kernel⟩, List.mem_of_getElem? (i := 1246) (by decide +kernel), List.mem_of_getElem? (i := 1729) (by decide +kernel), List.mem_of_getElem? (i := 1730) (by decide +kernel)⟩
theorem lw_p79 : lw_okq (⟨"HalfDaysModel", "inner", "()I"⟩, 56) := ⟨⟨by decide +kernel, by decide +kernel⟩, List.mem_of_getElem? (i := 1246) (by decide +kernel), List.mem_of_getElem? (i := 1733) (by decide +kernel), List.mem_of_getElem? (i := 1734) (by decide +kernel)⟩
def lw_privs_5 : List (MethodName × Nat) := [(⟨"HalfDaysModel", "number", "(JJ)I"⟩, 56), (⟨"HalfDaysModel", "letter", "()I"⟩, 56), (⟨"HalfDaysModel", "kind", "()I"⟩, 56), (⟨"HalfDaysModel", "readExpression", "(Z)V"⟩, 56), (⟨"HalfDaysModel", "readPlain", "()I"⟩, 56), (⟨"HalfDaysModel", "push", "(II)V"⟩, 56), (⟨"HalfDaysModel", "isSign", "(I)Z"⟩, 56), (⟨"HalfDaysModel", "open", "(I)V"⟩, 56), (⟨"HalfDaysModel", "plainAt", "()I"⟩, 56), (⟨"HalfDaysModel", "leaf", "(ZII)V"⟩, 56), (⟨"HalfDaysModel", "emit", "(II)V"⟩, 56), (⟨"HalfDaysModel", "readPart", "()I"⟩, 56), (⟨"HalfDaysModel", "partAt", "()I"⟩, 56), (⟨"HalfDaysModel", "behindSum", "(Z)I"⟩, 56), (⟨"HalfDaysModel", "settle", "(I)V"⟩, 56), (⟨"HalfDaysModel", "inner", "()I"⟩, 56)]
theorem lw_r5 : ∀ q ∈ lw_privs_5, lw_okq q := List.forall_mem_cons.mpr ⟨lw_p64, List.forall_mem_cons.mpr ⟨lw_p65, List.forall_mem_cons.mpr ⟨lw_p66, List.forall_mem_cons.mpr ⟨lw_p67, List.forall_mem_cons.mpr ⟨lw_p68, List.forall_mem_cons.mpr ⟨lw_p69, List.forall_mem_cons.mpr ⟨lw_p70, List.forall_mem_cons.mpr ⟨lw_p71, List.forall_mem_cons.mpr ⟨lw_p72, List.forall_mem_cons.mpr ⟨lw_p73, List.forall_mem_cons.mpr ⟨lw_p74, List.forall_mem_cons.mpr ⟨lw_p75, List.forall_mem_cons.mpr ⟨lw_p76, List.forall_mem_cons.mpr ⟨lw_p77, List.forall_mem_cons.mpr ⟨lw_p78, List.forall_mem_cons.mpr ⟨lw_p79, fun _ h => absurd h List.not_mem_nil⟩⟩⟩⟩⟩⟩⟩⟩⟩⟩⟩⟩⟩⟩⟩⟩
theorem lw_p80 : lw_okq (⟨"HalfDaysModel", "isCompared", "()Z"⟩, 56) := ⟨⟨by decide +kernel, by decide +kernel⟩, List.mem_of_getElem? (i := 1246) (by decide +kernel), List.mem_of_getElem? (i := 1737) (by decide +kernel), List.mem_of_getElem? (i := 1738) (by decide +kernel)⟩
theorem lw_p81 : lw_okq (⟨"HalfDaysModel", "behindTest", "()I"⟩, 56) := ⟨⟨by decide +kernel, by decide +kernel⟩, List.mem_of_getElem? (i := 1246) (by decide +kernel), List.mem_of_getElem? (i := 1745) (by decide +kernel), List.mem_of_getElem? (i := 1746) (by decide +kernel)⟩
theorem lw_p82 : lw_okq (⟨"HalfDaysModel", "addUp", "(IIII)V"⟩, 56) := ⟨⟨by decide +kernel, by decide +kernel⟩, List.mem_of_getElem? (i := 1246) (by decide +kernel), List.mem_of_getElem? (i := 1763) (by decide +kernel), List.mem_of_getElem? (i := 1764) (by decide +kernel)⟩
theorem lw_p83 : lw_okq (⟨"HalfDaysModel", "tellRate", "(I)I"⟩, 56) := ⟨⟨by decide +kernel, by decide +kernel⟩, List.mem_of_getElem? (i := 1246) (by decide +kernel), List.mem_of_getElem? (i := 1767) (by decide +kernel), List.mem_of_getElem? (i := 1768) (by decide +kernel)⟩
theorem lw_p84 : lw_okq (⟨"HalfDaysModel", "findSessions", "(I)V"⟩, 56) := ⟨⟨by decide +kernel, by decide +kernel⟩, List.mem_of_getElem? (i := 1246) (by decide +kernel), List.mem_of_getElem? (i := 1785) (by decide +kernel), List.mem_of_getElem? (i := 1786) (by decide +kernel)⟩
theorem lw_p85 : lw_okq (⟨"HalfDaysModel", "dueOf", "(III)I"⟩, 56) := ⟨⟨by decide +kernel, by decide +kernel⟩, List.mem_of_getElem? (i := 1246) (by decide +kernel), List.mem_of_getElem? (i := 1789) (by decide +kernel), List.mem_of_getElem? (i := 1790) (by decide +kernel)⟩
theorem lw_p86 : lw_okq (⟨"HalfDaysModel", "setDay", "(II)V"⟩, 56) := ⟨⟨by decide +kernel, by decide +kernel⟩, List.mem_of_getElem? (i := 1246) (by decide +kernel), List.mem_of_getElem? (i := 1793) (by decide +kernel), List.mem_of_getElem? (i := 1794) (by decide +kernel)⟩
theorem lw_p87 : lw_okq (⟨"HalfDaysModel", "takenOn", "(II)I"⟩, 56) := ⟨⟨by decide +kernel, by decide +kernel⟩, List.mem_of_getElem? (i := 1246) (by decide +kernel), List.mem_of_getElem? (i := 1801) (by decide +kernel), List.mem_of_getElem? (i := 1802) (by decide +kernel)⟩
theorem lw_p88 : lw_okq (⟨"HalfDaysModel", "dueFrom", "(II)I"⟩, 56) := ⟨⟨by decide +kernel, by decide +kernel⟩, List.mem_of_getElem? (i := 1246) (by decide +kernel), List.mem_of_getElem? (i := 1805) (by decide +kernel), List.mem_of_getElem? (i := 1806) (by decide +kernel)⟩
theorem lw_p89 : lw_okq (⟨"HalfDaysModel", "doesStand", "(III)Z"⟩, 56) := ⟨⟨by decide +kernel, by decide +kernel⟩, List.mem_of_getElem? (i := 1246) (by decide +kernel), List.mem_of_getElem? (i := 1813) (by decide +kernel), List.mem_of_getElem? (i := 1814) (by decide +kernel)⟩
theorem lw_p90 : lw_okq (⟨"HalfDaysModel", "fineOf", "(II)I"⟩, 56) := ⟨⟨by decide +kernel, by decide +kernel⟩, List.mem_of_getElem? (i := 1246) (by decide +kernel), List.mem_of_getElem? (i := 1821) (by decide +kernel), List.mem_of_getElem? (i := 1822) (by decide +kernel)⟩
theorem lw_p91 : lw_okq (⟨"HalfDaysModel", "rollsOf", "(II)I"⟩, 56) := ⟨⟨by decide +kernel, by decide +kernel⟩, List.mem_of_getElem? (i := 1246) (by decide +kernel), List.mem_of_getElem? (i := 1840) (by decide +kernel), List.mem_of_getElem? (i := 1841) (by decide +kernel)⟩
theorem lw_p92 : lw_okq (⟨"HalfDaysModel", "isLost", "(II)Z"⟩, 56) := ⟨⟨by decide +kernel, by decide +kernel⟩, List.mem_of_getElem? (i := 1246) (by decide +kernel), List.mem_of_getElem? (i := 1844) (by decide +kernel), List.mem_of_getElem? (i := 1845) (by decide +kernel)⟩
theorem lw_p93 : lw_okq (⟨"HalfDaysModel", "isJoin", "(I)Z"⟩, 56) := ⟨⟨by decide +kernel, by decide +kernel⟩, List.mem_of_getElem? (i := 1246) (by decide +kernel), List.mem_of_getElem? (i := 1866) (by decide +kernel), List.mem_of_getElem? (i := 1867) (by decide +kernel)⟩
theorem lw_p94 : lw_okq (⟨"HalfDaysModel", "likeOf", "(II)I"⟩, 56) := ⟨⟨by decide +kernel, by decide +kernel⟩, List.mem_of_getElem? (i := 1246) (by decide +kernel), List.mem_of_getElem? (i := 1870) (by decide +kernel), List.mem_of_getElem? (i := 1871) (by decide +kernel)⟩
theorem lw_p95 : lw_okq (⟨"HalfDaysModel", "cannotBe", "(I)Z"⟩, 56) := ⟨⟨by decide +kernel, by decide +kernel⟩, List.mem_of_getElem? (i := 1246) (by decide +kernel), List.mem_of_getElem? (i := 1886) (by decide +kernel), List.mem_of_getElem? (i := 1887) (by decide +kernel)⟩
def lw_privs_6 : List (MethodName × Nat) := [(⟨"HalfDaysModel", "isCompared", "()Z"⟩, 56), (⟨"HalfDaysModel", "behindTest", "()I"⟩, 56), (⟨"HalfDaysModel", "addUp", "(IIII)V"⟩, 56), (⟨"HalfDaysModel", "tellRate", "(I)I"⟩, 56), (⟨"HalfDaysModel", "findSessions", "(I)V"⟩, 56), (⟨"HalfDaysModel", "dueOf", "(III)I"⟩, 56), (⟨"HalfDaysModel", "setDay", "(II)V"⟩, 56), (⟨"HalfDaysModel", "takenOn", "(II)I"⟩, 56), (⟨"HalfDaysModel", "dueFrom", "(II)I"⟩, 56), (⟨"HalfDaysModel", "doesStand", "(III)Z"⟩, 56), (⟨"HalfDaysModel", "fineOf", "(II)I"⟩, 56), (⟨"HalfDaysModel", "rollsOf", "(II)I"⟩, 56), (⟨"HalfDaysModel", "isLost", "(II)Z"⟩, 56), (⟨"HalfDaysModel", "isJoin", "(I)Z"⟩, 56), (⟨"HalfDaysModel", "likeOf", "(II)I"⟩, 56), (⟨"HalfDaysModel", "cannotBe", "(I)Z"⟩, 56)]
theorem lw_r6 : ∀ q ∈ lw_privs_6, lw_okq q := List.forall_mem_cons.mpr ⟨lw_p80, List.forall_mem_cons.mpr ⟨lw_p81, List.forall_mem_cons.mpr ⟨lw_p82, List.forall_mem_cons.mpr ⟨lw_p83, List.forall_mem_cons.mpr ⟨lw_p84, List.forall_mem_cons.mpr ⟨lw_p85, List.forall_mem_cons.mpr ⟨lw_p86, List.forall_mem_cons.mpr ⟨lw_p87, List.forall_mem_cons.mpr ⟨lw_p88, List.forall_mem_cons.mpr ⟨lw_p89, List.forall_mem_cons.mpr ⟨lw_p90, List.forall_mem_cons.mpr ⟨lw_p91, List.forall_mem_cons.mpr ⟨lw_p92, List.forall_mem_cons.mpr ⟨lw_p93, List.forall_mem_cons.mpr ⟨lw_p94, List.forall_mem_cons.mpr ⟨lw_p95, fun _ h => absurd h List.not_mem_nil⟩⟩⟩⟩⟩⟩⟩⟩⟩⟩⟩⟩⟩⟩⟩⟩
theorem lw_p96 : lw_okq (⟨"HalfDaysModel", "findWays", "(II)V"⟩, 56) := ⟨⟨by decide +kernel, by decide +kernel⟩, List.mem_of_getElem? (i := 1246) (by decide +kernel), List.mem_of_getElem? (i := 1901) (by decide +kernel), List.mem_of_getElem? (i := 1902) (by decide +kernel)⟩
theorem lw_p97 : lw_okq (⟨"HalfDaysModel", "far", "(III)I"⟩, 56) := ⟨⟨by decide +kernel, by decide +kernel⟩, List.mem_of_getElem? (i := 1246) (by decide +kernel), List.mem_of_getElem? (i := 1905) (by decide +kernel), List.mem_of_getElem? (i := 1906) (by decide +kernel)⟩
theorem lw_p98 : lw_okq (⟨"HalfDaysModel", "between", "(II)I"⟩, 56) := ⟨⟨by decide +kernel, by decide +kernel⟩, List.mem_of_getElem? (i := 1246) (by decide +kernel), List.mem_of_getElem? (i := 1910) (by decide +kernel), List.mem_of_getElem? (i := 1911) (by decide +kernel)⟩
theorem lw_p99 : lw_okq (⟨"HalfDaysModel", "minutesOf", "(III)I"⟩, 56) := ⟨⟨by decide +kernel, by decide +kernel⟩, List.mem_of_getElem? (i := 1246) (by decide +kernel), List.mem_of_getElem? (i := 1914) (by decide +kernel), List.mem_of_getElem? (i := 1915) (by decide +kernel)⟩
theorem lw_p100 : lw_okq (⟨"HalfDaysModel", "addDay", "(I)V"⟩, 56) := ⟨⟨by decide +kernel, by decide +kernel⟩, List.mem_of_getElem? (i := 1246) (by decide +kernel), List.mem_of_getElem? (i := 1941) (by decide +kernel), List.mem_of_getElem? (i := 1942) (by decide +kernel)⟩
def lw_privs_7 : List (MethodName × Nat) := [(⟨"HalfDaysModel", "findWays", "(II)V"⟩, 56), (⟨"HalfDaysModel", "far", "(III)I"⟩, 56), (⟨"HalfDaysModel", "between", "(II)I"⟩, 56), (⟨"HalfDaysModel", "minutesOf", "(III)I"⟩, 56), (⟨"HalfDaysModel", "addDay", "(I)V"⟩, 56)]
theorem lw_r7 : ∀ q ∈ lw_privs_7, lw_okq q := List.forall_mem_cons.mpr ⟨lw_p96, List.forall_mem_cons.mpr ⟨lw_p97, List.forall_mem_cons.mpr ⟨lw_p98, List.forall_mem_cons.mpr ⟨lw_p99, List.forall_mem_cons.mpr ⟨lw_p100, fun _ h => absurd h List.not_mem_nil⟩⟩⟩⟩⟩
def lw_privs : List (MethodName × Nat) := lw_privs_1 ++ (lw_privs_2 ++ (lw_privs_3 ++ (lw_privs_4 ++ (lw_privs_5 ++ (lw_privs_6 ++ (lw_privs_7))))))
def lw_tbl : List Cond := k2_sels lw_privs ++ tables_1
theorem lw_privs_ok : ∀ q ∈ lw_privs, lw_okq q := by
  show ∀ q ∈ lw_privs_1 ++ (lw_privs_2 ++ (lw_privs_3 ++ (lw_privs_4 ++ (lw_privs_5 ++ (lw_privs_6 ++ (lw_privs_7)))))), lw_okq q
  exact List.forall_mem_append.mpr ⟨lw_r1, List.forall_mem_append.mpr ⟨lw_r2, List.forall_mem_append.mpr ⟨lw_r3, List.forall_mem_append.mpr ⟨lw_r4, List.forall_mem_append.mpr ⟨lw_r5, List.forall_mem_append.mpr ⟨lw_r6, lw_r7⟩⟩⟩⟩⟩⟩
end
section
def RX0 : String := "HalfDays$Acts"
def TX0 : u_T := fun k => match k with
  | 0 => ("HalfDays$Acts", "texts", "I", false)
  | 1 => ("HalfDays$Acts", "text", "[LHalfDays$Text;", true)
  | _ => ("HalfDays$Acts", "from", "[I", true)
def tyX0 : Nat → FieldType := fun k => match k with
  | 0 => .int
  | 1 => .array (.object "HalfDays$Text")
  | _ => .array .int
abbrev wsX00 : List Cond := u_ws RX0 TX0 3
theorem nmX0 : ∀ a, a < 3 → ∀ b, b < 3 → a ≠ b → (TX0 a).2.1 ≠ (TX0 b).2.1 := by decide +kernel
theorem tyX0_ok : ∀ k, k < 3 → parseFieldDescriptor (TX0 k).2.2.1 = some (tyX0 k) := by decide +kernel
def RX1 : String := "HalfDays$Asker"
def TX1 : u_T := fun k => match k with
  | 0 => ("HalfDays$Asker", "county", "LHalfDays$County;", true)
  | 1 => ("HalfDays$Asker", "stack", "[J", true)
  | 2 => ("HalfDays$Asker", "struck", "[I", true)
  | 3 => ("HalfDays$Asker", "kinds", "[I", true)
  | 4 => ("HalfDays$Asker", "awayAhead", "[I", true)
  | 5 => ("HalfDays$Asker", "possibleAhead", "[I", true)
  | 6 => ("HalfDays$Asker", "weekPossible", "[I", true)
  | 7 => ("HalfDays$Asker", "weekAway", "[I", true)
  | 8 => ("HalfDays$Asker", "askedChild", "I", false)
  | 9 => ("HalfDays$Asker", "askedHalf", "I", false)
  | 10 => ("HalfDays$Asker", "askedMinutes", "I", false)
  | 11 => ("HalfDays$Asker", "askedSchool", "I", false)
  | 12 => ("HalfDays$Asker", "sessionsAsked", "Z", false)
  | 13 => ("HalfDays$Asker", "possible", "I", false)
  | 14 => ("HalfDays$Asker", "away", "I", false)
  | 15 => ("HalfDays$Asker", "textFound", "I", false)
  | 16 => ("HalfDays$Asker", "clauseFound", "I", false)
  | 17 => ("HalfDays$Asker", "sum", "I", false)
  | _ => ("HalfDays$Asker", "value", "I", false)
def tyX1 : Nat → FieldType := fun k => match k with
  | 0 => .object "HalfDays$County"
  | 1 => .array .long
  | 2 => .array .int
  | 3 => .array .int
  | 4 => .array .int
  | 5 => .array .int
  | 6 => .array .int
  | 7 => .array .int
  | 8 => .int
  | 9 => .int
  | 10 => .int
  | 11 => .int
  | 12 => .boolean
  | 13 => .int
  | 14 => .int
  | 15 => .int
  | 16 => .int
  | 17 => .int
  | _ => .int
abbrev wsX10 : List Cond := u_ws RX1 TX1 19
theorem nmX1 : ∀ a, a < 19 → ∀ b, b < 19 → a ≠ b → (TX1 a).2.1 ≠ (TX1 b).2.1 := by decide +kernel
theorem tyX1_ok : ∀ k, k < 19 → parseFieldDescriptor (TX1 k).2.2.1 = some (tyX1 k) := by decide +kernel
def RX2 : String := "HalfDays$Choices"
def TX2 : u_T := fun k => match k with
  | 0 => ("HalfDays$Choices", "people", "LHalfDays$People;", true)
  | 1 => ("HalfDays$Choices", "lists", "LHalfDays$Lists;", true)
  | 2 => ("HalfDays$Choices", "row", "[I", true)
  | 3 => ("HalfDays$Choices", "rowLength", "I", false)
  | 4 => ("HalfDays$Choices", "rivals", "I", false)
  | 5 => ("HalfDays$Choices", "like", "[I", true)
  | 6 => ("HalfDays$Choices", "joinScore", "[I", true)
  | 7 => ("HalfDays$Choices", "joinWays", "[I", true)
  | 8 => ("HalfDays$Choices", "roundBits", "I", false)
  | 9 => ("HalfDays$Choices", "roundWorth", "I", false)
  | 10 => ("HalfDays$Choices", "roundMinutes", "I", false)
  | 11 => ("HalfDays$Choices", "way", "[I", true)
  | 12 => ("HalfDays$Choices", "officeWay", "[I", true)
  | _ => ("HalfDays$Choices", "bySet", "[I", true)
def tyX2 : Nat → FieldType := fun k => match k with
  | 0 => .object "HalfDays$People"
  | 1 => .object "HalfDays$Lists"
  | 2 => .array .int
  | 3 => .int
  | 4 => .int
  | 5 => .array .int
  | 6 => .array .int
  | 7 => .array .int
  | 8 => .int
  | 9 => .int
  | 10 => .int
  | 11 => .array .int
  | 12 => .array .int
  | _ => .array .int
abbrev wsX20 : List Cond := u_ws RX2 TX2 14
theorem nmX2 : ∀ a, a < 14 → ∀ b, b < 14 → a ≠ b → (TX2 a).2.1 ≠ (TX2 b).2.1 := by decide +kernel
theorem tyX2_ok : ∀ k, k < 14 → parseFieldDescriptor (TX2 k).2.2.1 = some (tyX2 k) := by decide +kernel
def RX3 : String := "HalfDays$County"
def TX3 : u_T := fun k => match k with
  | 0 => ("HalfDays$County", "people", "LHalfDays$People;", true)
  | 1 => ("HalfDays$County", "rolls", "LHalfDays$Rolls;", true)
  | 2 => ("HalfDays$County", "marks", "LHalfDays$Marks;", true)
  | 3 => ("HalfDays$County", "acts", "LHalfDays$Acts;", true)
  | 4 => ("HalfDays$County", "steps", "LHalfDays$Steps;", true)
  | _ => ("HalfDays$County", "lists", "LHalfDays$Lists;", true)
def tyX3 : Nat → FieldType := fun k => match k with
  | 0 => .object "HalfDays$People"
  | 1 => .object "HalfDays$Rolls"
  | 2 => .object "HalfDays$Marks"
  | 3 => .object "HalfDays$Acts"
  | 4 => .object "HalfDays$Steps"
  | _ => .object "HalfDays$Lists"
abbrev wsX30 : List Cond := u_ws RX3 TX3 6
theorem nmX3 : ∀ a, a < 6 → ∀ b, b < 6 → a ≠ b → (TX3 a).2.1 ≠ (TX3 b).2.1 := by decide +kernel
theorem tyX3_ok : ∀ k, k < 6 → parseFieldDescriptor (TX3 k).2.2.1 = some (tyX3 k) := by decide +kernel
def RX4 : String := "HalfDays$Lists"
def TX4 : u_T := fun k => match k with
  | 0 => ("HalfDays$Lists", "records", "I", false)
  | 1 => ("HalfDays$Lists", "recordMarks", "[I", true)
  | 2 => ("HalfDays$Lists", "missed", "I", false)
  | 3 => ("HalfDays$Lists", "missingChild", "[I", true)
  | 4 => ("HalfDays$Lists", "missingMarks", "[I", true)
  | 5 => ("HalfDays$Lists", "visits", "I", false)
  | 6 => ("HalfDays$Lists", "visitChild", "[I", true)
  | 7 => ("HalfDays$Lists", "visitMinutes", "[I", true)
  | 8 => ("HalfDays$Lists", "visitWorth", "[I", true)
  | 9 => ("HalfDays$Lists", "drawn", "I", false)
  | 10 => ("HalfDays$Lists", "drawnChild", "[I", true)
  | 11 => ("HalfDays$Lists", "drawnGot", "[I", true)
  | _ => ("HalfDays$Lists", "drawnDid", "[I", true)
def tyX4 : Nat → FieldType := fun k => match k with
  | 0 => .int
  | 1 => .array .int
  | 2 => .int
  | 3 => .array .int
  | 4 => .array .int
  | 5 => .int
  | 6 => .array .int
  | 7 => .array .int
  | 8 => .array .int
  | 9 => .int
  | 10 => .array .int
  | 11 => .array .int
  | _ => .array .int
abbrev wsX40 : List Cond := u_ws RX4 TX4 13
theorem nmX4 : ∀ a, a < 13 → ∀ b, b < 13 → a ≠ b → (TX4 a).2.1 ≠ (TX4 b).2.1 := by decide +kernel
theorem tyX4_ok : ∀ k, k < 13 → parseFieldDescriptor (TX4 k).2.2.1 = some (tyX4 k) := by decide +kernel
def RX5 : String := "HalfDays$Marks"
def TX5 : u_T := fun k => match k with
  | 0 => ("HalfDays$Marks", "marks", "I", false)
  | 1 => ("HalfDays$Marks", "school", "[I", true)
  | 2 => ("HalfDays$Marks", "child", "[I", true)
  | 3 => ("HalfDays$Marks", "half", "[I", true)
  | 4 => ("HalfDays$Marks", "letter", "[I", true)
  | 5 => ("HalfDays$Marks", "minutes", "[I", true)
  | 6 => ("HalfDays$Marks", "known", "[I", true)
  | 7 => ("HalfDays$Marks", "granted", "[I", true)
  | 8 => ("HalfDays$Marks", "grantedFrom", "[I", true)
  | 9 => ("HalfDays$Marks", "next", "[I", true)
  | 10 => ("HalfDays$Marks", "sealedMarks", "[I", true)
  | 11 => ("HalfDays$Marks", "sealedSum", "[I", true)
  | 12 => ("HalfDays$Marks", "sealedPlaces", "[I", true)
  | 13 => ("HalfDays$Marks", "daySum", "I", false)
  | _ => ("HalfDays$Marks", "dayPlaces", "I", false)
def tyX5 : Nat → FieldType := fun k => match k with
  | 0 => .int
  | 1 => .array .int
  | 2 => .array .int
  | 3 => .array .int
  | 4 => .array .int
  | 5 => .array .int
  | 6 => .array .int
  | 7 => .array .int
  | 8 => .array .int
  | 9 => .array .int
  | 10 => .array .int
  | 11 => .array .int
  | 12 => .array .int
  | 13 => .int
  | _ => .int
abbrev wsX50 : List Cond := u_ws RX5 TX5 15
theorem nmX5 : ∀ a, a < 15 → ∀ b, b < 15 → a ≠ b → (TX5 a).2.1 ≠ (TX5 b).2.1 := by decide +kernel
theorem tyX5_ok : ∀ k, k < 15 → parseFieldDescriptor (TX5 k).2.2.1 = some (tyX5 k) := by decide +kernel
def RX6 : String := "HalfDays$People"
def TX6 : u_T := fun k => match k with
  | 0 => ("HalfDays$People", "children", "I", false)
  | 1 => ("HalfDays$People", "born", "[I", true)
  | 2 => ("HalfDays$People", "carer", "[I", true)
  | 3 => ("HalfDays$People", "route", "[I", true)
  | 4 => ("HalfDays$People", "x", "[I", true)
  | 5 => ("HalfDays$People", "y", "[I", true)
  | 6 => ("HalfDays$People", "schools", "I", false)
  | 7 => ("HalfDays$People", "shutOn", "[I", true)
  | 8 => ("HalfDays$People", "buses", "I", false)
  | 9 => ("HalfDays$People", "busRoute", "[I", true)
  | 10 => ("HalfDays$People", "busHalf", "[I", true)
  | 11 => ("HalfDays$People", "spans", "[I", true)
  | 12 => ("HalfDays$People", "spanChild", "[I", true)
  | 13 => ("HalfDays$People", "spanFrom", "[I", true)
  | _ => ("HalfDays$People", "spanTo", "[I", true)
def tyX6 : Nat → FieldType := fun k => match k with
  | 0 => .int
  | 1 => .array .int
  | 2 => .array .int
  | 3 => .array .int
  | 4 => .array .int
  | 5 => .array .int
  | 6 => .int
  | 7 => .array .int
  | 8 => .int
  | 9 => .array .int
  | 10 => .array .int
  | 11 => .array .int
  | 12 => .array .int
  | 13 => .array .int
  | _ => .array .int
abbrev wsX60 : List Cond := u_ws RX6 TX6 15
theorem nmX6 : ∀ a, a < 15 → ∀ b, b < 15 → a ≠ b → (TX6 a).2.1 ≠ (TX6 b).2.1 := by decide +kernel
theorem tyX6_ok : ∀ k, k < 15 → parseFieldDescriptor (TX6 k).2.2.1 = some (tyX6 k) := by decide +kernel
def RX7 : String := "HalfDays$Reader"
def TX7 : u_T := fun k => match k with
  | 0 => ("HalfDays$Reader", "tape", "[I", true)
  | 1 => ("HalfDays$Reader", "length", "I", false)
  | 2 => ("HalfDays$Reader", "fault", "I", false)
  | 3 => ("HalfDays$Reader", "clauses", "I", false)
  | 4 => ("HalfDays$Reader", "key", "[I", true)
  | 5 => ("HalfDays$Reader", "value", "[I", true)
  | 6 => ("HalfDays$Reader", "at", "[I", true)
  | 7 => ("HalfDays$Reader", "code", "[I", true)
  | 8 => ("HalfDays$Reader", "codeLength", "I", false)
  | 9 => ("HalfDays$Reader", "leaves", "I", false)
  | 10 => ("HalfDays$Reader", "tokenKind", "I", false)
  | 11 => ("HalfDays$Reader", "tokenStart", "I", false)
  | 12 => ("HalfDays$Reader", "tokenEnd", "I", false)
  | 13 => ("HalfDays$Reader", "number", "I", false)
  | 14 => ("HalfDays$Reader", "word", "J", false)
  | _ => ("HalfDays$Reader", "sign", "I", false)
def tyX7 : Nat → FieldType := fun k => match k with
  | 0 => .array .int
  | 1 => .int
  | 2 => .int
  | 3 => .int
  | 4 => .array .int
  | 5 => .array .int
  | 6 => .array .int
  | 7 => .array .int
  | 8 => .int
  | 9 => .int
  | 10 => .int
  | 11 => .int
  | 12 => .int
  | 13 => .int
  | 14 => .long
  | _ => .int
abbrev wsX70 : List Cond := u_ws RX7 TX7 16
theorem nmX7 : ∀ a, a < 16 → ∀ b, b < 16 → a ≠ b → (TX7 a).2.1 ≠ (TX7 b).2.1 := by decide +kernel
theorem tyX7_ok : ∀ k, k < 16 → parseFieldDescriptor (TX7 k).2.2.1 = some (tyX7 k) := by decide +kernel
def RX8 : String := "HalfDays$Rolls"
def TX8 : u_T := fun k => match k with
  | 0 => ("HalfDays$Rolls", "entries", "I", false)
  | 1 => ("HalfDays$Rolls", "child", "[I", true)
  | 2 => ("HalfDays$Rolls", "school", "[I", true)
  | 3 => ("HalfDays$Rolls", "first", "[I", true)
  | 4 => ("HalfDays$Rolls", "gone", "[I", true)
  | _ => ("HalfDays$Rolls", "whither", "[I", true)
def tyX8 : Nat → FieldType := fun k => match k with
  | 0 => .int
  | 1 => .array .int
  | 2 => .array .int
  | 3 => .array .int
  | 4 => .array .int
  | _ => .array .int
abbrev wsX80 : List Cond := u_ws RX8 TX8 6
theorem nmX8 : ∀ a, a < 6 → ∀ b, b < 6 → a ≠ b → (TX8 a).2.1 ≠ (TX8 b).2.1 := by decide +kernel
theorem tyX8_ok : ∀ k, k < 6 → parseFieldDescriptor (TX8 k).2.2.1 = some (tyX8 k) := by decide +kernel
def RX9 : String := "HalfDays$Steps"
def TX9 : u_T := fun k => match k with
  | 0 => ("HalfDays$Steps", "taken", "[I", true)
  | 1 => ("HalfDays$Steps", "paidOn", "[I", true)
  | _ => ("HalfDays$Steps", "paid", "[I", true)
def tyX9 : Nat → FieldType := fun k => match k with
  | 0 => .array .int
  | 1 => .array .int
  | _ => .array .int
abbrev wsX90 : List Cond := u_ws RX9 TX9 3
theorem nmX9 : ∀ a, a < 3 → ∀ b, b < 3 → a ≠ b → (TX9 a).2.1 ≠ (TX9 b).2.1 := by decide +kernel
theorem tyX9_ok : ∀ k, k < 3 → parseFieldDescriptor (TX9 k).2.2.1 = some (tyX9 k) := by decide +kernel
def RX10 : String := "HalfDays$Text"
def TX10 : u_T := fun k => match k with
  | 0 => ("HalfDays$Text", "clauses", "I", true)
  | 1 => ("HalfDays$Text", "strikes", "I", true)
  | 2 => ("HalfDays$Text", "key", "[I", true)
  | 3 => ("HalfDays$Text", "value", "[I", true)
  | 4 => ("HalfDays$Text", "at", "[I", true)
  | _ => ("HalfDays$Text", "code", "[I", true)
def tyX10 : Nat → FieldType := fun k => match k with
  | 0 => .int
  | 1 => .int
  | 2 => .array .int
  | 3 => .array .int
  | 4 => .array .int
  | _ => .array .int
abbrev wsX100 : List Cond := u_ws RX10 TX10 6
theorem nmX10 : ∀ a, a < 6 → ∀ b, b < 6 → a ≠ b → (TX10 a).2.1 ≠ (TX10 b).2.1 := by decide +kernel
theorem tyX10_ok : ∀ k, k < 6 → parseFieldDescriptor (TX10 k).2.2.1 = some (tyX10 k) := by decide +kernel
def RX11 : String := "HalfDays"
def TX11 : u_T := fun k => match k with
  | 0 => ("HalfDays", "now", "LHalfDays$County;", true)
  | 1 => ("HalfDays", "images", "[LHalfDays$County;", true)
  | 2 => ("HalfDays", "reader", "LHalfDays$Reader;", true)
  | 3 => ("HalfDays", "asker", "LHalfDays$Asker;", true)
  | 4 => ("HalfDays", "choices", "LHalfDays$Choices;", true)
  | _ => ("HalfDays", "refusal", "I", false)
def tyX11 : Nat → FieldType := fun k => match k with
  | 0 => .object "HalfDays$County"
  | 1 => .array (.object "HalfDays$County")
  | 2 => .object "HalfDays$Reader"
  | 3 => .object "HalfDays$Asker"
  | 4 => .object "HalfDays$Choices"
  | _ => .int
abbrev wsX110 : List Cond := u_ws RX11 TX11 6
theorem nmX11 : ∀ a, a < 6 → ∀ b, b < 6 → a ≠ b → (TX11 a).2.1 ≠ (TX11 b).2.1 := by decide +kernel
theorem tyX11_ok : ∀ k, k < 6 → parseFieldDescriptor (TX11 k).2.2.1 = some (tyX11 k) := by decide +kernel
def RX12 : String := "HalfDaysModel"
def TX12 : u_T := fun k => match k with
  | 0 => ("HalfDaysModel", "thrown", "I", false)
  | 1 => ("HalfDaysModel", "status", "I", false)
  | 2 => ("HalfDaysModel", "row", "[I", true)
  | 3 => ("HalfDaysModel", "images", "[I", true)
  | 4 => ("HalfDaysModel", "isKept", "[Z", true)
  | 5 => ("HalfDaysModel", "known", "I", false)
  | 6 => ("HalfDaysModel", "doesCount", "[Z", true)
  | 7 => ("HalfDaysModel", "letterOf", "[I", true)
  | 8 => ("HalfDaysModel", "kindOf", "[I", true)
  | 9 => ("HalfDaysModel", "clauseOf", "[I", true)
  | 10 => ("HalfDaysModel", "tape", "[I", true)
  | 11 => ("HalfDaysModel", "taped", "I", false)
  | 12 => ("HalfDaysModel", "from", "I", false)
  | 13 => ("HalfDaysModel", "to", "I", false)
  | 14 => ("HalfDaysModel", "sort", "I", false)
  | 15 => ("HalfDaysModel", "worth", "J", false)
  | 16 => ("HalfDaysModel", "fault", "I", false)
  | 17 => ("HalfDaysModel", "bad", "Z", false)
  | 18 => ("HalfDaysModel", "nClauses", "I", false)
  | 19 => ("HalfDaysModel", "nClause", "[I", true)
  | 20 => ("HalfDaysModel", "nCode", "I", false)
  | 21 => ("HalfDaysModel", "nOp", "[I", true)
  | 22 => ("HalfDaysModel", "nArg", "[I", true)
  | 23 => ("HalfDaysModel", "nLeaves", "I", false)
  | 24 => ("HalfDaysModel", "pile", "[I", true)
  | 25 => ("HalfDaysModel", "pileAt", "[I", true)
  | 26 => ("HalfDaysModel", "piled", "I", false)
  | 27 => ("HalfDaysModel", "opened", "I", false)
  | 28 => ("HalfDaysModel", "isOnText", "[Z", true)
  | 29 => ("HalfDaysModel", "isStruck", "[Z", true)
  | 30 => ("HalfDaysModel", "set", "[J", true)
  | 31 => ("HalfDaysModel", "rest", "[J", true)
  | 32 => ("HalfDaysModel", "broken", "Z", false)
  | 33 => ("HalfDaysModel", "value", "J", false)
  | 34 => ("HalfDaysModel", "sum", "J", false)
  | 35 => ("HalfDaysModel", "second", "I", false)
  | 36 => ("HalfDaysModel", "by", "I", false)
  | 37 => ("HalfDaysModel", "possible", "I", false)
  | 38 => ("HalfDaysModel", "away", "I", false)
  | 39 => ("HalfDaysModel", "possibleTo", "[I", true)
  | 40 => ("HalfDaysModel", "awayTo", "[I", true)
  | 41 => ("HalfDaysModel", "quick", "I", false)
  | 42 => ("HalfDaysModel", "hasJoin", "Z", false)
  | 43 => ("HalfDaysModel", "joinMany", "I", false)
  | 44 => ("HalfDaysModel", "joinRivals", "I", false)
  | 45 => ("HalfDaysModel", "joinRow", "[I", true)
  | 46 => ("HalfDaysModel", "joinNow", "[I", true)
  | 47 => ("HalfDaysModel", "likes", "I", false)
  | 48 => ("HalfDaysModel", "joins", "I", false)
  | 49 => ("HalfDaysModel", "ways", "[I", true)
  | 50 => ("HalfDaysModel", "possibleOf", "[I", true)
  | 51 => ("HalfDaysModel", "awayOf", "[I", true)
  | 52 => ("HalfDaysModel", "kindWas", "[I", true)
  | 53 => ("HalfDaysModel", "sealMany", "I", false)
  | 54 => ("HalfDaysModel", "sealSum", "I", false)
  | _ => ("HalfDaysModel", "sealPlaces", "I", false)
def tyX12 : Nat → FieldType := fun k => match k with
  | 0 => .int
  | 1 => .int
  | 2 => .array .int
  | 3 => .array .int
  | 4 => .array .boolean
  | 5 => .int
  | 6 => .array .boolean
  | 7 => .array .int
  | 8 => .array .int
  | 9 => .array .int
  | 10 => .array .int
  | 11 => .int
  | 12 => .int
  | 13 => .int
  | 14 => .int
  | 15 => .long
  | 16 => .int
  | 17 => .boolean
  | 18 => .int
  | 19 => .array .int
  | 20 => .int
  | 21 => .array .int
  | 22 => .array .int
  | 23 => .int
  | 24 => .array .int
  | 25 => .array .int
  | 26 => .int
  | 27 => .int
  | 28 => .array .boolean
  | 29 => .array .boolean
  | 30 => .array .long
  | 31 => .array .long
  | 32 => .boolean
  | 33 => .long
  | 34 => .long
  | 35 => .int
  | 36 => .int
  | 37 => .int
  | 38 => .int
  | 39 => .array .int
  | 40 => .array .int
  | 41 => .int
  | 42 => .boolean
  | 43 => .int
  | 44 => .int
  | 45 => .array .int
  | 46 => .array .int
  | 47 => .int
  | 48 => .int
  | 49 => .array .int
  | 50 => .array .int
  | 51 => .array .int
  | 52 => .array .int
  | 53 => .int
  | 54 => .int
  | _ => .int
abbrev wsX120 : List Cond := u_ws RX12 TX12 56
theorem nmX12 : ∀ a, a < 56 → ∀ b, b < 56 → a ≠ b → (TX12 a).2.1 ≠ (TX12 b).2.1 := by decide +kernel
theorem tyX12_ok : ∀ k, k < 56 → parseFieldDescriptor (TX12 k).2.2.1 = some (tyX12 k) := by decide +kernel
def RJ6 : String := "java/lang/Integer"
def RJ9 : String := "java/lang/Math"
def RJ10 : String := "java/lang/System"
def RJ7 : String := "java/util/Arrays"
def RL : String := "HalfDaysLaw"
abbrev cX0_init : ByteArray := prog_2_method_1_code
def yX0_init : MethodName := ⟨RX0, "<init>", "()V"⟩
abbrev cX0_addText : ByteArray := prog_2_method_2_code
def yX0_addText : MethodName := ⟨RX0, "addText", "(LHalfDays$Text;I)V"⟩
abbrev cX0_dropLastText : ByteArray := prog_2_method_3_code
def yX0_dropLastText : MethodName := ⟨RX0, "dropLastText", "()V"⟩
abbrev cX0_becomeLike : ByteArray := prog_2_method_4_code
def yX0_becomeLike : MethodName := ⟨RX0, "becomeLike", "(LHalfDays$Acts;)V"⟩
abbrev cX1_init : ByteArray := prog_3_method_1_code
def yX1_init : MethodName := ⟨RX1, "<init>", "(LHalfDays$County;)V"⟩
abbrev cX1_askOfMark : ByteArray := prog_3_method_2_code
def yX1_askOfMark : MethodName := ⟨RX1, "askOfMark", "(I)V"⟩
abbrev cX1_askOfDay : ByteArray := prog_3_method_3_code
def yX1_askOfDay : MethodName := ⟨RX1, "askOfDay", "(II)V"⟩
abbrev cX1_kindOf : ByteArray := prog_3_method_4_code
def yX1_kindOf : MethodName := ⟨RX1, "kindOf", "(II)I"⟩
abbrev cX1_clauseThatCounts : ByteArray := prog_3_method_5_code
def yX1_clauseThatCounts : MethodName := ⟨RX1, "clauseThatCounts", "()I"⟩
abbrev cX1_findLastThatHolds : ByteArray := prog_3_method_6_code
def yX1_findLastThatHolds : MethodName := ⟨RX1, "findLastThatHolds", "(I)Z"⟩
abbrev cX1_strikeClauses : ByteArray := prog_3_method_7_code
def yX1_strikeClauses : MethodName := ⟨RX1, "strikeClauses", "(I)V"⟩
abbrev cX1_isInForce : ByteArray := prog_3_method_8_code
def yX1_isInForce : MethodName := ⟨RX1, "isInForce", "(III)I"⟩
abbrev cX1_isHolding : ByteArray := prog_3_method_9_code
def yX1_isHolding : MethodName := ⟨RX1, "isHolding", "(LHalfDays$Text;I)Z"⟩
abbrev cX1_reckon : ByteArray := prog_3_method_10_code
def yX1_reckon : MethodName := ⟨RX1, "reckon", "([III)J"⟩
abbrev cX1_joinTwo : ByteArray := prog_3_method_11_code
def yX1_joinTwo : MethodName := ⟨RX1, "joinTwo", "(IJJ)J"⟩
abbrev cX1_wordsValue : ByteArray := prog_3_method_12_code
def yX1_wordsValue : MethodName := ⟨RX1, "wordsValue", "(I)I"⟩
abbrev cX1_tallyDays : ByteArray := prog_3_method_13_code
def yX1_tallyDays : MethodName := ⟨RX1, "tallyDays", "(II)V"⟩
abbrev cX1_awayWithin : ByteArray := prog_3_method_14_code
def yX1_awayWithin : MethodName := ⟨RX1, "awayWithin", "(II)I"⟩
abbrev cX1_firstDueDay : ByteArray := prog_3_method_15_code
def yX1_firstDueDay : MethodName := ⟨RX1, "firstDueDay", "(IIII)I"⟩
abbrev cX1_isStanding : ByteArray := prog_3_method_16_code
def yX1_isStanding : MethodName := ⟨RX1, "isStanding", "(III)Z"⟩
abbrev cX1_wholeFine : ByteArray := prog_3_method_17_code
def yX1_wholeFine : MethodName := ⟨RX1, "wholeFine", "(III)I"⟩
abbrev cX1_countSessions : ByteArray := prog_3_method_18_code
def yX1_countSessions : MethodName := ⟨RX1, "countSessions", "(IIIII)V"⟩
abbrev cX1_rateNumber : ByteArray := prog_3_method_19_code
def yX1_rateNumber : MethodName := ⟨RX1, "rateNumber", "(I)I"⟩
abbrev cX1_greatestDivisor : ByteArray := prog_3_method_20_code
def yX1_greatestDivisor : MethodName := ⟨RX1, "greatestDivisor", "(II)I"⟩
abbrev cX1_lastSeen : ByteArray := prog_3_method_21_code
def yX1_lastSeen : MethodName := ⟨RX1, "lastSeen", "(III)I"⟩
abbrev cX1_isThere : ByteArray := prog_3_method_22_code
def yX1_isThere : MethodName := ⟨RX1, "isThere", "(I)Z"⟩
abbrev cX1_noteKinds : ByteArray := prog_3_method_23_code
def yX1_noteKinds : MethodName := ⟨RX1, "noteKinds", "(I)V"⟩
abbrev cX1_countChangedKinds : ByteArray := prog_3_method_24_code
def yX1_countChangedKinds : MethodName := ⟨RX1, "countChangedKinds", "(I)I"⟩
abbrev cX1_isImpossible : ByteArray := prog_3_method_25_code
def yX1_isImpossible : MethodName := ⟨RX1, "isImpossible", "(I)Z"⟩
abbrev cX1_countWeek : ByteArray := prog_3_method_26_code
def yX1_countWeek : MethodName := ⟨RX1, "countWeek", "(II)V"⟩
abbrev cX1_schoolsLookedAt : ByteArray := prog_3_method_27_code
def yX1_schoolsLookedAt : MethodName := ⟨RX1, "schoolsLookedAt", "()I"⟩
abbrev cX1_dippingSchools : ByteArray := prog_3_method_28_code
def yX1_dippingSchools : MethodName := ⟨RX1, "dippingSchools", "(I)I"⟩
abbrev cX2_init : ByteArray := prog_4_method_1_code
def yX2_init : MethodName := ⟨RX2, "<init>", "(LHalfDays$County;)V"⟩
abbrev cX2_figuresAlike : ByteArray := prog_4_method_2_code
def yX2_figuresAlike : MethodName := ⟨RX2, "figuresAlike", "(II)I"⟩
abbrev cX2_bestJoin : ByteArray := prog_4_method_3_code
def yX2_bestJoin : MethodName := ⟨RX2, "bestJoin", "(I)I"⟩
abbrev cX2_noteLikeness : ByteArray := prog_4_method_4_code
def yX2_noteLikeness : MethodName := ⟨RX2, "noteLikeness", "(I)V"⟩
abbrev cX2_weighJoins : ByteArray := prog_4_method_5_code
def yX2_weighJoins : MethodName := ⟨RX2, "weighJoins", "(II)V"⟩
abbrev cX2_scoreWith : ByteArray := prog_4_method_6_code
def yX2_scoreWith : MethodName := ⟨RX2, "scoreWith", "(III)I"⟩
abbrev cX2_keepFirstBest : ByteArray := prog_4_method_7_code
def yX2_keepFirstBest : MethodName := ⟨RX2, "keepFirstBest", "()V"⟩
abbrev cX2_likeOfRow : ByteArray := prog_4_method_8_code
def yX2_likeOfRow : MethodName := ⟨RX2, "likeOfRow", "(II)I"⟩
abbrev cX2_bestRound : ByteArray := prog_4_method_9_code
def yX2_bestRound : MethodName := ⟨RX2, "bestRound", "(III)V"⟩
abbrev cX2_noteWays : ByteArray := prog_4_method_10_code
def yX2_noteWays : MethodName := ⟨RX2, "noteWays", "(II)V"⟩
abbrev cX2_fewestMinutes : ByteArray := prog_4_method_11_code
def yX2_fewestMinutes : MethodName := ⟨RX2, "fewestMinutes", "(I)I"⟩
abbrev cX2_wayFrom : ByteArray := prog_4_method_12_code
def yX2_wayFrom : MethodName := ⟨RX2, "wayFrom", "(III)I"⟩
abbrev cX2_worthOf : ByteArray := prog_4_method_13_code
def yX2_worthOf : MethodName := ⟨RX2, "worthOf", "(I)I"⟩
abbrev cX2_waysToDraw : ByteArray := prog_4_method_14_code
def yX2_waysToDraw : MethodName := ⟨RX2, "waysToDraw", "(Z)I"⟩
abbrev cX3_init : ByteArray := prog_5_method_1_code
def yX3_init : MethodName := ⟨RX3, "<init>", "()V"⟩
abbrev cX3_becomeLike : ByteArray := prog_5_method_2_code
def yX3_becomeLike : MethodName := ⟨RX3, "becomeLike", "(LHalfDays$County;)V"⟩
abbrev cX3_isOddOnRolls : ByteArray := prog_5_method_3_code
def yX3_isOddOnRolls : MethodName := ⟨RX3, "isOddOnRolls", "(III)Z"⟩
abbrev cX4_init : ByteArray := prog_6_method_1_code
def yX4_init : MethodName := ⟨RX4, "<init>", "()V"⟩
abbrev cX4_becomeLike : ByteArray := prog_6_method_2_code
def yX4_becomeLike : MethodName := ⟨RX4, "becomeLike", "(LHalfDays$Lists;)V"⟩
abbrev cX5_init : ByteArray := prog_7_method_1_code
def yX5_init : MethodName := ⟨RX5, "<init>", "()V"⟩
abbrev cX5_isNoMark : ByteArray := prog_7_method_2_code
def yX5_isNoMark : MethodName := ⟨RX5, "isNoMark", "(I)Z"⟩
abbrev cX5_addMark : ByteArray := prog_7_method_3_code
def yX5_addMark : MethodName := ⟨RX5, "addMark", "(IIIIII)I"⟩
abbrev cX5_latestKnown : ByteArray := prog_7_method_4_code
def yX5_latestKnown : MethodName := ⟨RX5, "latestKnown", "(IIII)I"⟩
abbrev cX5_countsAsKnown : ByteArray := prog_7_method_5_code
def yX5_countsAsKnown : MethodName := ⟨RX5, "countsAsKnown", "(II)Z"⟩
abbrev cX5_letterAsKnown : ByteArray := prog_7_method_6_code
def yX5_letterAsKnown : MethodName := ⟨RX5, "letterAsKnown", "(II)I"⟩
abbrev cX5_numberOf : ByteArray := prog_7_method_7_code
def yX5_numberOf : MethodName := ⟨RX5, "numberOf", "(I)I"⟩
abbrev cX5_turnBits : ByteArray := prog_7_method_8_code
def yX5_turnBits : MethodName := ⟨RX5, "turnBits", "(II)I"⟩
abbrev cX5_sealDay : ByteArray := prog_7_method_9_code
def yX5_sealDay : MethodName := ⟨RX5, "sealDay", "(I)I"⟩
abbrev cX5_sumDay : ByteArray := prog_7_method_10_code
def yX5_sumDay : MethodName := ⟨RX5, "sumDay", "(I)I"⟩
abbrev cX5_findAltered : ByteArray := prog_7_method_11_code
def yX5_findAltered : MethodName := ⟨RX5, "findAltered", "(I)I"⟩
abbrev cX5_markAtPlace : ByteArray := prog_7_method_12_code
def yX5_markAtPlace : MethodName := ⟨RX5, "markAtPlace", "(II)I"⟩
abbrev cX5_becomeLike : ByteArray := prog_7_method_13_code
def yX5_becomeLike : MethodName := ⟨RX5, "becomeLike", "(LHalfDays$Marks;)V"⟩
abbrev cX6_init : ByteArray := prog_8_method_1_code
def yX6_init : MethodName := ⟨RX6, "<init>", "()V"⟩
abbrev cX6_isNoChild : ByteArray := prog_8_method_2_code
def yX6_isNoChild : MethodName := ⟨RX6, "isNoChild", "(I)Z"⟩
abbrev cX6_isNoSchool : ByteArray := prog_8_method_3_code
def yX6_isNoSchool : MethodName := ⟨RX6, "isNoSchool", "(I)Z"⟩
abbrev cX6_addChild : ByteArray := prog_8_method_4_code
def yX6_addChild : MethodName := ⟨RX6, "addChild", "(IZIII)I"⟩
abbrev cX6_isShut : ByteArray := prog_8_method_5_code
def yX6_isShut : MethodName := ⟨RX6, "isShut", "(II)Z"⟩
abbrev cX6_hasFailed : ByteArray := prog_8_method_6_code
def yX6_hasFailed : MethodName := ⟨RX6, "hasFailed", "(II)Z"⟩
abbrev cX6_addBus : ByteArray := prog_8_method_7_code
def yX6_addBus : MethodName := ⟨RX6, "addBus", "(II)I"⟩
abbrev cX6_isWithin : ByteArray := prog_8_method_8_code
def yX6_isWithin : MethodName := ⟨RX6, "isWithin", "(III)Z"⟩
abbrev cX6_addSpan : ByteArray := prog_8_method_9_code
def yX6_addSpan : MethodName := ⟨RX6, "addSpan", "(IIII)I"⟩
abbrev cX6_becomeLike : ByteArray := prog_8_method_10_code
def yX6_becomeLike : MethodName := ⟨RX6, "becomeLike", "(LHalfDays$People;)V"⟩
abbrev cX7_init : ByteArray := prog_9_method_1_code
def yX7_init : MethodName := ⟨RX7, "<init>", "()V"⟩
abbrev cX7_append : ByteArray := prog_9_method_2_code
def yX7_append : MethodName := ⟨RX7, "append", "(I)V"⟩
abbrev cX7_readText : ByteArray := prog_9_method_3_code
def yX7_readText : MethodName := ⟨RX7, "readText", "()LHalfDays$Text;"⟩
abbrev cX7_readHead : ByteArray := prog_9_method_4_code
def yX7_readHead : MethodName := ⟨RX7, "readHead", "()V"⟩
abbrev cX7_readStepHead : ByteArray := prog_9_method_5_code
def yX7_readStepHead : MethodName := ⟨RX7, "readStepHead", "(IJ)V"⟩
abbrev cX7_putHead : ByteArray := prog_9_method_6_code
def yX7_putHead : MethodName := ⟨RX7, "putHead", "(II)V"⟩
abbrev cX7_readTest : ByteArray := prog_9_method_7_code
def yX7_readTest : MethodName := ⟨RX7, "readTest", "(I)V"⟩
abbrev cX7_readPlain : ByteArray := prog_9_method_8_code
def yX7_readPlain : MethodName := ⟨RX7, "readPlain", "(I)V"⟩
abbrev cX7_readSum : ByteArray := prog_9_method_9_code
def yX7_readSum : MethodName := ⟨RX7, "readSum", "(I)V"⟩
abbrev cX7_readPart : ByteArray := prog_9_method_10_code
def yX7_readPart : MethodName := ⟨RX7, "readPart", "(I)V"⟩
abbrev cX7_readLeaf : ByteArray := prog_9_method_11_code
def yX7_readLeaf : MethodName := ⟨RX7, "readLeaf", "(II)V"⟩
abbrev cX7_closeBracket : ByteArray := prog_9_method_12_code
def yX7_closeBracket : MethodName := ⟨RX7, "closeBracket", "(I)V"⟩
abbrev cX7_emit : ByteArray := prog_9_method_13_code
def yX7_emit : MethodName := ⟨RX7, "emit", "(II)V"⟩
abbrev cX7_landJump : ByteArray := prog_9_method_14_code
def yX7_landJump : MethodName := ⟨RX7, "landJump", "(I)V"⟩
abbrev cX7_takeNumber : ByteArray := prog_9_method_15_code
def yX7_takeNumber : MethodName := ⟨RX7, "takeNumber", "(II)I"⟩
abbrev cX7_takeLetter : ByteArray := prog_9_method_16_code
def yX7_takeLetter : MethodName := ⟨RX7, "takeLetter", "()I"⟩
abbrev cX7_takeKind : ByteArray := prog_9_method_17_code
def yX7_takeKind : MethodName := ⟨RX7, "takeKind", "()I"⟩
abbrev cX7_takeWord : ByteArray := prog_9_method_18_code
def yX7_takeWord : MethodName := ⟨RX7, "takeWord", "(J)V"⟩
abbrev cX7_wordAmong : ByteArray := prog_9_method_19_code
def yX7_wordAmong : MethodName := ⟨RX7, "wordAmong", "([J)I"⟩
abbrev cX7_isSign : ByteArray := prog_9_method_20_code
def yX7_isSign : MethodName := ⟨RX7, "isSign", "(I)Z"⟩
abbrev cX7_refuseToken : ByteArray := prog_9_method_21_code
def yX7_refuseToken : MethodName := ⟨RX7, "refuseToken", "()V"⟩
abbrev cX7_nextToken : ByteArray := prog_9_method_22_code
def yX7_nextToken : MethodName := ⟨RX7, "nextToken", "()V"⟩
abbrev cX8_init : ByteArray := prog_10_method_1_code
def yX8_init : MethodName := ⟨RX8, "<init>", "()V"⟩
abbrev cX8_addEntry : ByteArray := prog_10_method_2_code
def yX8_addEntry : MethodName := ⟨RX8, "addEntry", "(III)I"⟩
abbrev cX8_latestOf : ByteArray := prog_10_method_3_code
def yX8_latestOf : MethodName := ⟨RX8, "latestOf", "(II)I"⟩
abbrev cX8_isListed : ByteArray := prog_10_method_4_code
def yX8_isListed : MethodName := ⟨RX8, "isListed", "(III)Z"⟩
abbrev cX8_isListedWithin : ByteArray := prog_10_method_5_code
def yX8_isListedWithin : MethodName := ⟨RX8, "isListedWithin", "(IIII)Z"⟩
abbrev cX8_schoolsOf : ByteArray := prog_10_method_6_code
def yX8_schoolsOf : MethodName := ⟨RX8, "schoolsOf", "(II)I"⟩
abbrev cX8_isLost : ByteArray := prog_10_method_7_code
def yX8_isLost : MethodName := ⟨RX8, "isLost", "(II)Z"⟩
abbrev cX8_becomeLike : ByteArray := prog_10_method_8_code
def yX8_becomeLike : MethodName := ⟨RX8, "becomeLike", "(LHalfDays$Rolls;)V"⟩
abbrev cX9_init : ByteArray := prog_11_method_1_code
def yX9_init : MethodName := ⟨RX9, "<init>", "()V"⟩
abbrev cX9_becomeLike : ByteArray := prog_11_method_2_code
def yX9_becomeLike : MethodName := ⟨RX9, "becomeLike", "(LHalfDays$Steps;)V"⟩
abbrev cX10_init : ByteArray := prog_12_method_1_code
def yX10_init : MethodName := ⟨RX10, "<init>", "(LHalfDays$Reader;)V"⟩
abbrev cX11_init : ByteArray := prog_1_method_1_code
def yX11_init : MethodName := ⟨RX11, "<init>", "()V"⟩
abbrev cX11_child : ByteArray := prog_1_method_2_code
def yX11_child : MethodName := ⟨RX11, "child", "(IZIII)I"⟩
abbrev cX11_school : ByteArray := prog_1_method_3_code
def yX11_school : MethodName := ⟨RX11, "school", "()I"⟩
abbrev cX11_shut : ByteArray := prog_1_method_4_code
def yX11_shut : MethodName := ⟨RX11, "shut", "(II)I"⟩
abbrev cX11_comes : ByteArray := prog_1_method_5_code
def yX11_comes : MethodName := ⟨RX11, "comes", "(III)I"⟩
abbrev cX11_goes : ByteArray := prog_1_method_6_code
def yX11_goes : MethodName := ⟨RX11, "goes", "(IIII)I"⟩
abbrev cX11_isOn : ByteArray := prog_1_method_7_code
def yX11_isOn : MethodName := ⟨RX11, "isOn", "(III)I"⟩
abbrev cX11_failed : ByteArray := prog_1_method_8_code
def yX11_failed : MethodName := ⟨RX11, "failed", "(II)I"⟩
abbrev cX11_has : ByteArray := prog_1_method_9_code
def yX11_has : MethodName := ⟨RX11, "has", "(IIII)I"⟩
abbrev cX11_mark : ByteArray := prog_1_method_10_code
def yX11_mark : MethodName := ⟨RX11, "mark", "(IIIIII)I"⟩
abbrev cX11_appeal : ByteArray := prog_1_method_11_code
def yX11_appeal : MethodName := ⟨RX11, "appeal", "(III)I"⟩
abbrev cX11_tells : ByteArray := prog_1_method_12_code
def yX11_tells : MethodName := ⟨RX11, "tells", "(IIIII)I"⟩
abbrev cX11_sees : ByteArray := prog_1_method_13_code
def yX11_sees : MethodName := ⟨RX11, "sees", "(IIIII)I"⟩
abbrev cX11_feed : ByteArray := prog_1_method_14_code
def yX11_feed : MethodName := ⟨RX11, "feed", "(IIIII)I"⟩
abbrev cX11_end : ByteArray := prog_1_method_15_code
def yX11_end : MethodName := ⟨RX11, "end", "(I)I"⟩
abbrev cX11_act : ByteArray := prog_1_method_16_code
def yX11_act : MethodName := ⟨RX11, "act", "(I)I"⟩
abbrev cX11_fault : ByteArray := prog_1_method_17_code
def yX11_fault : MethodName := ⟨RX11, "fault", "()I"⟩
abbrev cX11_force : ByteArray := prog_1_method_18_code
def yX11_force : MethodName := ⟨RX11, "force", "(III)I"⟩
abbrev cX11_rate : ByteArray := prog_1_method_19_code
def yX11_rate : MethodName := ⟨RX11, "rate", "(IIIII)I"⟩
abbrev cX11_dip : ByteArray := prog_1_method_20_code
def yX11_dip : MethodName := ⟨RX11, "dip", "(IIIII)I"⟩
abbrev cX11_due : ByteArray := prog_1_method_21_code
def yX11_due : MethodName := ⟨RX11, "due", "(IIII)I"⟩
abbrev cX11_take : ByteArray := prog_1_method_22_code
def yX11_take : MethodName := ⟨RX11, "take", "(III)I"⟩
abbrev cX11_stands : ByteArray := prog_1_method_23_code
def yX11_stands : MethodName := ⟨RX11, "stands", "(III)I"⟩
abbrev cX11_pay : ByteArray := prog_1_method_24_code
def yX11_pay : MethodName := ⟨RX11, "pay", "(III)I"⟩
abbrev cX11_fine : ByteArray := prog_1_method_25_code
def yX11_fine : MethodName := ⟨RX11, "fine", "(IIII)I"⟩
abbrev cX11_off : ByteArray := prog_1_method_26_code
def yX11_off : MethodName := ⟨RX11, "off", "(III)I"⟩
abbrev cX11_rolls : ByteArray := prog_1_method_27_code
def yX11_rolls : MethodName := ⟨RX11, "rolls", "(III)I"⟩
abbrev cX11_seen : ByteArray := prog_1_method_28_code
def yX11_seen : MethodName := ⟨RX11, "seen", "(III)I"⟩
abbrev cX11_record : ByteArray := prog_1_method_29_code
def yX11_record : MethodName := ⟨RX11, "record", "(I)I"⟩
abbrev cX11_missing : ByteArray := prog_1_method_30_code
def yX11_missing : MethodName := ⟨RX11, "missing", "(II)I"⟩
abbrev cX11_join : ByteArray := prog_1_method_31_code
def yX11_join : MethodName := ⟨RX11, "join", "(I)I"⟩
abbrev cX11_joined : ByteArray := prog_1_method_32_code
def yX11_joined : MethodName := ⟨RX11, "joined", "(I)I"⟩
abbrev cX11_judge : ByteArray := prog_1_method_33_code
def yX11_judge : MethodName := ⟨RX11, "judge", "(II)I"⟩
abbrev cX11_cannot : ByteArray := prog_1_method_34_code
def yX11_cannot : MethodName := ⟨RX11, "cannot", "(IIII)I"⟩
abbrev cX11_visit : ByteArray := prog_1_method_35_code
def yX11_visit : MethodName := ⟨RX11, "visit", "(III)I"⟩
abbrev cX11_round : ByteArray := prog_1_method_36_code
def yX11_round : MethodName := ⟨RX11, "round", "(IIII)I"⟩
abbrev cX11_dips : ByteArray := prog_1_method_37_code
def yX11_dips : MethodName := ⟨RX11, "dips", "(IIII)I"⟩
abbrev cX11_draw : ByteArray := prog_1_method_38_code
def yX11_draw : MethodName := ⟨RX11, "draw", "(III)I"⟩
abbrev cX11_helped : ByteArray := prog_1_method_39_code
def yX11_helped : MethodName := ⟨RX11, "helped", "(I)I"⟩
abbrev cX11_beside : ByteArray := prog_1_method_40_code
def yX11_beside : MethodName := ⟨RX11, "beside", "(II)I"⟩
abbrev cX11_seal : ByteArray := prog_1_method_41_code
def yX11_seal : MethodName := ⟨RX11, "seal", "(I)I"⟩
abbrev cX11_alter : ByteArray := prog_1_method_42_code
def yX11_alter : MethodName := ⟨RX11, "alter", "(II)I"⟩
abbrev cX11_found : ByteArray := prog_1_method_43_code
def yX11_found : MethodName := ⟨RX11, "found", "(I)I"⟩
abbrev cX11_image : ByteArray := prog_1_method_44_code
def yX11_image : MethodName := ⟨RX11, "image", "(I)I"⟩
abbrev cX11_back : ByteArray := prog_1_method_45_code
def yX11_back : MethodName := ⟨RX11, "back", "(I)I"⟩
abbrev cX11_count : ByteArray := prog_1_method_46_code
def yX11_count : MethodName := ⟨RX11, "count", "(I)I"⟩
abbrev cX11_status : ByteArray := prog_1_method_47_code
def yX11_status : MethodName := ⟨RX11, "status", "()I"⟩
abbrev cX11_answer : ByteArray := prog_1_method_48_code
def yX11_answer : MethodName := ⟨RX11, "answer", "(I)I"⟩
abbrev cX11_markThatCounts : ByteArray := prog_1_method_49_code
def yX11_markThatCounts : MethodName := ⟨RX11, "markThatCounts", "(IIII)I"⟩
abbrev cX11_isOutside : ByteArray := prog_1_method_50_code
def yX11_isOutside : MethodName := ⟨RX11, "isOutside", "(III)Z"⟩
abbrev cX11_isNoDay : ByteArray := prog_1_method_51_code
def yX11_isNoDay : MethodName := ⟨RX11, "isNoDay", "(I)Z"⟩
abbrev cX11_isNoHalf : ByteArray := prog_1_method_52_code
def yX11_isNoHalf : MethodName := ⟨RX11, "isNoHalf", "(I)Z"⟩
abbrev cX11_areNoHalves : ByteArray := prog_1_method_53_code
def yX11_areNoHalves : MethodName := ⟨RX11, "areNoHalves", "(II)Z"⟩
abbrev cX11_isNoStep : ByteArray := prog_1_method_54_code
def yX11_isNoStep : MethodName := ⟨RX11, "isNoStep", "(I)Z"⟩
abbrev cX11_isNoPlace : ByteArray := prog_1_method_55_code
def yX11_isNoPlace : MethodName := ⟨RX11, "isNoPlace", "(II)Z"⟩
abbrev cX11_areNoFigures : ByteArray := prog_1_method_56_code
def yX11_areNoFigures : MethodName := ⟨RX11, "areNoFigures", "(I)Z"⟩
abbrev cX11_isAmong : ByteArray := prog_1_method_57_code
def yX11_isAmong : MethodName := ⟨RX11, "isAmong", "([III)Z"⟩
abbrev cX11_copyRow : ByteArray := prog_1_method_58_code
def yX11_copyRow : MethodName := ⟨RX11, "copyRow", "([I[I)V"⟩
abbrev cX12_init : ByteArray := prog_14_method_1_code
def yX12_init : MethodName := ⟨RX12, "<init>", "()V"⟩
abbrev cX12_in : ByteArray := prog_14_method_3_code
def yX12_in : MethodName := ⟨RX12, "in", "(JJJ)Z"⟩
abbrev cX12_told : ByteArray := prog_14_method_4_code
def yX12_told : MethodName := ⟨RX12, "told", "(I)I"⟩
abbrev cX12_isDay : ByteArray := prog_14_method_5_code
def yX12_isDay : MethodName := ⟨RX12, "isDay", "(I)Z"⟩
abbrev cX12_isHalf : ByteArray := prog_14_method_6_code
def yX12_isHalf : MethodName := ⟨RX12, "isHalf", "(I)Z"⟩
abbrev cX12_image : ByteArray := prog_14_method_7_code
def yX12_image : MethodName := ⟨RX12, "image", "(I)I"⟩
abbrev cX12_back : ByteArray := prog_14_method_8_code
def yX12_back : MethodName := ⟨RX12, "back", "(I)I"⟩
abbrev cX12_addFour : ByteArray := prog_14_method_9_code
def yX12_addFour : MethodName := ⟨RX12, "addFour", "(IIIII)V"⟩
abbrev cX12_isChild : ByteArray := prog_14_method_10_code
def yX12_isChild : MethodName := ⟨RX12, "isChild", "(I)Z"⟩
abbrev cX12_isSchool : ByteArray := prog_14_method_11_code
def yX12_isSchool : MethodName := ⟨RX12, "isSchool", "(I)Z"⟩
abbrev cX12_childAt : ByteArray := prog_14_method_12_code
def yX12_childAt : MethodName := ⟨RX12, "childAt", "(I)I"⟩
abbrev cX12_child : ByteArray := prog_14_method_13_code
def yX12_child : MethodName := ⟨RX12, "child", "(IZIII)I"⟩
abbrev cX12_school : ByteArray := prog_14_method_14_code
def yX12_school : MethodName := ⟨RX12, "school", "()I"⟩
abbrev cX12_shut : ByteArray := prog_14_method_15_code
def yX12_shut : MethodName := ⟨RX12, "shut", "(II)I"⟩
abbrev cX12_isOnRoll : ByteArray := prog_14_method_16_code
def yX12_isOnRoll : MethodName := ⟨RX12, "isOnRoll", "(II)Z"⟩
abbrev cX12_isOnSchool : ByteArray := prog_14_method_17_code
def yX12_isOnSchool : MethodName := ⟨RX12, "isOnSchool", "(III)Z"⟩
abbrev cX12_comes : ByteArray := prog_14_method_18_code
def yX12_comes : MethodName := ⟨RX12, "comes", "(III)I"⟩
abbrev cX12_goes : ByteArray := prog_14_method_19_code
def yX12_goes : MethodName := ⟨RX12, "goes", "(IIII)I"⟩
abbrev cX12_isOn : ByteArray := prog_14_method_20_code
def yX12_isOn : MethodName := ⟨RX12, "isOn", "(III)I"⟩
abbrev cX12_failed : ByteArray := prog_14_method_21_code
def yX12_failed : MethodName := ⟨RX12, "failed", "(II)I"⟩
abbrev cX12_hasFailed : ByteArray := prog_14_method_22_code
def yX12_hasFailed : MethodName := ⟨RX12, "hasFailed", "(II)Z"⟩
abbrev cX12_has : ByteArray := prog_14_method_23_code
def yX12_has : MethodName := ⟨RX12, "has", "(IIII)I"⟩
abbrev cX12_hasOn : ByteArray := prog_14_method_24_code
def yX12_hasOn : MethodName := ⟨RX12, "hasOn", "(III)Z"⟩
abbrev cX12_markAt : ByteArray := prog_14_method_25_code
def yX12_markAt : MethodName := ⟨RX12, "markAt", "(I)I"⟩
abbrev cX12_isMark : ByteArray := prog_14_method_26_code
def yX12_isMark : MethodName := ⟨RX12, "isMark", "(I)Z"⟩
abbrev cX12_mark : ByteArray := prog_14_method_27_code
def yX12_mark : MethodName := ⟨RX12, "mark", "(IIIIII)I"⟩
abbrev cX12_appeal : ByteArray := prog_14_method_28_code
def yX12_appeal : MethodName := ⟨RX12, "appeal", "(III)I"⟩
abbrev cX12_knowBy : ByteArray := prog_14_method_29_code
def yX12_knowBy : MethodName := ⟨RX12, "knowBy", "(I)V"⟩
abbrev cX12_findKinds : ByteArray := prog_14_method_30_code
def yX12_findKinds : MethodName := ⟨RX12, "findKinds", "()V"⟩
abbrev cX12_countsIn : ByteArray := prog_14_method_31_code
def yX12_countsIn : MethodName := ⟨RX12, "countsIn", "(III)I"⟩
abbrev cX12_tells : ByteArray := prog_14_method_32_code
def yX12_tells : MethodName := ⟨RX12, "tells", "(IIIII)I"⟩
abbrev cX12_sees : ByteArray := prog_14_method_33_code
def yX12_sees : MethodName := ⟨RX12, "sees", "(IIIII)I"⟩
abbrev cX12_four : ByteArray := prog_14_method_34_code
def yX12_four : MethodName := ⟨RX12, "four", "(I)V"⟩
abbrev cX12_feed : ByteArray := prog_14_method_35_code
def yX12_feed : MethodName := ⟨RX12, "feed", "(IIIII)I"⟩
abbrev cX12_end : ByteArray := prog_14_method_36_code
def yX12_end : MethodName := ⟨RX12, "end", "(I)I"⟩
abbrev cX12_isSmall : ByteArray := prog_14_method_37_code
def yX12_isSmall : MethodName := ⟨RX12, "isSmall", "(I)Z"⟩
abbrev cX12_isDigit : ByteArray := prog_14_method_38_code
def yX12_isDigit : MethodName := ⟨RX12, "isDigit", "(I)Z"⟩
abbrev cX12_begin : ByteArray := prog_14_method_39_code
def yX12_begin : MethodName := ⟨RX12, "begin", "()V"⟩
abbrev cX12_next : ByteArray := prog_14_method_40_code
def yX12_next : MethodName := ⟨RX12, "next", "()V"⟩
abbrev cX12_isWord : ByteArray := prog_14_method_41_code
def yX12_isWord : MethodName := ⟨RX12, "isWord", "(J)Z"⟩
abbrev cX12_isSign : ByteArray := prog_14_method_42_code
def yX12_isSign : MethodName := ⟨RX12, "isSign", "(I)Z"⟩
abbrev cX12_must : ByteArray := prog_14_method_43_code
def yX12_must : MethodName := ⟨RX12, "must", "(Z)V"⟩
abbrev cX12_number : ByteArray := prog_14_method_44_code
def yX12_number : MethodName := ⟨RX12, "number", "(JJ)I"⟩
abbrev cX12_fault : ByteArray := prog_14_method_45_code
def yX12_fault : MethodName := ⟨RX12, "fault", "()I"⟩
abbrev cX12_emit : ByteArray := prog_14_method_46_code
def yX12_emit : MethodName := ⟨RX12, "emit", "(II)V"⟩
abbrev cX12_push : ByteArray := prog_14_method_47_code
def yX12_push : MethodName := ⟨RX12, "push", "(II)V"⟩
abbrev cX12_binds : ByteArray := prog_14_method_48_code
def yX12_binds : MethodName := ⟨RX12, "binds", "(I)I"⟩
abbrev cX12_settle : ByteArray := prog_14_method_49_code
def yX12_settle : MethodName := ⟨RX12, "settle", "(I)V"⟩
abbrev cX12_inner : ByteArray := prog_14_method_50_code
def yX12_inner : MethodName := ⟨RX12, "inner", "()I"⟩
abbrev cX12_isCompared : ByteArray := prog_14_method_51_code
def yX12_isCompared : MethodName := ⟨RX12, "isCompared", "()Z"⟩
abbrev cX12_partAt : ByteArray := prog_14_method_52_code
def yX12_partAt : MethodName := ⟨RX12, "partAt", "()I"⟩
abbrev cX12_plainAt : ByteArray := prog_14_method_53_code
def yX12_plainAt : MethodName := ⟨RX12, "plainAt", "()I"⟩
abbrev cX12_open : ByteArray := prog_14_method_54_code
def yX12_open : MethodName := ⟨RX12, "open", "(I)V"⟩
abbrev cX12_leaf : ByteArray := prog_14_method_55_code
def yX12_leaf : MethodName := ⟨RX12, "leaf", "(ZII)V"⟩
abbrev cX12_readPart : ByteArray := prog_14_method_56_code
def yX12_readPart : MethodName := ⟨RX12, "readPart", "()I"⟩
abbrev cX12_readPlain : ByteArray := prog_14_method_57_code
def yX12_readPlain : MethodName := ⟨RX12, "readPlain", "()I"⟩
abbrev cX12_behindSum : ByteArray := prog_14_method_58_code
def yX12_behindSum : MethodName := ⟨RX12, "behindSum", "(Z)I"⟩
abbrev cX12_behindTest : ByteArray := prog_14_method_59_code
def yX12_behindTest : MethodName := ⟨RX12, "behindTest", "()I"⟩
abbrev cX12_readExpression : ByteArray := prog_14_method_60_code
def yX12_readExpression : MethodName := ⟨RX12, "readExpression", "(Z)V"⟩
abbrev cX12_headAt : ByteArray := prog_14_method_61_code
def yX12_headAt : MethodName := ⟨RX12, "headAt", "()I"⟩
abbrev cX12_letter : ByteArray := prog_14_method_62_code
def yX12_letter : MethodName := ⟨RX12, "letter", "()I"⟩
abbrev cX12_kind : ByteArray := prog_14_method_63_code
def yX12_kind : MethodName := ⟨RX12, "kind", "()I"⟩
abbrev cX12_readClause : ByteArray := prog_14_method_64_code
def yX12_readClause : MethodName := ⟨RX12, "readClause", "()V"⟩
abbrev cX12_readText : ByteArray := prog_14_method_65_code
def yX12_readText : MethodName := ⟨RX12, "readText", "(I)Z"⟩
abbrev cX12_act : ByteArray := prog_14_method_66_code
def yX12_act : MethodName := ⟨RX12, "act", "(I)I"⟩
abbrev cX12_textAt : ByteArray := prog_14_method_67_code
def yX12_textAt : MethodName := ⟨RX12, "textAt", "(I)I"⟩
abbrev cX12_clauseAt : ByteArray := prog_14_method_68_code
def yX12_clauseAt : MethodName := ⟨RX12, "clauseAt", "(II)I"⟩
abbrev cX12_findForce : ByteArray := prog_14_method_69_code
def yX12_findForce : MethodName := ⟨RX12, "findForce", "(I)V"⟩
abbrev cX12_force : ByteArray := prog_14_method_70_code
def yX12_force : MethodName := ⟨RX12, "force", "(III)I"⟩
abbrev cX12_setFor : ByteArray := prog_14_method_71_code
def yX12_setFor : MethodName := ⟨RX12, "setFor", "(II)V"⟩
abbrev cX12_reckon : ByteArray := prog_14_method_72_code
def yX12_reckon : MethodName := ⟨RX12, "reckon", "(IJJ)J"⟩
abbrev cX12_run : ByteArray := prog_14_method_73_code
def yX12_run : MethodName := ⟨RX12, "run", "(III)V"⟩
abbrev cX12_find : ByteArray := prog_14_method_74_code
def yX12_find : MethodName := ⟨RX12, "find", "(III)Z"⟩
abbrev cX12_isSo : ByteArray := prog_14_method_75_code
def yX12_isSo : MethodName := ⟨RX12, "isSo", "(II)Z"⟩
abbrev cX12_common : ByteArray := prog_14_method_76_code
def yX12_common : MethodName := ⟨RX12, "common", "(JJ)J"⟩
abbrev cX12_addUp : ByteArray := prog_14_method_77_code
def yX12_addUp : MethodName := ⟨RX12, "addUp", "(IIII)V"⟩
abbrev cX12_tellRate : ByteArray := prog_14_method_78_code
def yX12_tellRate : MethodName := ⟨RX12, "tellRate", "(I)I"⟩
abbrev cX12_rate : ByteArray := prog_14_method_79_code
def yX12_rate : MethodName := ⟨RX12, "rate", "(IIIII)I"⟩
abbrev cX12_dip : ByteArray := prog_14_method_80_code
def yX12_dip : MethodName := ⟨RX12, "dip", "(IIIII)I"⟩
abbrev cX12_findSessions : ByteArray := prog_14_method_81_code
def yX12_findSessions : MethodName := ⟨RX12, "findSessions", "(I)V"⟩
abbrev cX12_setDay : ByteArray := prog_14_method_82_code
def yX12_setDay : MethodName := ⟨RX12, "setDay", "(II)V"⟩
abbrev cX12_dueOf : ByteArray := prog_14_method_83_code
def yX12_dueOf : MethodName := ⟨RX12, "dueOf", "(III)I"⟩
abbrev cX12_isStep : ByteArray := prog_14_method_84_code
def yX12_isStep : MethodName := ⟨RX12, "isStep", "(I)Z"⟩
abbrev cX12_due : ByteArray := prog_14_method_85_code
def yX12_due : MethodName := ⟨RX12, "due", "(IIII)I"⟩
abbrev cX12_takenOn : ByteArray := prog_14_method_86_code
def yX12_takenOn : MethodName := ⟨RX12, "takenOn", "(II)I"⟩
abbrev cX12_dueFrom : ByteArray := prog_14_method_87_code
def yX12_dueFrom : MethodName := ⟨RX12, "dueFrom", "(II)I"⟩
abbrev cX12_take : ByteArray := prog_14_method_88_code
def yX12_take : MethodName := ⟨RX12, "take", "(III)I"⟩
abbrev cX12_doesStand : ByteArray := prog_14_method_89_code
def yX12_doesStand : MethodName := ⟨RX12, "doesStand", "(III)Z"⟩
abbrev cX12_stands : ByteArray := prog_14_method_90_code
def yX12_stands : MethodName := ⟨RX12, "stands", "(III)I"⟩
abbrev cX12_fineOf : ByteArray := prog_14_method_91_code
def yX12_fineOf : MethodName := ⟨RX12, "fineOf", "(II)I"⟩
abbrev cX12_pay : ByteArray := prog_14_method_92_code
def yX12_pay : MethodName := ⟨RX12, "pay", "(III)I"⟩
abbrev cX12_fine : ByteArray := prog_14_method_93_code
def yX12_fine : MethodName := ⟨RX12, "fine", "(IIII)I"⟩
abbrev cX12_off : ByteArray := prog_14_method_94_code
def yX12_off : MethodName := ⟨RX12, "off", "(III)I"⟩
abbrev cX12_rollsOf : ByteArray := prog_14_method_95_code
def yX12_rollsOf : MethodName := ⟨RX12, "rollsOf", "(II)I"⟩
abbrev cX12_isLost : ByteArray := prog_14_method_96_code
def yX12_isLost : MethodName := ⟨RX12, "isLost", "(II)Z"⟩
abbrev cX12_rolls : ByteArray := prog_14_method_97_code
def yX12_rolls : MethodName := ⟨RX12, "rolls", "(III)I"⟩
abbrev cX12_seen : ByteArray := prog_14_method_98_code
def yX12_seen : MethodName := ⟨RX12, "seen", "(III)I"⟩
abbrev cX12_record : ByteArray := prog_14_method_99_code
def yX12_record : MethodName := ⟨RX12, "record", "(I)I"⟩
abbrev cX12_missing : ByteArray := prog_14_method_100_code
def yX12_missing : MethodName := ⟨RX12, "missing", "(II)I"⟩
abbrev cX12_likeOf : ByteArray := prog_14_method_101_code
def yX12_likeOf : MethodName := ⟨RX12, "likeOf", "(II)I"⟩
abbrev cX12_isJoin : ByteArray := prog_14_method_102_code
def yX12_isJoin : MethodName := ⟨RX12, "isJoin", "(I)Z"⟩
abbrev cX12_join : ByteArray := prog_14_method_103_code
def yX12_join : MethodName := ⟨RX12, "join", "(I)I"⟩
abbrev cX12_joined : ByteArray := prog_14_method_104_code
def yX12_joined : MethodName := ⟨RX12, "joined", "(I)I"⟩
abbrev cX12_judge : ByteArray := prog_14_method_105_code
def yX12_judge : MethodName := ⟨RX12, "judge", "(II)I"⟩
abbrev cX12_cannotBe : ByteArray := prog_14_method_106_code
def yX12_cannotBe : MethodName := ⟨RX12, "cannotBe", "(I)Z"⟩
abbrev cX12_cannot : ByteArray := prog_14_method_107_code
def yX12_cannot : MethodName := ⟨RX12, "cannot", "(IIII)I"⟩
abbrev cX12_visit : ByteArray := prog_14_method_108_code
def yX12_visit : MethodName := ⟨RX12, "visit", "(III)I"⟩
abbrev cX12_far : ByteArray := prog_14_method_109_code
def yX12_far : MethodName := ⟨RX12, "far", "(III)I"⟩
abbrev cX12_between : ByteArray := prog_14_method_110_code
def yX12_between : MethodName := ⟨RX12, "between", "(II)I"⟩
abbrev cX12_minutesOf : ByteArray := prog_14_method_111_code
def yX12_minutesOf : MethodName := ⟨RX12, "minutesOf", "(III)I"⟩
abbrev cX12_findWays : ByteArray := prog_14_method_112_code
def yX12_findWays : MethodName := ⟨RX12, "findWays", "(II)V"⟩
abbrev cX12_round : ByteArray := prog_14_method_113_code
def yX12_round : MethodName := ⟨RX12, "round", "(IIII)I"⟩
abbrev cX12_dips : ByteArray := prog_14_method_114_code
def yX12_dips : MethodName := ⟨RX12, "dips", "(IIII)I"⟩
abbrev cX12_draw : ByteArray := prog_14_method_115_code
def yX12_draw : MethodName := ⟨RX12, "draw", "(III)I"⟩
abbrev cX12_helped : ByteArray := prog_14_method_116_code
def yX12_helped : MethodName := ⟨RX12, "helped", "(I)I"⟩
abbrev cX12_beside : ByteArray := prog_14_method_117_code
def yX12_beside : MethodName := ⟨RX12, "beside", "(II)I"⟩
abbrev cX12_addDay : ByteArray := prog_14_method_118_code
def yX12_addDay : MethodName := ⟨RX12, "addDay", "(I)V"⟩
abbrev cX12_seal : ByteArray := prog_14_method_119_code
def yX12_seal : MethodName := ⟨RX12, "seal", "(I)I"⟩
abbrev cX12_alter : ByteArray := prog_14_method_120_code
def yX12_alter : MethodName := ⟨RX12, "alter", "(II)I"⟩
abbrev cX12_found : ByteArray := prog_14_method_121_code
def yX12_found : MethodName := ⟨RX12, "found", "(I)I"⟩
abbrev cX12_count : ByteArray := prog_14_method_122_code
def yX12_count : MethodName := ⟨RX12, "count", "(I)I"⟩
abbrev cX12_status : ByteArray := prog_14_method_123_code
def yX12_status : MethodName := ⟨RX12, "status", "()I"⟩
abbrev cJ6_bitCount_0f7a4 : ByteArray := prog_16_method_49_code
def yJ6_bitCount_0f7a4 : MethodName := ⟨RJ6, "bitCount", "(I)I"⟩
abbrev cJ9_abs_0f7a4 : ByteArray := prog_17_method_59_code
def yJ9_abs_0f7a4 : MethodName := ⟨RJ9, "abs", "(I)I"⟩
abbrev cJ9_max_7cf53 : ByteArray := prog_17_method_65_code
def yJ9_max_7cf53 : MethodName := ⟨RJ9, "max", "(II)I"⟩
abbrev cJ9_min_7cf53 : ByteArray := prog_17_method_69_code
def yJ9_min_7cf53 : MethodName := ⟨RJ9, "min", "(II)I"⟩
abbrev cJ7_fill_53178 : ByteArray := prog_19_method_103_code
def yJ7_fill_53178 : MethodName := ⟨RJ7, "fill", "([II)V"⟩
abbrev cJ7_copyOf_59c91 : ByteArray := prog_19_method_123_code
def yJ7_copyOf_59c91 : MethodName := ⟨RJ7, "copyOf", "([II)[I"⟩
abbrev vwCl : List vw_C := [(RX0, TX0, 3), (RX1, TX1, 19), (RX2, TX2, 14), (RX3, TX3, 6), (RX4, TX4, 13), (RX5, TX5, 15), (RX6, TX6, 15), (RX7, TX7, 16), (RX8, TX8, 6), (RX9, TX9, 3), (RX10, TX10, 6), (RX11, TX11, 6), (RX12, TX12, 56)]
end
section
/-! the words that every contract takes: the tables' good ones, whole -/
def lw_g : List Cond := lw_tbl.filter goodWord
theorem lw_g_sub {w : Cond} (h : w ∈ lw_g) : w ∈ lw_tbl := (List.mem_filter.mp h).1
theorem lw_g_good : ∀ w ∈ lw_g, goodWord w = true := fun _ h => (List.mem_filter.mp h).2
theorem mk_k {w : Cond} (i : Nat) (h : tables_1[i]? = some w) (hg : goodWord w = true) : w ∈ lw_g := List.mem_filter.mpr ⟨List.mem_append_right _ (List.mem_of_getElem? h), hg⟩
theorem mk_s {w : Cond} (i : Nat) (h : (k2_sels lw_privs)[i]? = some w) (hg : goodWord w = true) : w ∈ lw_g := List.mem_filter.mpr ⟨List.mem_append_left _ (List.mem_of_getElem? h), hg⟩
theorem mk_u {C : String} {T : u_T} {N : Nat} (ps : List Nat) (hp : u_ws C T N = ps.filterMap (fun i => tables_1[i]?)) (hg : (u_ws C T N).all goodWord = true) : ∀ w ∈ u_ws C T N, w ∈ lw_g := by
  intro w hw
  have h1 := List.all_eq_true.mp hg w hw
  rw [hp] at hw
  obtain ⟨i, -, hi⟩ := List.mem_filterMap.mp hw
  exact mk_k i hi h1
/-- the words that hold by warming alone -/
def zz_nestB : Cond → Bool
  | .methodLinkNest .. => true
  | .fieldLinkNest .. => true
  | _ => false
def lw_nest : List Cond := tables_1.filter zz_nestB
theorem mk_n {w : Cond} (i : Nat) (h : tables_1[i]? = some w) (hg : zz_nestB w = true) : w ∈ lw_nest := List.mem_filter.mpr ⟨List.mem_of_getElem? h, hg⟩
def zN (U : State) : Prop := (∀ w ∈ lw_nest, va_Nw w U) ∧ va_AO "HalfDays$Text" U ∧ va_AO "HalfDays$County" U
theorem zN.warm {s U : State} (hW : s.WarmedH U.vm) (h : zN s) : zN U := by
  refine ⟨fun w hw => ?_, h.2.1.moved hW.alike, h.2.2.moved hW.alike⟩
  have h1 := h.1 w hw
  have h2 := (List.mem_filter.mp hw).2
  cases w with
  | methodLinkNest a i x hh => exact va_Nw.warmM hW h1
  | fieldLinkNest a i b n d hh => exact va_Nw.warmF hW h1
  | _ => cases h2
abbrev TYk (k : Nat → ClassId) : List (ClassId × FieldType) := [(k 0, .int), (k 1, .long), (k 2, .boolean), (k 3, .object "HalfDays$Text"), (k 4, .object "HalfDays$County")]
def zPre (D : va_G) (k : Nat → ClassId) (ws : va_W) (sz : Nat) (U : State) : Prop := U.heap.size = sz ∧ va_P D vwCl ws U.heap ∧ va_K D vwCl (TYk k) U ∧ va_D (fun _ => True) ws ∧ zN U
abbrev zS : Type := Nat × (Nat → Nat)
def zB (D : va_G) (k : Nat → ClassId) (A : Nat → Prop) (wo : zS → va_W) (u : zS) (t : State) : Prop := va_P D vwCl (wo u) t.heap ∧ va_K D vwCl (TYk k) t ∧ va_D A (wo u)
/-- a contract: from any heap that holds ws, the method returns an int -/
def zMi (l : Launch) (y : MethodName) (cc : ByteArray) (n : Nat) (ret : Option FieldType) (rm : Room) (D : va_G) (k : Nat → ClassId) (av : List Value) (ws : va_W) (post : Int32 → zS → Prop) (wo : zS → va_W) : Prop :=
  ∀ sz : Nat, Met l y (Cond.code y cc n ret :: lw_g) rm (va_Pc av (zPre D k ws sz)) (va_Qi post (zB D k (va_A ws sz) wo) (va_A ws sz)) rm.cells rm.slots (va_A ws sz)
def zMl (l : Launch) (y : MethodName) (cc : ByteArray) (n : Nat) (ret : Option FieldType) (rm : Room) (D : va_G) (k : Nat → ClassId) (av : List Value) (ws : va_W) (post : Int64 → zS → Prop) (wo : zS → va_W) : Prop :=
  ∀ sz : Nat, Met l y (Cond.code y cc n ret :: lw_g) rm (va_Pc av (zPre D k ws sz)) (va_Ql post (zB D k (va_A ws sz) wo) (va_A ws sz)) rm.cells rm.slots (va_A ws sz)
def zMv (l : Launch) (y : MethodName) (cc : ByteArray) (n : Nat) (ret : Option FieldType) (rm : Room) (D : va_G) (k : Nat → ClassId) (av : List Value) (ws : va_W) (post : zS → Prop) (wo : zS → va_W) : Prop :=
  ∀ sz : Nat, Met l y (Cond.code y cc n ret :: lw_g) rm (va_Pc av (zPre D k ws sz)) (va_Qv post (zB D k (va_A ws sz) wo) (va_A ws sz)) rm.cells rm.slots (va_A ws sz)
def zMq (l : Launch) (y : MethodName) (cc : ByteArray) (n : Nat) (ret : Option FieldType) (rm : Room) (D : va_G) (k : Nat → ClassId) (av : List Value) (ws : va_W) (post : Option Nat → zS → Prop) (wo : zS → va_W) : Prop :=
  ∀ sz : Nat, Met l y (Cond.code y cc n ret :: lw_g) rm (va_Pc av (zPre D k ws sz)) (va_Qq post (zB D k (va_A ws sz) wo) (va_A ws sz)) rm.cells rm.slots (va_A ws sz)
def okd (y : MethodName) (n : Nat) : Prop := y.cls ≠ "java/lang/invoke/MethodHandle" ∧ y.cls ≠ "java/lang/invoke/VarHandle" ∧ (parseMethodDescriptor y.desc).map (fun d => d.parameters.length) = some n
def okV (C : String) (y : MethodName) (cc : ByteArray) (maxL : Nat) (ret : Option FieldType) (n : Nat) : Prop := Cond.instanceMethod y ∈ lw_g ∧ Cond.selects C y y ∈ lw_g ∧ Cond.initialized y.cls ∈ lw_g ∧ Cond.code y cc maxL ret ∈ lw_g ∧ okd y n
def okS (y : MethodName) (cc : ByteArray) (maxL : Nat) (ret : Option FieldType) (n : Nat) : Prop := Cond.static y ∈ lw_g ∧ Cond.initialized y.cls ∈ lw_g ∧ Cond.code y cc maxL ret ∈ lw_g ∧ okd y n
def okI (y : MethodName) (cc : ByteArray) (maxL : Nat) (n : Nat) : Prop := Cond.instanceMethod y ∈ lw_g ∧ Cond.initialized y.cls ∈ lw_g ∧ Cond.code y cc maxL none ∈ lw_g ∧ y.name = "<init>" ∧ okd y n
theorem z_good {y : MethodName} {cc : ByteArray} {maxL : Nat} {ret : Option FieldType} (h : Cond.code y cc maxL ret ∈ lw_g) : GoodIn lw_g (Cond.code y cc maxL ret :: lw_g) := by
  intro w hw
  rcases List.mem_cons.mp hw with rfl | hw
  · exact ⟨h, good_of_word (lw_g_good _ h)⟩
  · exact ⟨hw, good_of_word (lw_g_good _ hw)⟩
theorem z_sub {D : va_G} {cl : List vw_C} {ws wc : va_W} {H : Heap} (hP : va_P D cl ws H) (isC : List Nat) (hC : isC.map (fun i => ws[i]?) = wc.map some) : va_P D cl wc H := by
  intro j q hq
  have h1 : (isC.map (fun i => ws[i]?))[j]? = some (some q) := by rw [hC, List.getElem?_map, hq]; rfl
  rw [List.getElem?_map] at h1
  cases hi : isC[j]? with
  | none => rw [hi] at h1; cases h1
  | some i => rw [hi] at h1; exact hP i q (Option.some.inj h1)
theorem z_blind {D : va_G} {k : Nat → ClassId} {av : List Value} {ws : va_W} {sz : Nat} : FrameBlind (va_Pc av (zPre D k ws sz)) := by
  intro a U g mk q
  obtain ⟨q0, q1, qP, qK, qD, qN⟩ := q
  exact ⟨q0, q1, qP, va_K.moved (u := U) (U := U.calling g mk a) (Vm.Alike.refl U.vm) qK, qD, zN.warm (U := U.calling g mk a) (State.WarmedH.refl U) qN⟩
theorem z_pre {D : va_G} {k : Nat → ClassId} {av : List Value} {wc : va_W} {s : State} {H : Heap} {A : Nat → Prop} (hK : va_K D vwCl (TYk k) s) (hN : zN s) (hP : va_P D vwCl wc H) (hD : va_D A wc) : ∀ U : State, U.heap = H → s.WarmedH U.vm → va_Pc av (zPre D k wc H.size) av.toArray U :=
  fun U hU hW => ⟨rfl, by rw [hU], by rw [hU]; exact hP, va_K.moved hW.alike hK, hD.weaken (fun _ _ _ _ => trivial), hN.warm hW⟩
theorem z_RA {U : State} {c1 c2 : ClassId} {ty : FieldType} (h1 : va_RA U c1 ty) (h2 : va_RA U c2 ty) : c1 = c2 := by
  cases ty with
  | object C =>
    obtain ⟨_, _, -, -, -, h1⟩ := h1
    obtain ⟨_, _, -, -, -, h2⟩ := h2
    exact Option.some.inj (h1.symm.trans h2)
  | _ => exact Option.some.inj (h1.symm.trans h2)
section ZZ
variable {p : Program} {l : Launch} {e : Env} {R : Room} {s : State} {m : MethodId} {args : Array Value} {below : List Frame} {meth : Method} {c : Code} {H H0 : Heap} {locs : List Loc} {cells slots : Nat} {Q : State → Prop}
variable {cc bytes : ByteArray} {pc index maxL nL n : Nat} {ls : Array Slot} {rest st0 As : List Value} {D : va_G} {k : Nat → ClassId} {A : Nat → Prop} {ws wc wr : va_W} {wo : zS → va_W} {y : MethodName} {ret : Option FieldType} {rm : Room} {own C host : String} {b : Addr} {av : List Value}
theorem lv_toc {x v : Int32} (h : x = v) (kk : W p l e R s m args below meth c H locs cells slots Q (F0 m pc ls (.int v :: rest))) : W p l e R s m args below meth c H locs cells slots Q (F0 m pc ls (.int x :: rest)) := h ▸ kk
theorem lv_tocl {x v : Int64} (h : x = v) (kk : W p l e R s m args below meth c H locs cells slots Q (F0 m pc ls (.long v :: rest))) : W p l e R s m args below meth c H locs cells slots Q (F0 m pc ls (.long x :: rest)) := h ▸ kk
/-- a call's run -/
theorem z_runV {Pc : Array Value → State → Prop} {Qc : Array Value → State → Outcome → State → Prop} {free : Addr → Prop} (C0 : CallFix p m c cc nL s args lw_g own) (hM : Met l y (Cond.code y bytes maxL ret :: lw_g) rm Pc Qc rm.cells rm.slots free) (ok : okV C y bytes maxL ret n) (hlink : Cond.methodLink own index y ∈ lw_g) (hR : ((rm.frames + 1).ble R.frames && (8 + (maxL + 11) + rm.locals).ble R.locals) = true)
    (hp : PreV s H C b Pc As) (hn : As.length = n) (hsize : ls.size = nL) (hst : st0 = As.reverse ++ .ref b :: rest) (hW : (rest.map fun v => v.category).sum ≤ 8) (hdg : decode cc pc = .ok (.invokevirtual index, 3)) (hf : ((cells + rm.cells).ble R.cells && (slots + rm.slots).ble R.slots) = true) :
    va_Run p l e R s m args below meth c H locs cells slots rm.cells rm.slots (F0 m pc ls st0) rest (Qc (Value.ref b :: As).toArray) free := by
  obtain ⟨k1, k2, k3, k4, kd⟩ := ok
  have hts := C0.2.2.2.2
  simp only [Bool.and_eq_true, Nat.ble_eq] at hR hf
  exact va_runV C0 hM ⟨callB_of n hts (z_good k4) rfl rfl rfl (hts _ k3) (hts _ hlink) kd hR, hts _ k1, hts _ k2⟩ hp rfl hn hsize hst (lv_room hW) hdg hf
theorem z_runVN {Pc : Array Value → State → Prop} {Qc : Array Value → State → Outcome → State → Prop} {free : Addr → Prop} (C0 : CallFix p m c cc nL s args lw_g own) (hN : zN s) (hM : Met l y (Cond.code y bytes maxL ret :: lw_g) rm Pc Qc rm.cells rm.slots free) (ok : okV C y bytes maxL ret n) (hlink : Cond.methodLinkNest own index y host ∈ lw_nest) (hR : ((rm.frames + 1).ble R.frames && (8 + (maxL + 11) + rm.locals).ble R.locals) = true)
    (hp : PreV s H C b Pc As) (hn : As.length = n) (hsize : ls.size = nL) (hst : st0 = As.reverse ++ .ref b :: rest) (hW : (rest.map fun v => v.category).sum ≤ 8) (hdg : decode cc pc = .ok (.invokevirtual index, 3)) (hf : ((cells + rm.cells).ble R.cells && (slots + rm.slots).ble R.slots) = true) :
    va_Run p l e R s m args below meth c H locs cells slots rm.cells rm.slots (F0 m pc ls st0) rest (Qc (Value.ref b :: As).toArray) free := by
  obtain ⟨k1, k2, k3, k4, kd⟩ := ok
  have hts := C0.2.2.2.2
  simp only [Bool.and_eq_true, Nat.ble_eq] at hR hf
  exact va_runVN C0 hM ⟨va_cnB n hts (z_good k4) rfl rfl rfl (hN.1 _ hlink) (hts _ k3) kd hR, hts _ k1, hts _ k2⟩ hp rfl hn hsize hst (lv_room hW) hdg hf
theorem z_runS {Pc : Array Value → State → Prop} {Qc : Array Value → State → Outcome → State → Prop} {free : Addr → Prop} (C0 : CallFix p m c cc nL s args lw_g own) (hM : Met l y (Cond.code y bytes maxL ret :: lw_g) rm Pc Qc rm.cells rm.slots free) (ok : okS y bytes maxL ret n) (hlink : Cond.methodLink own index y ∈ lw_g) (hR : ((rm.frames + 1).ble R.frames && (8 + (maxL + 11) + rm.locals).ble R.locals) = true)
    (hp : PreS s H Pc As) (hn : As.length = n) (hsize : ls.size = nL) (hst : st0 = As.reverse ++ rest) (hW : (rest.map fun v => v.category).sum ≤ 8) (hdg : decode cc pc = .ok (.invokestatic index, 3)) (hf : ((cells + rm.cells).ble R.cells && (slots + rm.slots).ble R.slots) = true) :
    va_Run p l e R s m args below meth c H locs cells slots rm.cells rm.slots (F0 m pc ls st0) rest (Qc As.toArray) free := by
  obtain ⟨k1, k3, k4, kd⟩ := ok
  have hts := C0.2.2.2.2
  simp only [Bool.and_eq_true, Nat.ble_eq] at hR hf
  exact va_runS C0 hM ⟨callB_of n hts (z_good k4) rfl rfl rfl (hts _ k3) (hts _ hlink) kd hR, hts _ k1⟩ hp rfl hn hsize hst (lv_room hW) hdg hf
theorem z_runSN {Pc : Array Value → State → Prop} {Qc : Array Value → State → Outcome → State → Prop} {free : Addr → Prop} (C0 : CallFix p m c cc nL s args lw_g own) (hN : zN s) (hM : Met l y (Cond.code y bytes maxL ret :: lw_g) rm Pc Qc rm.cells rm.slots free) (ok : okS y bytes maxL ret n) (hlink : Cond.methodLinkNest own index y host ∈ lw_nest) (hR : ((rm.frames + 1).ble R.frames && (8 + (maxL + 11) + rm.locals).ble R.locals) = true)
    (hp : PreS s H Pc As) (hn : As.length = n) (hsize : ls.size = nL) (hst : st0 = As.reverse ++ rest) (hW : (rest.map fun v => v.category).sum ≤ 8) (hdg : decode cc pc = .ok (.invokestatic index, 3)) (hf : ((cells + rm.cells).ble R.cells && (slots + rm.slots).ble R.slots) = true) :
    va_Run p l e R s m args below meth c H locs cells slots rm.cells rm.slots (F0 m pc ls st0) rest (Qc As.toArray) free := by
  obtain ⟨k1, k3, k4, kd⟩ := ok
  have hts := C0.2.2.2.2
  simp only [Bool.and_eq_true, Nat.ble_eq] at hR hf
  exact va_runSN C0 hM ⟨va_cnB n hts (z_good k4) rfl rfl rfl (hN.1 _ hlink) (hts _ k3) kd hR, hts _ k1, trivial⟩ hp rfl hn hsize hst (lv_room hW) hdg hf
theorem z_runI {Pc : Array Value → State → Prop} {Qc : Array Value → State → Outcome → State → Prop} {free : Addr → Prop} (C0 : CallFix p m c cc nL s args lw_g own) (hM : Met l y (Cond.code y bytes maxL none :: lw_g) rm Pc Qc rm.cells rm.slots free) (ok : okI y bytes maxL n) (hlink : Cond.methodLink own index y ∈ lw_g) (hR : ((rm.frames + 1).ble R.frames && (8 + (maxL + 11) + rm.locals).ble R.locals) = true)
    (hp : PreS s H Pc (.ref b :: As)) (hn : As.length = n) (hsize : ls.size = nL) (hst : st0 = As.reverse ++ .ref b :: rest) (hW : (rest.map fun v => v.category).sum ≤ 8) (hdg : decode cc pc = .ok (.invokespecial index, 3)) (hf : ((cells + rm.cells).ble R.cells && (slots + rm.slots).ble R.slots) = true) :
    va_Run p l e R s m args below meth c H locs cells slots rm.cells rm.slots (F0 m pc ls st0) rest (Qc (Value.ref b :: As).toArray) free := by
  obtain ⟨k1, k3, k4, ky, kd⟩ := ok
  have hts := C0.2.2.2.2
  simp only [Bool.and_eq_true, Nat.ble_eq] at hR hf
  exact va_runI C0 hM ⟨callB_of n hts (z_good k4) rfl rfl rfl (hts _ k3) (hts _ hlink) kd hR, ky, hts _ k1⟩ hp rfl hn hsize hst (lv_room hW) hdg hf
theorem z_runIN {Pc : Array Value → State → Prop} {Qc : Array Value → State → Outcome → State → Prop} {free : Addr → Prop} (C0 : CallFix p m c cc nL s args lw_g own) (hN : zN s) (hM : Met l y (Cond.code y bytes maxL none :: lw_g) rm Pc Qc rm.cells rm.slots free) (ok : okI y bytes maxL n) (hlink : Cond.methodLinkNest own index y host ∈ lw_nest) (hR : ((rm.frames + 1).ble R.frames && (8 + (maxL + 11) + rm.locals).ble R.locals) = true)
    (hp : PreS s H Pc (.ref b :: As)) (hn : As.length = n) (hsize : ls.size = nL) (hst : st0 = As.reverse ++ .ref b :: rest) (hW : (rest.map fun v => v.category).sum ≤ 8) (hdg : decode cc pc = .ok (.invokespecial index, 3)) (hf : ((cells + rm.cells).ble R.cells && (slots + rm.slots).ble R.slots) = true) :
    va_Run p l e R s m args below meth c H locs cells slots rm.cells rm.slots (F0 m pc ls st0) rest (Qc (Value.ref b :: As).toArray) free := by
  obtain ⟨k1, k3, k4, ky, kd⟩ := ok
  have hts := C0.2.2.2.2
  simp only [Bool.and_eq_true, Nat.ble_eq] at hR hf
  exact va_runIN C0 hM ⟨va_cnB n hts (z_good k4) rfl rfl rfl (hN.1 _ hlink) (hts _ k3) kd hR, ky, hts _ k1⟩ hp rfl hn hsize hst (lv_room hW) hdg hf
/-- what a call's start wants: its cells out of the caller's -/
theorem z_pS (hK : va_K D vwCl (TYk k) s) (hN : zN s) (hP : va_P D vwCl ws H) (hD : va_D A ws) (isC : List Nat) (hn : va_nd isC = true) (hC : isC.map (fun i => ws[i]?) = wc.map some) : PreS s H (va_Pc av (zPre D k wc H.size)) av :=
  ⟨z_blind, z_pre hK hN (z_sub hP isC hC) (hD.sub isC hn hC)⟩
theorem z_pV {ci q0 : Nat} {r : vw_C} {fs : List Value} (hK : va_K D vwCl (TYk k) s) (hN : zN s) (hP : va_P D vwCl ws H) (hD : va_D A ws) (isC : List Nat) (hn : va_nd isC = true) (hC : isC.map (fun i => ws[i]?) = wc.map some) (he : ws[q0]? = some (b, .inr (ci, fs))) (hc : vwCl[ci]? = some r) (hr : r.1 = C) : PreV s H C b (va_Pc (.ref b :: As) (zPre D k wc H.size)) As :=
  ⟨z_blind, by rw [← hr]; exact va_recv hK hP hc he, z_pre hK hN (z_sub hP isC hC) (hD.sub isC hn hC)⟩
/-- behind a call -/
theorem z_bi {post : Int32 → zS → Prop} {a : Array Value} (hr : va_Run p l e R s m args below meth c H locs cells slots rm.cells rm.slots (F0 m pc ls st0) rest (va_Qi post (zB D k (va_A wc H.size) wo) (va_A wc H.size) a) (va_A wc H.size)) (hP : va_P D vwCl ws H) (hD : va_D A ws) (hS : va_S A H0 H locs) (hA : ∀ q, H0.size ≤ q → A q) (isC isR : List Nat) (hC : isC.map (fun i => ws[i]?) = wc.map some) (hR : isR.map (fun i => ws[i]?) = wr.map some) (hn : va_nd isR = true) (hdis : isR.all (fun i => !isC.contains i) = true)
    (kk : ∀ (r : Int32) (u : zS) (H1 : Heap) (locs1 : List Loc), post r u → va_P D vwCl (wr ++ wo u) H1 → va_D A (wr ++ wo u) → va_S A H0 H1 locs1 → W p l e R s m args below meth c H1 locs1 (cells + rm.cells) (slots + rm.slots) Q (F0 m (pc + 3) ls (.int r :: rest))) : W p l e R s m args below meth c H locs cells slots Q (F0 m pc ls st0) := by
  have hF := va_free (wc := wc) hD hS hA isC hC
  refine va_calli hr hS (fun q _ h => hF q h) hF (fun r u t H1 locs1 ht hvm hw hB hz1 hk1 hS1 => ?_)
  obtain ⟨hP1, hK1, hD1⟩ := hB
  rw [ht] at hP1
  obtain ⟨hP2, hD2⟩ := va_join (wr := wr) hP hD isC isR hC hR hn (fun i hi => by have := List.all_eq_true.mp hdis i hi; simpa using this) hk1 hF hP1 hD1
  exact kk r u H1 locs1 hw hP2 hD2 hS1
theorem z_bl {post : Int64 → zS → Prop} {a : Array Value} (hr : va_Run p l e R s m args below meth c H locs cells slots rm.cells rm.slots (F0 m pc ls st0) rest (va_Ql post (zB D k (va_A wc H.size) wo) (va_A wc H.size) a) (va_A wc H.size)) (hP : va_P D vwCl ws H) (hD : va_D A ws) (hS : va_S A H0 H locs) (hA : ∀ q, H0.size ≤ q → A q) (isC isR : List Nat) (hC : isC.map (fun i => ws[i]?) = wc.map some) (hR : isR.map (fun i => ws[i]?) = wr.map some) (hn : va_nd isR = true) (hdis : isR.all (fun i => !isC.contains i) = true)
    (kk : ∀ (r : Int64) (u : zS) (H1 : Heap) (locs1 : List Loc), post r u → va_P D vwCl (wr ++ wo u) H1 → va_D A (wr ++ wo u) → va_S A H0 H1 locs1 → W p l e R s m args below meth c H1 locs1 (cells + rm.cells) (slots + rm.slots) Q (F0 m (pc + 3) ls (.long r :: rest))) : W p l e R s m args below meth c H locs cells slots Q (F0 m pc ls st0) := by
  have hF := va_free (wc := wc) hD hS hA isC hC
  refine va_calll hr hS (fun q _ h => hF q h) hF (fun r u t H1 locs1 ht hvm hw hB hz1 hk1 hS1 => ?_)
  obtain ⟨hP1, hK1, hD1⟩ := hB
  rw [ht] at hP1
  obtain ⟨hP2, hD2⟩ := va_join (wr := wr) hP hD isC isR hC hR hn (fun i hi => by have := List.all_eq_true.mp hdis i hi; simpa using this) hk1 hF hP1 hD1
  exact kk r u H1 locs1 hw hP2 hD2 hS1
theorem z_bv {post : zS → Prop} {a : Array Value} (hr : va_Run p l e R s m args below meth c H locs cells slots rm.cells rm.slots (F0 m pc ls st0) rest (va_Qv post (zB D k (va_A wc H.size) wo) (va_A wc H.size) a) (va_A wc H.size)) (hP : va_P D vwCl ws H) (hD : va_D A ws) (hS : va_S A H0 H locs) (hA : ∀ q, H0.size ≤ q → A q) (isC isR : List Nat) (hC : isC.map (fun i => ws[i]?) = wc.map some) (hR : isR.map (fun i => ws[i]?) = wr.map some) (hn : va_nd isR = true) (hdis : isR.all (fun i => !isC.contains i) = true)
    (kk : ∀ (u : zS) (H1 : Heap) (locs1 : List Loc), post u → va_P D vwCl (wr ++ wo u) H1 → va_D A (wr ++ wo u) → va_S A H0 H1 locs1 → W p l e R s m args below meth c H1 locs1 (cells + rm.cells) (slots + rm.slots) Q (F0 m (pc + 3) ls rest)) : W p l e R s m args below meth c H locs cells slots Q (F0 m pc ls st0) := by
  have hF := va_free (wc := wc) hD hS hA isC hC
  refine va_callv hr hS (fun q _ h => hF q h) hF (fun u t H1 locs1 ht hvm hw hB hz1 hk1 hS1 => ?_)
  obtain ⟨hP1, hK1, hD1⟩ := hB
  rw [ht] at hP1
  obtain ⟨hP2, hD2⟩ := va_join (wr := wr) hP hD isC isR hC hR hn (fun i hi => by have := List.all_eq_true.mp hdis i hi; simpa using this) hk1 hF hP1 hD1
  exact kk u H1 locs1 hw hP2 hD2 hS1
theorem z_bq {post : Option Nat → zS → Prop} {a : Array Value} (hr : va_Run p l e R s m args below meth c H locs cells slots rm.cells rm.slots (F0 m pc ls st0) rest (va_Qq post (zB D k (va_A wc H.size) wo) (va_A wc H.size) a) (va_A wc H.size)) (hP : va_P D vwCl ws H) (hD : va_D A ws) (hS : va_S A H0 H locs) (hA : ∀ q, H0.size ≤ q → A q) (isC isR : List Nat) (hC : isC.map (fun i => ws[i]?) = wc.map some) (hR : isR.map (fun i => ws[i]?) = wr.map some) (hn : va_nd isR = true) (hdis : isR.all (fun i => !isC.contains i) = true)
    (kk : ∀ (r : Option Nat) (u : zS) (H1 : Heap) (locs1 : List Loc), post r u → va_P D vwCl (wr ++ wo u) H1 → va_D A (wr ++ wo u) → va_S A H0 H1 locs1 → W p l e R s m args below meth c H1 locs1 (cells + rm.cells) (slots + rm.slots) Q (F0 m (pc + 3) ls (va_rf r :: rest))) : W p l e R s m args below meth c H locs cells slots Q (F0 m pc ls st0) := by
  have hF := va_free (wc := wc) hD hS hA isC hC
  refine va_callq hr hS (fun q _ h => hF q h) hF (fun r u t H1 locs1 ht hvm hw hB hz1 hk1 hS1 => ?_)
  obtain ⟨hP1, hK1, hD1⟩ := hB
  rw [ht] at hP1
  obtain ⟨hP2, hD2⟩ := va_join (wr := wr) hP hD isC isR hC hR hn (fun i hi => by have := List.all_eq_true.mp hdis i hi; simpa using this) hk1 hF hP1 hD1
  exact kk r u H1 locs1 hw hP2 hD2 hS1
/-- new arrays are of the classes that the tables have -/
theorem z_newa {atype : ArrayType} (hexec : p.tables.exec = Jvm.exec) (hb : c.code = cc) (harr : (Cond.arrayClass (newarray.typeOf atype)).before args s = true) {ty : FieldType} (hty : newarray.typeOf atype = ty) (t0 : Nat) {kt : ClassId} (ht : (TYk k)[t0]? = some (kt, ty)) (hK : va_K D vwCl (TYk k) s) (hP : va_P D vwCl ws H) (hD : va_D A ws) (hS : va_S A H0 H locs) (hA : ∀ q, H0.size ≤ q → A q)
    {n : Int32} {N' : Nat} {a0 : vp_A} (ha : ∀ cA : ClassId, vp_cell cA a0 = arrV cA N' (fun _ => defaultValue ty)) (hn : ¬ n < 0) (hN : n.toNatClampNeg = N') (hbytes : N' * componentBytes ty ≤ 536870912) (hcells : cells + 1 ≤ R.cells) (hslots : slots + N' ≤ R.slots) (hdg : decode cc pc = .ok (.newarray atype, 2))
    (kk : ∀ (q : Nat) (H1 : Heap), va_P D vwCl (ws ++ [(q, .inl (kt, a0))]) H1 → va_D A (ws ++ [(q, .inl (kt, a0))]) → va_S A H0 H1 locs → W p l e R s m args below meth c H1 locs (cells + 1) (slots + N') Q (F0 m (pc + 2) ls (.ref q :: rest))) : W p l e R s m args below meth c H locs cells slots Q (F0 m pc ls (.int n :: rest)) := by
  refine va_newa hexec hb harr hty hK hP hD hS hA ha hn hN hbytes hcells hslots hdg (fun q cA H1 hK1 hP1 hD1 hS1 => ?_)
  have e1 := z_RA (hK1.2 5 (cA, ty) rfl).2 (hK.2 t0 _ ht).2
  subst e1
  exact kk q H1 hP1 hD1 hS1
theorem z_newq {index : Nat} (hexec : p.tables.exec = Jvm.exec) (hb : c.code = cc) (hown : s.vm.findClass own = some m.cls) (hclink : (Cond.classLink own index C).before args s = true) (hover : va_AO C s) (t0 : Nat) {kt : ClassId} (ht : (TYk k)[t0]? = some (kt, .object C)) (hK : va_K D vwCl (TYk k) s) (hP : va_P D vwCl ws H) (hD : va_D A ws) (hS : va_S A H0 H locs) (hA : ∀ q, H0.size ≤ q → A q)
    {n : Int32} {N' : Nat} (hn : ¬ n < 0) (hN : n.toNatClampNeg = N') (hbytes : N' * 4 ≤ 536870912) (hcells : cells + 1 ≤ R.cells) (hslots : slots + N' ≤ R.slots) (hdg : decode cc pc = .ok (.anewarray index, 3))
    (kk : ∀ (q : Nat) (H1 : Heap), va_P D vwCl (ws ++ [(q, .inl (kt, N', .inr (.inr (.inr (.inr (fun _ => none))))))]) H1 → va_D A (ws ++ [(q, .inl (kt, N', .inr (.inr (.inr (.inr (fun _ => none))))))]) → va_S A H0 H1 locs → W p l e R s m args below meth c H1 locs (cells + 1) (slots + N') Q (F0 m (pc + 3) ls (.ref q :: rest))) : W p l e R s m args below meth c H locs cells slots Q (F0 m pc ls (.int n :: rest)) := by
  refine va_newq hexec hb hown hclink hover hK hP hD hS hA hn hN hbytes hcells hslots hdg (fun q cA H1 hK1 hP1 hD1 hS1 => ?_)
  have e1 := z_RA (hK1.2 5 (cA, .object C) rfl).2 (hK.2 t0 _ ht).2
  subst e1
  exact kk q H1 hP1 hD1 hS1
end ZZ
end
section
theorem kF_X11_12 : (Cond.fieldLink RX11 12 "HalfDays" "now" "LHalfDays$County;") ∈ lw_g := mk_k 519 (by decide +kernel) rfl
end
