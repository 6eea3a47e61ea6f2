section
-- ===== PART A: goes FIRST, ahead of the names: the tables' words, and 'selects' of the private methods out of them =====
/-- a private method of a class that the tables say can be made, by its rows of tables_1 -/
def lw_okq (q : MethodName × Nat) : Prop := (q.1.cls ≠ "java/lang/invoke/MethodHandle" ∧ q.1.cls ≠ "java/lang/invoke/VarHandle") ∧ Cond.instantiable q.1.cls q.2 ∈ tables_1 ∧ Cond.privateMethod q.1 ∈ tables_1 ∧ Cond.instanceMethod q.1 ∈ tables_1
theorem lw_p0 : lw_okq (⟨"TillTheyMeet$Reader", "advance", "()V"⟩, 10) := ⟨⟨by decide +kernel, by decide +kernel⟩, List.mem_of_getElem? (i := 44) (by decide +kernel), List.mem_of_getElem? (i := 145) (by decide +kernel), List.mem_of_getElem? (i := 146) (by decide +kernel)⟩
theorem lw_p1 : lw_okq (⟨"TillTheyMeet$Reader", "readNumber", "()V"⟩, 10) := ⟨⟨by decide +kernel, by decide +kernel⟩, List.mem_of_getElem? (i := 44) (by decide +kernel), List.mem_of_getElem? (i := 155) (by decide +kernel), List.mem_of_getElem? (i := 156) (by decide +kernel)⟩
theorem lw_p2 : lw_okq (⟨"TillTheyMeet$Reader", "readWord", "()V"⟩, 10) := ⟨⟨by decide +kernel, by decide +kernel⟩, List.mem_of_getElem? (i := 44) (by decide +kernel), List.mem_of_getElem? (i := 162) (by decide +kernel), List.mem_of_getElem? (i := 163) (by decide +kernel)⟩
theorem lw_p3 : lw_okq (⟨"TillTheyMeet$Reader", "spells", "(I)Z"⟩, 10) := ⟨⟨by decide +kernel, by decide +kernel⟩, List.mem_of_getElem? (i := 44) (by decide +kernel), List.mem_of_getElem? (i := 166) (by decide +kernel), List.mem_of_getElem? (i := 167) (by decide +kernel)⟩
theorem lw_p4 : lw_okq (⟨"TillTheyMeet$Reader", "readSign", "(I)V"⟩, 10) := ⟨⟨by decide +kernel, by decide +kernel⟩, List.mem_of_getElem? (i := 44) (by decide +kernel), List.mem_of_getElem? (i := 172) (by decide +kernel), List.mem_of_getElem? (i := 173) (by decide +kernel)⟩
theorem lw_p5 : lw_okq (⟨"TillTheyMeet$Reader", "expect", "(I)V"⟩, 10) := ⟨⟨by decide +kernel, by decide +kernel⟩, List.mem_of_getElem? (i := 44) (by decide +kernel), List.mem_of_getElem? (i := 236) (by decide +kernel), List.mem_of_getElem? (i := 237) (by decide +kernel)⟩
theorem lw_p6 : lw_okq (⟨"TillTheyMeet$Reader", "refuse", "()V"⟩, 10) := ⟨⟨by decide +kernel, by decide +kernel⟩, List.mem_of_getElem? (i := 44) (by decide +kernel), List.mem_of_getElem? (i := 240) (by decide +kernel), List.mem_of_getElem? (i := 241) (by decide +kernel)⟩
theorem lw_p7 : lw_okq (⟨"TillTheyMeet$Reader", "readLevel", "(II)V"⟩, 10) := ⟨⟨by decide +kernel, by decide +kernel⟩, List.mem_of_getElem? (i := 44) (by decide +kernel), List.mem_of_getElem? (i := 244) (by decide +kernel), List.mem_of_getElem? (i := 245) (by decide +kernel)⟩
theorem lw_p8 : lw_okq (⟨"TillTheyMeet$Reader", "readOne", "(I)V"⟩, 10) := ⟨⟨by decide +kernel, by decide +kernel⟩, List.mem_of_getElem? (i := 44) (by decide +kernel), List.mem_of_getElem? (i := 248) (by decide +kernel), List.mem_of_getElem? (i := 249) (by decide +kernel)⟩
theorem lw_p9 : lw_okq (⟨"TillTheyMeet$Reader", "put", "(I)V"⟩, 10) := ⟨⟨by decide +kernel, by decide +kernel⟩, List.mem_of_getElem? (i := 44) (by decide +kernel), List.mem_of_getElem? (i := 252) (by decide +kernel), List.mem_of_getElem? (i := 253) (by decide +kernel)⟩
theorem lw_p10 : lw_okq (⟨"TillTheyMeet$Reader", "opens", "(I)Z"⟩, 10) := ⟨⟨by decide +kernel, by decide +kernel⟩, List.mem_of_getElem? (i := 44) (by decide +kernel), List.mem_of_getElem? (i := 256) (by decide +kernel), List.mem_of_getElem? (i := 257) (by decide +kernel)⟩
theorem lw_p11 : lw_okq (⟨"TillTheyMeet$Reader", "stepAt", "(I)I"⟩, 10) := ⟨⟨by decide +kernel, by decide +kernel⟩, List.mem_of_getElem? (i := 44) (by decide +kernel), List.mem_of_getElem? (i := 260) (by decide +kernel), List.mem_of_getElem? (i := 261) (by decide +kernel)⟩
theorem lw_p12 : lw_okq (⟨"TillTheyMeet", "doesToday", "(LTillTheyMeet$Gang;)I"⟩, 10) := ⟨⟨by decide +kernel, by decide +kernel⟩, List.mem_of_getElem? (i := 18) (by decide +kernel), List.mem_of_getElem? (i := 520) (by decide +kernel), List.mem_of_getElem? (i := 521) (by decide +kernel)⟩
theorem lw_p13 : lw_okq (⟨"TillTheyMeet$Road", "takeTurn", "(LTillTheyMeet$Gang;)V"⟩, 10) := ⟨⟨by decide +kernel, by decide +kernel⟩, List.mem_of_getElem? (i := 310) (by decide +kernel), List.mem_of_getElem? (i := 569) (by decide +kernel), List.mem_of_getElem? (i := 570) (by decide +kernel)⟩
theorem lw_p14 : lw_okq (⟨"TillTheyMeet$Road", "askOfNext", "(ILTillTheyMeet$Gang;)I"⟩, 10) := ⟨⟨by decide +kernel, by decide +kernel⟩, List.mem_of_getElem? (i := 310) (by decide +kernel), List.mem_of_getElem? (i := 575) (by decide +kernel), List.mem_of_getElem? (i := 576) (by decide +kernel)⟩
theorem lw_p15 : lw_okq (⟨"TillTheyMeet", "seekMen", "(LTillTheyMeet$Road;I)I"⟩, 10) := ⟨⟨by decide +kernel, by decide +kernel⟩, List.mem_of_getElem? (i := 18) (by decide +kernel), List.mem_of_getElem? (i := 638) (by decide +kernel), List.mem_of_getElem? (i := 639) (by decide +kernel)⟩
def lw_privs_1 : List (MethodName × Nat) := [(⟨"TillTheyMeet$Reader", "advance", "()V"⟩, 10), (⟨"TillTheyMeet$Reader", "readNumber", "()V"⟩, 10), (⟨"TillTheyMeet$Reader", "readWord", "()V"⟩, 10), (⟨"TillTheyMeet$Reader", "spells", "(I)Z"⟩, 10), (⟨"TillTheyMeet$Reader", "readSign", "(I)V"⟩, 10), (⟨"TillTheyMeet$Reader", "expect", "(I)V"⟩, 10), (⟨"TillTheyMeet$Reader", "refuse", "()V"⟩, 10), (⟨"TillTheyMeet$Reader", "readLevel", "(II)V"⟩, 10), (⟨"TillTheyMeet$Reader", "readOne", "(I)V"⟩, 10), (⟨"TillTheyMeet$Reader", "put", "(I)V"⟩, 10), (⟨"TillTheyMeet$Reader", "opens", "(I)Z"⟩, 10), (⟨"TillTheyMeet$Reader", "stepAt", "(I)I"⟩, 10), (⟨"TillTheyMeet", "doesToday", "(LTillTheyMeet$Gang;)I"⟩, 10), (⟨"TillTheyMeet$Road", "takeTurn", "(LTillTheyMeet$Gang;)V"⟩, 10), (⟨"TillTheyMeet$Road", "askOfNext", "(ILTillTheyMeet$Gang;)I"⟩, 10), (⟨"TillTheyMeet", "seekMen", "(LTillTheyMeet$Road;I)I"⟩, 10)]
theorem lw_r1 : ∀ q ∈ lw_privs_1, lw_okq q := List.forall_mem_cons.mpr ⟨lw_p0, List.forall_mem_cons.mpr ⟨lw_p1, List.forall_mem_cons.mpr ⟨lw_p2, List.forall_mem_cons.mpr ⟨lw_p3, List.forall_mem_cons.mpr ⟨lw_p4, List.forall_mem_cons.mpr ⟨lw_p5, List.forall_mem_cons.mpr ⟨lw_p6, List.forall_mem_cons.mpr ⟨lw_p7, List.forall_mem_cons.mpr ⟨lw_p8, List.forall_mem_cons.mpr ⟨lw_p9, List.forall_mem_cons.mpr ⟨lw_p10, List.forall_mem_cons.mpr ⟨lw_p11, List.forall_mem_cons.mpr ⟨lw_p12, List.forall_mem_cons.mpr ⟨lw_p13, List.forall_mem_cons.mpr ⟨lw_p14, List.forall_mem_cons.mpr ⟨lw_p15, fun _ h => absurd h List.not_mem_nil⟩⟩⟩⟩⟩⟩⟩⟩⟩⟩⟩⟩⟩⟩⟩⟩
theorem lw_p16 : lw_okq (⟨"TillTheyMeet", "sheetOf", "(I)LTillTheyMeet$Sheet;"⟩, 10) := ⟨⟨by decide +kernel, by decide +kernel⟩, List.mem_of_getElem? (i := 18) (by decide +kernel), List.mem_of_getElem? (i := 658) (by decide +kernel), List.mem_of_getElem? (i := 659) (by decide +kernel)⟩
theorem lw_p17 : lw_okq (⟨"TillTheyMeet", "goesAs", "(LTillTheyMeet$Sheet;I)Z"⟩, 10) := ⟨⟨by decide +kernel, by decide +kernel⟩, List.mem_of_getElem? (i := 18) (by decide +kernel), List.mem_of_getElem? (i := 666) (by decide +kernel), List.mem_of_getElem? (i := 667) (by decide +kernel)⟩
theorem lw_p18 : lw_okq (⟨"TillTheyMeetModel", "spell", "(IIIIIIIII)V"⟩, 55) := ⟨⟨by decide +kernel, by decide +kernel⟩, List.mem_of_getElem? (i := 760) (by decide +kernel), List.mem_of_getElem? (i := 766) (by decide +kernel), List.mem_of_getElem? (i := 767) (by decide +kernel)⟩
theorem lw_p19 : lw_okq (⟨"TillTheyMeetModel", "whose", "(I)I"⟩, 55) := ⟨⟨by decide +kernel, by decide +kernel⟩, List.mem_of_getElem? (i := 760) (by decide +kernel), List.mem_of_getElem? (i := 947) (by decide +kernel), List.mem_of_getElem? (i := 948) (by decide +kernel)⟩
theorem lw_p20 : lw_okq (⟨"TillTheyMeetModel", "needs", "(II)I"⟩, 55) := ⟨⟨by decide +kernel, by decide +kernel⟩, List.mem_of_getElem? (i := 760) (by decide +kernel), List.mem_of_getElem? (i := 955) (by decide +kernel), List.mem_of_getElem? (i := 956) (by decide +kernel)⟩
theorem lw_p21 : lw_okq (⟨"TillTheyMeetModel", "says", "(III)I"⟩, 55) := ⟨⟨by decide +kernel, by decide +kernel⟩, List.mem_of_getElem? (i := 760) (by decide +kernel), List.mem_of_getElem? (i := 959) (by decide +kernel), List.mem_of_getElem? (i := 960) (by decide +kernel)⟩
theorem lw_p22 : lw_okq (⟨"TillTheyMeetModel", "left", "()I"⟩, 55) := ⟨⟨by decide +kernel, by decide +kernel⟩, List.mem_of_getElem? (i := 760) (by decide +kernel), List.mem_of_getElem? (i := 963) (by decide +kernel), List.mem_of_getElem? (i := 964) (by decide +kernel)⟩
theorem lw_p23 : lw_okq (⟨"TillTheyMeetModel", "read", "(II)I"⟩, 55) := ⟨⟨by decide +kernel, by decide +kernel⟩, List.mem_of_getElem? (i := 760) (by decide +kernel), List.mem_of_getElem? (i := 967) (by decide +kernel), List.mem_of_getElem? (i := 968) (by decide +kernel)⟩
theorem lw_p24 : lw_okq (⟨"TillTheyMeetModel", "next", "()V"⟩, 55) := ⟨⟨by decide +kernel, by decide +kernel⟩, List.mem_of_getElem? (i := 760) (by decide +kernel), List.mem_of_getElem? (i := 971) (by decide +kernel), List.mem_of_getElem? (i := 972) (by decide +kernel)⟩
theorem lw_p25 : lw_okq (⟨"TillTheyMeetModel", "byteAt", "(I)I"⟩, 55) := ⟨⟨by decide +kernel, by decide +kernel⟩, List.mem_of_getElem? (i := 760) (by decide +kernel), List.mem_of_getElem? (i := 975) (by decide +kernel), List.mem_of_getElem? (i := 976) (by decide +kernel)⟩
theorem lw_p26 : lw_okq (⟨"TillTheyMeetModel", "isWord", "(IIIIIIII)Z"⟩, 55) := ⟨⟨by decide +kernel, by decide +kernel⟩, List.mem_of_getElem? (i := 760) (by decide +kernel), List.mem_of_getElem? (i := 984) (by decide +kernel), List.mem_of_getElem? (i := 985) (by decide +kernel)⟩
theorem lw_p27 : lw_okq (⟨"TillTheyMeetModel", "isLetter", "(II)Z"⟩, 55) := ⟨⟨by decide +kernel, by decide +kernel⟩, List.mem_of_getElem? (i := 760) (by decide +kernel), List.mem_of_getElem? (i := 988) (by decide +kernel), List.mem_of_getElem? (i := 989) (by decide +kernel)⟩
theorem lw_p28 : lw_okq (⟨"TillTheyMeetModel", "part", "(Z)I"⟩, 55) := ⟨⟨by decide +kernel, by decide +kernel⟩, List.mem_of_getElem? (i := 760) (by decide +kernel), List.mem_of_getElem? (i := 992) (by decide +kernel), List.mem_of_getElem? (i := 993) (by decide +kernel)⟩
theorem lw_p29 : lw_okq (⟨"TillTheyMeetModel", "fail", "()V"⟩, 55) := ⟨⟨by decide +kernel, by decide +kernel⟩, List.mem_of_getElem? (i := 760) (by decide +kernel), List.mem_of_getElem? (i := 996) (by decide +kernel), List.mem_of_getElem? (i := 997) (by decide +kernel)⟩
theorem lw_p30 : lw_okq (⟨"TillTheyMeetModel", "either", "()I"⟩, 55) := ⟨⟨by decide +kernel, by decide +kernel⟩, List.mem_of_getElem? (i := 760) (by decide +kernel), List.mem_of_getElem? (i := 1000) (by decide +kernel), List.mem_of_getElem? (i := 1001) (by decide +kernel)⟩
theorem lw_p31 : lw_okq (⟨"TillTheyMeetModel", "both", "()I"⟩, 55) := ⟨⟨by decide +kernel, by decide +kernel⟩, List.mem_of_getElem? (i := 760) (by decide +kernel), List.mem_of_getElem? (i := 1004) (by decide +kernel), List.mem_of_getElem? (i := 1005) (by decide +kernel)⟩
def lw_privs_2 : List (MethodName × Nat) := [(⟨"TillTheyMeet", "sheetOf", "(I)LTillTheyMeet$Sheet;"⟩, 10), (⟨"TillTheyMeet", "goesAs", "(LTillTheyMeet$Sheet;I)Z"⟩, 10), (⟨"TillTheyMeetModel", "spell", "(IIIIIIIII)V"⟩, 55), (⟨"TillTheyMeetModel", "whose", "(I)I"⟩, 55), (⟨"TillTheyMeetModel", "needs", "(II)I"⟩, 55), (⟨"TillTheyMeetModel", "says", "(III)I"⟩, 55), (⟨"TillTheyMeetModel", "left", "()I"⟩, 55), (⟨"TillTheyMeetModel", "read", "(II)I"⟩, 55), (⟨"TillTheyMeetModel", "next", "()V"⟩, 55), (⟨"TillTheyMeetModel", "byteAt", "(I)I"⟩, 55), (⟨"TillTheyMeetModel", "isWord", "(IIIIIIII)Z"⟩, 55), (⟨"TillTheyMeetModel", "isLetter", "(II)Z"⟩, 55), (⟨"TillTheyMeetModel", "part", "(Z)I"⟩, 55), (⟨"TillTheyMeetModel", "fail", "()V"⟩, 55), (⟨"TillTheyMeetModel", "either", "()I"⟩, 55), (⟨"TillTheyMeetModel", "both", "()I"⟩, 55)]
theorem lw_r2 : ∀ q ∈ lw_privs_2, lw_okq q := List.forall_mem_cons.mpr ⟨lw_p16, List.forall_mem_cons.mpr ⟨lw_p17, List.forall_mem_cons.mpr ⟨lw_p18, List.forall_mem_cons.mpr ⟨lw_p19, List.forall_mem_cons.mpr ⟨lw_p20, List.forall_mem_cons.mpr ⟨lw_p21, List.forall_mem_cons.mpr ⟨lw_p22, List.forall_mem_cons.mpr ⟨lw_p23, List.forall_mem_cons.mpr ⟨lw_p24, List.forall_mem_cons.mpr ⟨lw_p25, List.forall_mem_cons.mpr ⟨lw_p26, List.forall_mem_cons.mpr ⟨lw_p27, List.forall_mem_cons.mpr ⟨lw_p28, List.forall_mem_cons.mpr ⟨lw_p29, List.forall_mem_cons.mpr ⟨lw_p30, List.forall_mem_cons.mpr ⟨lw_p31, fun _ h => absurd h List.not_mem_nil⟩⟩⟩⟩⟩⟩⟩⟩⟩⟩⟩⟩⟩⟩⟩⟩
theorem lw_p32 : lw_okq (⟨"TillTheyMeetModel", "not", "()I"⟩, 55) := ⟨⟨by decide +kernel, by decide +kernel⟩, List.mem_of_getElem? (i := 760) (by decide +kernel), List.mem_of_getElem? (i := 1008) (by decide +kernel), List.mem_of_getElem? (i := 1009) (by decide +kernel)⟩
theorem lw_p33 : lw_okq (⟨"TillTheyMeetModel", "opens", "()Z"⟩, 55) := ⟨⟨by decide +kernel, by decide +kernel⟩, List.mem_of_getElem? (i := 760) (by decide +kernel), List.mem_of_getElem? (i := 1012) (by decide +kernel), List.mem_of_getElem? (i := 1013) (by decide +kernel)⟩
theorem lw_p34 : lw_okq (⟨"TillTheyMeetModel", "added", "()I"⟩, 55) := ⟨⟨by decide +kernel, by decide +kernel⟩, List.mem_of_getElem? (i := 760) (by decide +kernel), List.mem_of_getElem? (i := 1016) (by decide +kernel), List.mem_of_getElem? (i := 1017) (by decide +kernel)⟩
theorem lw_p35 : lw_okq (⟨"TillTheyMeetModel", "term", "()I"⟩, 55) := ⟨⟨by decide +kernel, by decide +kernel⟩, List.mem_of_getElem? (i := 760) (by decide +kernel), List.mem_of_getElem? (i := 1020) (by decide +kernel), List.mem_of_getElem? (i := 1021) (by decide +kernel)⟩
theorem lw_p36 : lw_okq (⟨"TillTheyMeetModel", "atom", "()I"⟩, 55) := ⟨⟨by decide +kernel, by decide +kernel⟩, List.mem_of_getElem? (i := 760) (by decide +kernel), List.mem_of_getElem? (i := 1024) (by decide +kernel), List.mem_of_getElem? (i := 1025) (by decide +kernel)⟩
theorem lw_p37 : lw_okq (⟨"TillTheyMeetModel", "isSign", "(I)Z"⟩, 55) := ⟨⟨by decide +kernel, by decide +kernel⟩, List.mem_of_getElem? (i := 760) (by decide +kernel), List.mem_of_getElem? (i := 1028) (by decide +kernel), List.mem_of_getElem? (i := 1029) (by decide +kernel)⟩
theorem lw_p38 : lw_okq (⟨"TillTheyMeetModel", "name", "()I"⟩, 55) := ⟨⟨by decide +kernel, by decide +kernel⟩, List.mem_of_getElem? (i := 760) (by decide +kernel), List.mem_of_getElem? (i := 1032) (by decide +kernel), List.mem_of_getElem? (i := 1033) (by decide +kernel)⟩
theorem lw_p39 : lw_okq (⟨"TillTheyMeetModel", "costs", "(I)I"⟩, 55) := ⟨⟨by decide +kernel, by decide +kernel⟩, List.mem_of_getElem? (i := 760) (by decide +kernel), List.mem_of_getElem? (i := 1063) (by decide +kernel), List.mem_of_getElem? (i := 1064) (by decide +kernel)⟩
theorem lw_p40 : lw_okq (⟨"TillTheyMeetModel", "does", "(I)I"⟩, 55) := ⟨⟨by decide +kernel, by decide +kernel⟩, List.mem_of_getElem? (i := 760) (by decide +kernel), List.mem_of_getElem? (i := 1067) (by decide +kernel), List.mem_of_getElem? (i := 1068) (by decide +kernel)⟩
theorem lw_p41 : lw_okq (⟨"TillTheyMeetModel", "nextOf", "(I)I"⟩, 55) := ⟨⟨by decide +kernel, by decide +kernel⟩, List.mem_of_getElem? (i := 760) (by decide +kernel), List.mem_of_getElem? (i := 1071) (by decide +kernel), List.mem_of_getElem? (i := 1072) (by decide +kernel)⟩
theorem lw_p42 : lw_okq (⟨"TillTheyMeetModel", "passes", "(I)V"⟩, 55) := ⟨⟨by decide +kernel, by decide +kernel⟩, List.mem_of_getElem? (i := 760) (by decide +kernel), List.mem_of_getElem? (i := 1092) (by decide +kernel), List.mem_of_getElem? (i := 1093) (by decide +kernel)⟩
theorem lw_p43 : lw_okq (⟨"TillTheyMeetModel", "turn", "(I)V"⟩, 55) := ⟨⟨by decide +kernel, by decide +kernel⟩, List.mem_of_getElem? (i := 760) (by decide +kernel), List.mem_of_getElem? (i := 1096) (by decide +kernel), List.mem_of_getElem? (i := 1097) (by decide +kernel)⟩
theorem lw_p44 : lw_okq (⟨"TillTheyMeetModel", "worthAll", "()I"⟩, 55) := ⟨⟨by decide +kernel, by decide +kernel⟩, List.mem_of_getElem? (i := 760) (by decide +kernel), List.mem_of_getElem? (i := 1105) (by decide +kernel), List.mem_of_getElem? (i := 1106) (by decide +kernel)⟩
theorem lw_p45 : lw_okq (⟨"TillTheyMeetModel", "laysAside", "()V"⟩, 55) := ⟨⟨by decide +kernel, by decide +kernel⟩, List.mem_of_getElem? (i := 760) (by decide +kernel), List.mem_of_getElem? (i := 1109) (by decide +kernel), List.mem_of_getElem? (i := 1110) (by decide +kernel)⟩
theorem lw_p46 : lw_okq (⟨"TillTheyMeetModel", "runs", "(II)V"⟩, 55) := ⟨⟨by decide +kernel, by decide +kernel⟩, List.mem_of_getElem? (i := 760) (by decide +kernel), List.mem_of_getElem? (i := 1113) (by decide +kernel), List.mem_of_getElem? (i := 1114) (by decide +kernel)⟩
theorem lw_p47 : lw_okq (⟨"TillTheyMeetModel", "gain", "(I)I"⟩, 55) := ⟨⟨by decide +kernel, by decide +kernel⟩, List.mem_of_getElem? (i := 760) (by decide +kernel), List.mem_of_getElem? (i := 1117) (by decide +kernel), List.mem_of_getElem? (i := 1118) (by decide +kernel)⟩
def lw_privs_3 : List (MethodName × Nat) := [(⟨"TillTheyMeetModel", "not", "()I"⟩, 55), (⟨"TillTheyMeetModel", "opens", "()Z"⟩, 55), (⟨"TillTheyMeetModel", "added", "()I"⟩, 55), (⟨"TillTheyMeetModel", "term", "()I"⟩, 55), (⟨"TillTheyMeetModel", "atom", "()I"⟩, 55), (⟨"TillTheyMeetModel", "isSign", "(I)Z"⟩, 55), (⟨"TillTheyMeetModel", "name", "()I"⟩, 55), (⟨"TillTheyMeetModel", "costs", "(I)I"⟩, 55), (⟨"TillTheyMeetModel", "does", "(I)I"⟩, 55), (⟨"TillTheyMeetModel", "nextOf", "(I)I"⟩, 55), (⟨"TillTheyMeetModel", "passes", "(I)V"⟩, 55), (⟨"TillTheyMeetModel", "turn", "(I)V"⟩, 55), (⟨"TillTheyMeetModel", "worthAll", "()I"⟩, 55), (⟨"TillTheyMeetModel", "laysAside", "()V"⟩, 55), (⟨"TillTheyMeetModel", "runs", "(II)V"⟩, 55), (⟨"TillTheyMeetModel", "gain", "(I)I"⟩, 55)]
theorem lw_r3 : ∀ q ∈ lw_privs_3, lw_okq q := List.forall_mem_cons.mpr ⟨lw_p32, List.forall_mem_cons.mpr ⟨lw_p33, List.forall_mem_cons.mpr ⟨lw_p34, List.forall_mem_cons.mpr ⟨lw_p35, List.forall_mem_cons.mpr ⟨lw_p36, List.forall_mem_cons.mpr ⟨lw_p37, List.forall_mem_cons.mpr ⟨lw_p38, List.forall_mem_cons.mpr ⟨lw_p39, List.forall_mem_cons.mpr ⟨lw_p40, List.forall_mem_cons.mpr ⟨lw_p41, List.forall_mem_cons.mpr ⟨lw_p42, List.forall_mem_cons.mpr ⟨lw_p43, List.forall_mem_cons.mpr ⟨lw_p44, List.forall_mem_cons.mpr ⟨lw_p45, List.forall_mem_cons.mpr ⟨lw_p46, List.forall_mem_cons.mpr ⟨lw_p47, fun _ h => absurd h List.not_mem_nil⟩⟩⟩⟩⟩⟩⟩⟩⟩⟩⟩⟩⟩⟩⟩⟩
theorem lw_p48 : lw_okq (⟨"TillTheyMeetModel", "laysBack", "()V"⟩, 55) := ⟨⟨by decide +kernel, by decide +kernel⟩, List.mem_of_getElem? (i := 760) (by decide +kernel), List.mem_of_getElem? (i := 1121) (by decide +kernel), List.mem_of_getElem? (i := 1122) (by decide +kernel)⟩
theorem lw_p49 : lw_okq (⟨"TillTheyMeetModel", "bestMen", "(I)I"⟩, 55) := ⟨⟨by decide +kernel, by decide +kernel⟩, List.mem_of_getElem? (i := 760) (by decide +kernel), List.mem_of_getElem? (i := 1138) (by decide +kernel), List.mem_of_getElem? (i := 1139) (by decide +kernel)⟩
theorem lw_p50 : lw_okq (⟨"TillTheyMeetModel", "gainBy", "(II)I"⟩, 55) := ⟨⟨by decide +kernel, by decide +kernel⟩, List.mem_of_getElem? (i := 760) (by decide +kernel), List.mem_of_getElem? (i := 1142) (by decide +kernel), List.mem_of_getElem? (i := 1143) (by decide +kernel)⟩
def lw_privs_4 : List (MethodName × Nat) := [(⟨"TillTheyMeetModel", "laysBack", "()V"⟩, 55), (⟨"TillTheyMeetModel", "bestMen", "(I)I"⟩, 55), (⟨"TillTheyMeetModel", "gainBy", "(II)I"⟩, 55)]
theorem lw_r4 : ∀ q ∈ lw_privs_4, lw_okq q := List.forall_mem_cons.mpr ⟨lw_p48, List.forall_mem_cons.mpr ⟨lw_p49, List.forall_mem_cons.mpr ⟨lw_p50, fun _ h => absurd h List.not_mem_nil⟩⟩⟩
def lw_privs : List (MethodName × Nat) := lw_privs_1 ++ (lw_privs_2 ++ (lw_privs_3 ++ (lw_privs_4)))
def lw_tbl : List Cond := k2_sels lw_privs ++ tables_1
theorem lw_privs_ok : ∀ q ∈ lw_privs, lw_okq q := by
  show ∀ q ∈ lw_privs_1 ++ (lw_privs_2 ++ (lw_privs_3 ++ (lw_privs_4))), lw_okq q
  exact List.forall_mem_append.mpr ⟨lw_r1, List.forall_mem_append.mpr ⟨lw_r2, List.forall_mem_append.mpr ⟨lw_r3, lw_r4⟩⟩⟩
/-! the words that go along with every call -/
def gtb : List Cond := lw_tbl.filter goodWord
theorem gtb_in {w : Cond} (i : Nat) (h : lw_tbl[i]? = some w) (hg : goodWord w = true) : w ∈ gtb := List.mem_filter.mpr ⟨List.mem_of_getElem? h, hg⟩
theorem gtb_good : GoodIn gtb gtb := fun w h => ⟨h, good_of_word (List.mem_filter.mp h).2⟩
end
section
/-! NAMES: classes, their fields, methods (out of the claim's own tables, by program) -/
/-- a method: its name, bytes, locals, what it returns -/
abbrev MI : Type := MethodName × ByteArray × Nat × Option FieldType
def RX0 : String := "TillTheyMeet$Best"
def TX0 : u_T := fun k => match k with
  | 0 => ("TillTheyMeet$Best", "at", "I", false)
  | 1 => ("TillTheyMeet$Best", "worth", "I", false)
  | _ => ("TillTheyMeet$Best", "empty", "Z", false)
def tyX0 : Nat → FieldType := fun k => match k with
  | 0 => .int
  | 1 => .int
  | _ => .boolean
theorem nmX0 : ∀ a, a < 3 → ∀ b, b < 3 → a ≠ b → (TX0 a).2.1 ≠ (TX0 b).2.1 := by decide +kernel
theorem tyX0_ok : ∀ k, k < 3 → parseFieldDescriptor (TX0 k).2.2.1 = some (tyX0 k) := by decide +kernel
abbrev cX0_init : ByteArray := prog_2_method_1_code
def yX0_init : MethodName := ⟨RX0, "<init>", "()V"⟩
abbrev cX0_clear : ByteArray := prog_2_method_2_code
def yX0_clear : MethodName := ⟨RX0, "clear", "()V"⟩
abbrev cX0_offer : ByteArray := prog_2_method_3_code
def yX0_offer : MethodName := ⟨RX0, "offer", "(II)V"⟩
def RX1 : String := "TillTheyMeet$Gang"
def TX1 : u_T := fun k => match k with
  | 0 => ("TillTheyMeet$Gang", "goesUp", "Z", true)
  | 1 => ("TillTheyMeet$Gang", "kind", "I", false)
  | 2 => ("TillTheyMeet$Gang", "number", "I", false)
  | 3 => ("TillTheyMeet$Gang", "men", "I", false)
  | 4 => ("TillTheyMeet$Gang", "done", "I", false)
  | 5 => ("TillTheyMeet$Gang", "work", "I", false)
  | 6 => ("TillTheyMeet$Gang", "earned", "I", false)
  | 7 => ("TillTheyMeet$Gang", "spent", "I", false)
  | 8 => ("TillTheyMeet$Gang", "askedAt", "[I", true)
  | _ => ("TillTheyMeet$Gang", "answered", "[I", true)
def tyX1 : Nat → FieldType := fun k => match k with
  | 0 => .boolean
  | 1 => .int
  | 2 => .int
  | 3 => .int
  | 4 => .int
  | 5 => .int
  | 6 => .int
  | 7 => .int
  | 8 => .array .int
  | _ => .array .int
theorem nmX1 : ∀ a, a < 10 → ∀ b, b < 10 → a ≠ b → (TX1 a).2.1 ≠ (TX1 b).2.1 := by decide +kernel
theorem tyX1_ok : ∀ k, k < 10 → parseFieldDescriptor (TX1 k).2.2.1 = some (tyX1 k) := by decide +kernel
abbrev cX1_init : ByteArray := prog_3_method_1_code
def yX1_init : MethodName := ⟨RX1, "<init>", "(Z)V"⟩
abbrev cX1_nextYard : ByteArray := prog_3_method_2_code
def yX1_nextYard : MethodName := ⟨RX1, "nextYard", "()I"⟩
abbrev cX1_gain : ByteArray := prog_3_method_3_code
def yX1_gain : MethodName := ⟨RX1, "gain", "()I"⟩
abbrev cX1_does : ByteArray := prog_3_method_4_code
def yX1_does : MethodName := ⟨RX1, "does", "(III)I"⟩
abbrev cX1_costs : ByteArray := prog_3_method_5_code
def yX1_costs : MethodName := ⟨RX1, "costs", "()I"⟩
abbrev cX1_isUnder : ByteArray := prog_3_method_6_code
def yX1_isUnder : MethodName := ⟨RX1, "isUnder", "(I)Z"⟩
abbrev cX1_copyKept : ByteArray := prog_3_method_7_code
def yX1_copyKept : MethodName := ⟨RX1, "copyKept", "(LTillTheyMeet$Gang;)V"⟩
abbrev cX1_forgetAnswers : ByteArray := prog_3_method_8_code
def yX1_forgetAnswers : MethodName := ⟨RX1, "forgetAnswers", "()V"⟩
def RX2 : String := "TillTheyMeet$Reader"
def TX2 : u_T := fun k => match k with
  | 0 => ("TillTheyMeet$Reader", "size", "I", false)
  | 1 => ("TillTheyMeet$Reader", "fault", "I", false)
  | 2 => ("TillTheyMeet$Reader", "tape", "[I", true)
  | 3 => ("TillTheyMeet$Reader", "place", "I", false)
  | 4 => ("TillTheyMeet$Reader", "token", "I", false)
  | 5 => ("TillTheyMeet$Reader", "tokenAt", "I", false)
  | 6 => ("TillTheyMeet$Reader", "value", "I", false)
  | 7 => ("TillTheyMeet$Reader", "steps", "[I", true)
  | 8 => ("TillTheyMeet$Reader", "stepCount", "I", false)
  | _ => ("TillTheyMeet$Reader", "bounds", "[I", true)
def tyX2 : Nat → FieldType := fun k => match k with
  | 0 => .int
  | 1 => .int
  | 2 => .array .int
  | 3 => .int
  | 4 => .int
  | 5 => .int
  | 6 => .int
  | 7 => .array .int
  | 8 => .int
  | _ => .array .int
theorem nmX2 : ∀ a, a < 10 → ∀ b, b < 10 → a ≠ b → (TX2 a).2.1 ≠ (TX2 b).2.1 := by decide +kernel
theorem tyX2_ok : ∀ k, k < 10 → parseFieldDescriptor (TX2 k).2.2.1 = some (tyX2 k) := by decide +kernel
abbrev cX2_init : ByteArray := prog_4_method_1_code
def yX2_init : MethodName := ⟨RX2, "<init>", "()V"⟩
abbrev cX2_append : ByteArray := prog_4_method_2_code
def yX2_append : MethodName := ⟨RX2, "append", "(I)Z"⟩
abbrev cX2_ruleOf : ByteArray := prog_4_method_3_code
def yX2_ruleOf : MethodName := ⟨RX2, "ruleOf", "(I)LTillTheyMeet$Rule;"⟩
abbrev cX2_readText : ByteArray := prog_4_method_4_code
def yX2_readText : MethodName := ⟨RX2, "readText", "()V"⟩
abbrev cX2_refuse : ByteArray := prog_4_method_5_code
def yX2_refuse : MethodName := ⟨RX2, "refuse", "()V"⟩
abbrev cX2_expect : ByteArray := prog_4_method_6_code
def yX2_expect : MethodName := ⟨RX2, "expect", "(I)V"⟩
abbrev cX2_put : ByteArray := prog_4_method_7_code
def yX2_put : MethodName := ⟨RX2, "put", "(I)V"⟩
abbrev cX2_readLevel : ByteArray := prog_4_method_8_code
def yX2_readLevel : MethodName := ⟨RX2, "readLevel", "(II)V"⟩
abbrev cX2_readOne : ByteArray := prog_4_method_9_code
def yX2_readOne : MethodName := ⟨RX2, "readOne", "(I)V"⟩
abbrev cX2_opens : ByteArray := prog_4_method_10_code
def yX2_opens : MethodName := ⟨RX2, "opens", "(I)Z"⟩
abbrev cX2_stepAt : ByteArray := prog_4_method_11_code
def yX2_stepAt : MethodName := ⟨RX2, "stepAt", "(I)I"⟩
abbrev cX2_advance : ByteArray := prog_4_method_12_code
def yX2_advance : MethodName := ⟨RX2, "advance", "()V"⟩
abbrev cX2_readNumber : ByteArray := prog_4_method_13_code
def yX2_readNumber : MethodName := ⟨RX2, "readNumber", "()V"⟩
abbrev cX2_readWord : ByteArray := prog_4_method_14_code
def yX2_readWord : MethodName := ⟨RX2, "readWord", "()V"⟩
abbrev cX2_spells : ByteArray := prog_4_method_15_code
def yX2_spells : MethodName := ⟨RX2, "spells", "(I)Z"⟩
abbrev cX2_readSign : ByteArray := prog_4_method_16_code
def yX2_readSign : MethodName := ⟨RX2, "readSign", "(I)V"⟩
abbrev cX2_isBlank : ByteArray := prog_4_method_17_code
def yX2_isBlank : MethodName := ⟨RX2, "isBlank", "(I)Z"⟩
abbrev cX2_isDigit : ByteArray := prog_4_method_18_code
def yX2_isDigit : MethodName := ⟨RX2, "isDigit", "(I)Z"⟩
abbrev cX2_isLetter : ByteArray := prog_4_method_19_code
def yX2_isLetter : MethodName := ⟨RX2, "isLetter", "(I)Z"⟩
def RX3 : String := "TillTheyMeet$Road"
def TX3 : u_T := fun k => match k with
  | 0 => ("TillTheyMeet$Road", "ground", "[I", true)
  | 1 => ("TillTheyMeet$Road", "known", "[I", true)
  | 2 => ("TillTheyMeet$Road", "upward", "LTillTheyMeet$Gang;", true)
  | 3 => ("TillTheyMeet$Road", "downward", "LTillTheyMeet$Gang;", true)
  | 4 => ("TillTheyMeet$Road", "day", "I", false)
  | 5 => ("TillTheyMeet$Road", "payYard", "I", false)
  | 6 => ("TillTheyMeet$Road", "payDay", "I", false)
  | 7 => ("TillTheyMeet$Road", "wage", "I", false)
  | 8 => ("TillTheyMeet$Road", "rule", "LTillTheyMeet$Rule;", false)
  | _ => ("TillTheyMeet$Road", "meant", "[I", true)
def tyX3 : Nat → FieldType := fun k => match k with
  | 0 => .array .int
  | 1 => .array .int
  | 2 => .object "TillTheyMeet$Gang"
  | 3 => .object "TillTheyMeet$Gang"
  | 4 => .int
  | 5 => .int
  | 6 => .int
  | 7 => .int
  | 8 => .object "TillTheyMeet$Rule"
  | _ => .array .int
theorem nmX3 : ∀ a, a < 10 → ∀ b, b < 10 → a ≠ b → (TX3 a).2.1 ≠ (TX3 b).2.1 := by decide +kernel
theorem tyX3_ok : ∀ k, k < 10 → parseFieldDescriptor (TX3 k).2.2.1 = some (tyX3 k) := by decide +kernel
abbrev cX3_init : ByteArray := prog_5_method_1_code
def yX3_init : MethodName := ⟨RX3, "<init>", "(LTillTheyMeet$Rule;)V"⟩
abbrev cX3_gangOf : ByteArray := prog_5_method_2_code
def yX3_gangOf : MethodName := ⟨RX3, "gangOf", "(I)LTillTheyMeet$Gang;"⟩
abbrev cX3_groundOf : ByteArray := prog_5_method_3_code
def yX3_groundOf : MethodName := ⟨RX3, "groundOf", "(I)I"⟩
abbrev cX3_ahead : ByteArray := prog_5_method_4_code
def yX3_ahead : MethodName := ⟨RX3, "ahead", "()I"⟩
abbrev cX3_doerOf : ByteArray := prog_5_method_5_code
def yX3_doerOf : MethodName := ⟨RX3, "doerOf", "(I)I"⟩
abbrev cX3_paid : ByteArray := prog_5_method_6_code
def yX3_paid : MethodName := ⟨RX3, "paid", "()I"⟩
abbrev cX3_worth : ByteArray := prog_5_method_7_code
def yX3_worth : MethodName := ⟨RX3, "worth", "()I"⟩
abbrev cX3_ask : ByteArray := prog_5_method_8_code
def yX3_ask : MethodName := ⟨RX3, "ask", "(III)I"⟩
abbrev cX3_askOfNext : ByteArray := prog_5_method_9_code
def yX3_askOfNext : MethodName := ⟨RX3, "askOfNext", "(ILTillTheyMeet$Gang;)I"⟩
abbrev cX3_forgetAnswers : ByteArray := prog_5_method_10_code
def yX3_forgetAnswers : MethodName := ⟨RX3, "forgetAnswers", "()V"⟩
abbrev cX3_takeTurn : ByteArray := prog_5_method_11_code
def yX3_takeTurn : MethodName := ⟨RX3, "takeTurn", "(LTillTheyMeet$Gang;)V"⟩
abbrev cX3_passDay : ByteArray := prog_5_method_12_code
def yX3_passDay : MethodName := ⟨RX3, "passDay", "(I)V"⟩
abbrev cX3_runOut : ByteArray := prog_5_method_13_code
def yX3_runOut : MethodName := ⟨RX3, "runOut", "(II)I"⟩
abbrev cX3_copyKept : ByteArray := prog_5_method_14_code
def yX3_copyKept : MethodName := ⟨RX3, "copyKept", "(LTillTheyMeet$Road;)V"⟩
abbrev cX3_copyAll : ByteArray := prog_5_method_15_code
def yX3_copyAll : MethodName := ⟨RX3, "copyAll", "(LTillTheyMeet$Road;)V"⟩
def RX4 : String := "TillTheyMeet$Rule"
def TX4 : u_T := fun k => match k with
  | 0 => ("TillTheyMeet$Rule", "number", "I", true)
  | 1 => ("TillTheyMeet$Rule", "speaksOfDay", "[Z", true)
  | 2 => ("TillTheyMeet$Rule", "steps", "[I", true)
  | 3 => ("TillTheyMeet$Rule", "bounds", "[I", true)
  | _ => ("TillTheyMeet$Rule", "pile", "[I", true)
def tyX4 : Nat → FieldType := fun k => match k with
  | 0 => .int
  | 1 => .array .boolean
  | 2 => .array .int
  | 3 => .array .int
  | _ => .array .int
theorem nmX4 : ∀ a, a < 5 → ∀ b, b < 5 → a ≠ b → (TX4 a).2.1 ≠ (TX4 b).2.1 := by decide +kernel
theorem tyX4_ok : ∀ k, k < 5 → parseFieldDescriptor (TX4 k).2.2.1 = some (tyX4 k) := by decide +kernel
abbrev cX4_init : ByteArray := prog_6_method_1_code
def yX4_init : MethodName := ⟨RX4, "<init>", "(I[I[I)V"⟩
abbrev cX4_valueOf : ByteArray := prog_6_method_2_code
def yX4_valueOf : MethodName := ⟨RX4, "valueOf", "(I[I)I"⟩
def RX5 : String := "TillTheyMeet$Sheet"
def TX5 : u_T := fun k => match k with
  | 0 => ("TillTheyMeet$Sheet", "items", "[I", true)
  | 1 => ("TillTheyMeet$Sheet", "sort", "I", false)
  | _ => ("TillTheyMeet$Sheet", "size", "I", false)
def tyX5 : Nat → FieldType := fun k => match k with
  | 0 => .array .int
  | 1 => .int
  | _ => .int
theorem nmX5 : ∀ a, a < 3 → ∀ b, b < 3 → a ≠ b → (TX5 a).2.1 ≠ (TX5 b).2.1 := by decide +kernel
theorem tyX5_ok : ∀ k, k < 3 → parseFieldDescriptor (TX5 k).2.2.1 = some (tyX5 k) := by decide +kernel
abbrev cX5_init : ByteArray := prog_7_method_1_code
def yX5_init : MethodName := ⟨RX5, "<init>", "()V"⟩
abbrev cX5_isMissing : ByteArray := prog_7_method_2_code
def yX5_isMissing : MethodName := ⟨RX5, "isMissing", "()Z"⟩
abbrev cX5_become : ByteArray := prog_7_method_3_code
def yX5_become : MethodName := ⟨RX5, "become", "(II)V"⟩
abbrev cX5_has : ByteArray := prog_7_method_4_code
def yX5_has : MethodName := ⟨RX5, "has", "(I)Z"⟩
abbrev cX5_hasSpan : ByteArray := prog_7_method_5_code
def yX5_hasSpan : MethodName := ⟨RX5, "hasSpan", "(II)Z"⟩
abbrev cX5_cut : ByteArray := prog_7_method_6_code
def yX5_cut : MethodName := ⟨RX5, "cut", "(I)I"⟩
def RX6 : String := "TillTheyMeet"
def TX6 : u_T := fun k => match k with
  | 0 => ("TillTheyMeet", "now", "LTillTheyMeet$Road;", true)
  | 1 => ("TillTheyMeet", "kept", "LTillTheyMeet$Road;", true)
  | 2 => ("TillTheyMeet", "plan", "LTillTheyMeet$Road;", true)
  | 3 => ("TillTheyMeet", "trial", "LTillTheyMeet$Road;", true)
  | 4 => ("TillTheyMeet", "best", "LTillTheyMeet$Best;", true)
  | 5 => ("TillTheyMeet", "reader", "LTillTheyMeet$Reader;", true)
  | 6 => ("TillTheyMeet", "rules", "[LTillTheyMeet$Rule;", true)
  | 7 => ("TillTheyMeet", "sheets", "[LTillTheyMeet$Sheet;", true)
  | 8 => ("TillTheyMeet", "texts", "I", false)
  | _ => ("TillTheyMeet", "hasImage", "Z", false)
def tyX6 : Nat → FieldType := fun k => match k with
  | 0 => .object "TillTheyMeet$Road"
  | 1 => .object "TillTheyMeet$Road"
  | 2 => .object "TillTheyMeet$Road"
  | 3 => .object "TillTheyMeet$Road"
  | 4 => .object "TillTheyMeet$Best"
  | 5 => .object "TillTheyMeet$Reader"
  | 6 => .array (.object "TillTheyMeet$Rule")
  | 7 => .array (.object "TillTheyMeet$Sheet")
  | 8 => .int
  | _ => .boolean
theorem nmX6 : ∀ a, a < 10 → ∀ b, b < 10 → a ≠ b → (TX6 a).2.1 ≠ (TX6 b).2.1 := by decide +kernel
theorem tyX6_ok : ∀ k, k < 10 → parseFieldDescriptor (TX6 k).2.2.1 = some (tyX6 k) := by decide +kernel
abbrev cX6_init : ByteArray := prog_1_method_1_code
def yX6_init : MethodName := ⟨RX6, "<init>", "()V"⟩
abbrev cX6_ground : ByteArray := prog_1_method_2_code
def yX6_ground : MethodName := ⟨RX6, "ground", "(III)I"⟩
abbrev cX6_yard : ByteArray := prog_1_method_3_code
def yX6_yard : MethodName := ⟨RX6, "yard", "(II)I"⟩
abbrev cX6_gang : ByteArray := prog_1_method_4_code
def yX6_gang : MethodName := ⟨RX6, "gang", "(III)I"⟩
abbrev cX6_set : ByteArray := prog_1_method_5_code
def yX6_set : MethodName := ⟨RX6, "set", "(II)I"⟩
abbrev cX6_told : ByteArray := prog_1_method_6_code
def yX6_told : MethodName := ⟨RX6, "told", "(II)I"⟩
abbrev cX6_doesToday : ByteArray := prog_1_method_7_code
def yX6_doesToday : MethodName := ⟨RX6, "doesToday", "(LTillTheyMeet$Gang;)I"⟩
abbrev cX6_feed : ByteArray := prog_1_method_8_code
def yX6_feed : MethodName := ⟨RX6, "feed", "(I)I"⟩
abbrev cX6_text : ByteArray := prog_1_method_9_code
def yX6_text : MethodName := ⟨RX6, "text", "()I"⟩
abbrev cX6_force : ByteArray := prog_1_method_10_code
def yX6_force : MethodName := ⟨RX6, "force", "(I)I"⟩
abbrev cX6_day : ByteArray := prog_1_method_11_code
def yX6_day : MethodName := ⟨RX6, "day", "()I"⟩
abbrev cX6_run : ByteArray := prog_1_method_12_code
def yX6_run : MethodName := ⟨RX6, "run", "(I)I"⟩
abbrev cX6_done : ByteArray := prog_1_method_13_code
def yX6_done : MethodName := ⟨RX6, "done", "(II)I"⟩
abbrev cX6_ease : ByteArray := prog_1_method_14_code
def yX6_ease : MethodName := ⟨RX6, "ease", "(II)I"⟩
abbrev cX6_men : ByteArray := prog_1_method_15_code
def yX6_men : MethodName := ⟨RX6, "men", "(II)I"⟩
abbrev cX6_seekMen : ByteArray := prog_1_method_16_code
def yX6_seekMen : MethodName := ⟨RX6, "seekMen", "(LTillTheyMeet$Road;I)I"⟩
abbrev cX6_quarrel : ByteArray := prog_1_method_17_code
def yX6_quarrel : MethodName := ⟨RX6, "quarrel", "(I)I"⟩
abbrev cX6_bore : ByteArray := prog_1_method_18_code
def yX6_bore : MethodName := ⟨RX6, "bore", "(II)I"⟩
abbrev cX6_well : ByteArray := prog_1_method_19_code
def yX6_well : MethodName := ⟨RX6, "well", "(I)I"⟩
abbrev cX6_slowed : ByteArray := prog_1_method_20_code
def yX6_slowed : MethodName := ⟨RX6, "slowed", "(II)I"⟩
abbrev cX6_goesAs : ByteArray := prog_1_method_21_code
def yX6_goesAs : MethodName := ⟨RX6, "goesAs", "(LTillTheyMeet$Sheet;I)Z"⟩
abbrev cX6_bet : ByteArray := prog_1_method_22_code
def yX6_bet : MethodName := ⟨RX6, "bet", "(III)I"⟩
abbrev cX6_soonest : ByteArray := prog_1_method_23_code
def yX6_soonest : MethodName := ⟨RX6, "soonest", "(I)I"⟩
abbrev cX6_cheapest : ByteArray := prog_1_method_24_code
def yX6_cheapest : MethodName := ⟨RX6, "cheapest", "()I"⟩
abbrev cX6_drawn : ByteArray := prog_1_method_25_code
def yX6_drawn : MethodName := ⟨RX6, "drawn", "(I)I"⟩
abbrev cX6_chance : ByteArray := prog_1_method_26_code
def yX6_chance : MethodName := ⟨RX6, "chance", "(IIII)J"⟩
abbrev cX6_commonPart : ByteArray := prog_1_method_27_code
def yX6_commonPart : MethodName := ⟨RX6, "commonPart", "(II)I"⟩
abbrev cX6_image : ByteArray := prog_1_method_28_code
def yX6_image : MethodName := ⟨RX6, "image", "()I"⟩
abbrev cX6_back : ByteArray := prog_1_method_29_code
def yX6_back : MethodName := ⟨RX6, "back", "()I"⟩
abbrev cX6_count : ByteArray := prog_1_method_30_code
def yX6_count : MethodName := ⟨RX6, "count", "(I)I"⟩
abbrev cX6_sheet : ByteArray := prog_1_method_31_code
def yX6_sheet : MethodName := ⟨RX6, "sheet", "(III)I"⟩
abbrev cX6_cell : ByteArray := prog_1_method_32_code
def yX6_cell : MethodName := ⟨RX6, "cell", "(III)I"⟩
abbrev cX6_copy : ByteArray := prog_1_method_33_code
def yX6_copy : MethodName := ⟨RX6, "copy", "(IIIII)I"⟩
abbrev cX6_grounds : ByteArray := prog_1_method_34_code
def yX6_grounds : MethodName := ⟨RX6, "grounds", "(IIII)I"⟩
abbrev cX6_taken : ByteArray := prog_1_method_35_code
def yX6_taken : MethodName := ⟨RX6, "taken", "(II)I"⟩
abbrev cX6_within : ByteArray := prog_1_method_36_code
def yX6_within : MethodName := ⟨RX6, "within", "(III)Z"⟩
abbrev cX6_isYard : ByteArray := prog_1_method_37_code
def yX6_isYard : MethodName := ⟨RX6, "isYard", "(I)Z"⟩
abbrev cX6_isGang : ByteArray := prog_1_method_38_code
def yX6_isGang : MethodName := ⟨RX6, "isGang", "(I)Z"⟩
abbrev cX6_sheetOf : ByteArray := prog_1_method_39_code
def yX6_sheetOf : MethodName := ⟨RX6, "sheetOf", "(I)LTillTheyMeet$Sheet;"⟩
def RX7 : String := "TillTheyMeetModel"
def TX7 : u_T := fun k => match k with
  | 0 => ("TillTheyMeetModel", "thrown", "I", false)
  | 1 => ("TillTheyMeetModel", "texts", "[I", true)
  | 2 => ("TillTheyMeetModel", "textSize", "[I", true)
  | 3 => ("TillTheyMeetModel", "textCount", "I", false)
  | 4 => ("TillTheyMeetModel", "rule", "I", false)
  | 5 => ("TillTheyMeetModel", "tape", "[I", true)
  | 6 => ("TillTheyMeetModel", "taped", "I", false)
  | 7 => ("TillTheyMeetModel", "grounds", "[I", true)
  | 8 => ("TillTheyMeetModel", "known", "[I", true)
  | 9 => ("TillTheyMeetModel", "kinds", "[I", true)
  | 10 => ("TillTheyMeetModel", "numbers", "[I", true)
  | 11 => ("TillTheyMeetModel", "men", "[I", true)
  | 12 => ("TillTheyMeetModel", "dones", "[I", true)
  | 13 => ("TillTheyMeetModel", "work", "[I", true)
  | 14 => ("TillTheyMeetModel", "earned", "[I", true)
  | 15 => ("TillTheyMeetModel", "spent", "[I", true)
  | 16 => ("TillTheyMeetModel", "day", "I", false)
  | 17 => ("TillTheyMeetModel", "payYard", "I", false)
  | 18 => ("TillTheyMeetModel", "payDay", "I", false)
  | 19 => ("TillTheyMeetModel", "wage", "I", false)
  | 20 => ("TillTheyMeetModel", "ofGround", "I", false)
  | 21 => ("TillTheyMeetModel", "ofMen", "I", false)
  | 22 => ("TillTheyMeetModel", "ofYard", "I", false)
  | 23 => ("TillTheyMeetModel", "ofAhead", "I", false)
  | 24 => ("TillTheyMeetModel", "ofDay", "I", false)
  | 25 => ("TillTheyMeetModel", "ofKnown", "I", false)
  | 26 => ("TillTheyMeetModel", "from", "I", false)
  | 27 => ("TillTheyMeetModel", "size", "I", false)
  | 28 => ("TillTheyMeetModel", "here", "I", false)
  | 29 => ("TillTheyMeetModel", "token", "I", false)
  | 30 => ("TillTheyMeetModel", "tokenAt", "I", false)
  | 31 => ("TillTheyMeetModel", "tokenWorth", "J", false)
  | 32 => ("TillTheyMeetModel", "open", "I", false)
  | 33 => ("TillTheyMeetModel", "bad", "Z", false)
  | 34 => ("TillTheyMeetModel", "fault", "I", false)
  | 35 => ("TillTheyMeetModel", "groundsWas", "[I", true)
  | 36 => ("TillTheyMeetModel", "knownWas", "[I", true)
  | 37 => ("TillTheyMeetModel", "gangsWas", "[I", true)
  | 38 => ("TillTheyMeetModel", "dayWas", "I", false)
  | 39 => ("TillTheyMeetModel", "payWas", "I", false)
  | 40 => ("TillTheyMeetModel", "ends", "I", false)
  | 41 => ("TillTheyMeetModel", "bestGain", "I", false)
  | 42 => ("TillTheyMeetModel", "groundsKept", "[I", true)
  | 43 => ("TillTheyMeetModel", "knownKept", "[I", true)
  | 44 => ("TillTheyMeetModel", "gangsKept", "[I", true)
  | 45 => ("TillTheyMeetModel", "isKept", "Z", false)
  | 46 => ("TillTheyMeetModel", "dayKept", "I", false)
  | 47 => ("TillTheyMeetModel", "payYardKept", "I", false)
  | 48 => ("TillTheyMeetModel", "payDayKept", "I", false)
  | 49 => ("TillTheyMeetModel", "wageKept", "I", false)
  | 50 => ("TillTheyMeetModel", "ruleKept", "I", false)
  | 51 => ("TillTheyMeetModel", "isThere", "[Z", true)
  | 52 => ("TillTheyMeetModel", "sorts", "[I", true)
  | 53 => ("TillTheyMeetModel", "sheetSize", "[I", true)
  | _ => ("TillTheyMeetModel", "items", "[I", true)
def tyX7 : Nat → FieldType := fun k => match k with
  | 0 => .int
  | 1 => .array .int
  | 2 => .array .int
  | 3 => .int
  | 4 => .int
  | 5 => .array .int
  | 6 => .int
  | 7 => .array .int
  | 8 => .array .int
  | 9 => .array .int
  | 10 => .array .int
  | 11 => .array .int
  | 12 => .array .int
  | 13 => .array .int
  | 14 => .array .int
  | 15 => .array .int
  | 16 => .int
  | 17 => .int
  | 18 => .int
  | 19 => .int
  | 20 => .int
  | 21 => .int
  | 22 => .int
  | 23 => .int
  | 24 => .int
  | 25 => .int
  | 26 => .int
  | 27 => .int
  | 28 => .int
  | 29 => .int
  | 30 => .int
  | 31 => .long
  | 32 => .int
  | 33 => .boolean
  | 34 => .int
  | 35 => .array .int
  | 36 => .array .int
  | 37 => .array .int
  | 38 => .int
  | 39 => .int
  | 40 => .int
  | 41 => .int
  | 42 => .array .int
  | 43 => .array .int
  | 44 => .array .int
  | 45 => .boolean
  | 46 => .int
  | 47 => .int
  | 48 => .int
  | 49 => .int
  | 50 => .int
  | 51 => .array .boolean
  | 52 => .array .int
  | 53 => .array .int
  | _ => .array .int
theorem nmX7 : ∀ a, a < 55 → ∀ b, b < 55 → a ≠ b → (TX7 a).2.1 ≠ (TX7 b).2.1 := by decide +kernel
theorem tyX7_ok : ∀ k, k < 55 → parseFieldDescriptor (TX7 k).2.2.1 = some (tyX7 k) := by decide +kernel
abbrev cX7_in : ByteArray := prog_9_method_2_code
def yX7_in : MethodName := ⟨RX7, "in", "(JJJ)Z"⟩
abbrev cX7_within : ByteArray := prog_9_method_3_code
def yX7_within : MethodName := ⟨RX7, "within", "(III)I"⟩
abbrev cX7_init : ByteArray := prog_9_method_4_code
def yX7_init : MethodName := ⟨RX7, "<init>", "()V"⟩
abbrev cX7_spell : ByteArray := prog_9_method_5_code
def yX7_spell : MethodName := ⟨RX7, "spell", "(IIIIIIIII)V"⟩
abbrev cX7_isYard : ByteArray := prog_9_method_6_code
def yX7_isYard : MethodName := ⟨RX7, "isYard", "(I)Z"⟩
abbrev cX7_isGang : ByteArray := prog_9_method_7_code
def yX7_isGang : MethodName := ⟨RX7, "isGang", "(I)Z"⟩
abbrev cX7_left : ByteArray := prog_9_method_8_code
def yX7_left : MethodName := ⟨RX7, "left", "()I"⟩
abbrev cX7_whose : ByteArray := prog_9_method_9_code
def yX7_whose : MethodName := ⟨RX7, "whose", "(I)I"⟩
abbrev cX7_nextOf : ByteArray := prog_9_method_10_code
def yX7_nextOf : MethodName := ⟨RX7, "nextOf", "(I)I"⟩
abbrev cX7_ground : ByteArray := prog_9_method_11_code
def yX7_ground : MethodName := ⟨RX7, "ground", "(III)I"⟩
abbrev cX7_yard : ByteArray := prog_9_method_12_code
def yX7_yard : MethodName := ⟨RX7, "yard", "(II)I"⟩
abbrev cX7_gang : ByteArray := prog_9_method_13_code
def yX7_gang : MethodName := ⟨RX7, "gang", "(III)I"⟩
abbrev cX7_set : ByteArray := prog_9_method_14_code
def yX7_set : MethodName := ⟨RX7, "set", "(II)I"⟩
abbrev cX7_told : ByteArray := prog_9_method_15_code
def yX7_told : MethodName := ⟨RX7, "told", "(II)I"⟩
abbrev cX7_feed : ByteArray := prog_9_method_16_code
def yX7_feed : MethodName := ⟨RX7, "feed", "(I)I"⟩
abbrev cX7_byteAt : ByteArray := prog_9_method_17_code
def yX7_byteAt : MethodName := ⟨RX7, "byteAt", "(I)I"⟩
abbrev cX7_next : ByteArray := prog_9_method_18_code
def yX7_next : MethodName := ⟨RX7, "next", "()V"⟩
abbrev cX7_fail : ByteArray := prog_9_method_19_code
def yX7_fail : MethodName := ⟨RX7, "fail", "()V"⟩
abbrev cX7_isLetter : ByteArray := prog_9_method_20_code
def yX7_isLetter : MethodName := ⟨RX7, "isLetter", "(II)Z"⟩
abbrev cX7_isWord : ByteArray := prog_9_method_21_code
def yX7_isWord : MethodName := ⟨RX7, "isWord", "(IIIIIIII)Z"⟩
abbrev cX7_isSign : ByteArray := prog_9_method_22_code
def yX7_isSign : MethodName := ⟨RX7, "isSign", "(I)Z"⟩
abbrev cX7_opens : ByteArray := prog_9_method_23_code
def yX7_opens : MethodName := ⟨RX7, "opens", "()Z"⟩
abbrev cX7_name : ByteArray := prog_9_method_24_code
def yX7_name : MethodName := ⟨RX7, "name", "()I"⟩
abbrev cX7_atom : ByteArray := prog_9_method_25_code
def yX7_atom : MethodName := ⟨RX7, "atom", "()I"⟩
abbrev cX7_term : ByteArray := prog_9_method_26_code
def yX7_term : MethodName := ⟨RX7, "term", "()I"⟩
abbrev cX7_added : ByteArray := prog_9_method_27_code
def yX7_added : MethodName := ⟨RX7, "added", "()I"⟩
abbrev cX7_not : ByteArray := prog_9_method_28_code
def yX7_not : MethodName := ⟨RX7, "not", "()I"⟩
abbrev cX7_both : ByteArray := prog_9_method_29_code
def yX7_both : MethodName := ⟨RX7, "both", "()I"⟩
abbrev cX7_either : ByteArray := prog_9_method_30_code
def yX7_either : MethodName := ⟨RX7, "either", "()I"⟩
abbrev cX7_part : ByteArray := prog_9_method_31_code
def yX7_part : MethodName := ⟨RX7, "part", "(Z)I"⟩
abbrev cX7_read : ByteArray := prog_9_method_32_code
def yX7_read : MethodName := ⟨RX7, "read", "(II)I"⟩
abbrev cX7_text : ByteArray := prog_9_method_33_code
def yX7_text : MethodName := ⟨RX7, "text", "()I"⟩
abbrev cX7_force : ByteArray := prog_9_method_34_code
def yX7_force : MethodName := ⟨RX7, "force", "(I)I"⟩
abbrev cX7_says : ByteArray := prog_9_method_35_code
def yX7_says : MethodName := ⟨RX7, "says", "(III)I"⟩
abbrev cX7_needs : ByteArray := prog_9_method_36_code
def yX7_needs : MethodName := ⟨RX7, "needs", "(II)I"⟩
abbrev cX7_does : ByteArray := prog_9_method_37_code
def yX7_does : MethodName := ⟨RX7, "does", "(I)I"⟩
abbrev cX7_costs : ByteArray := prog_9_method_38_code
def yX7_costs : MethodName := ⟨RX7, "costs", "(I)I"⟩
abbrev cX7_turn : ByteArray := prog_9_method_39_code
def yX7_turn : MethodName := ⟨RX7, "turn", "(I)V"⟩
abbrev cX7_passes : ByteArray := prog_9_method_40_code
def yX7_passes : MethodName := ⟨RX7, "passes", "(I)V"⟩
abbrev cX7_day : ByteArray := prog_9_method_41_code
def yX7_day : MethodName := ⟨RX7, "day", "()I"⟩
abbrev cX7_laysAside : ByteArray := prog_9_method_42_code
def yX7_laysAside : MethodName := ⟨RX7, "laysAside", "()V"⟩
abbrev cX7_laysBack : ByteArray := prog_9_method_43_code
def yX7_laysBack : MethodName := ⟨RX7, "laysBack", "()V"⟩
abbrev cX7_runs : ByteArray := prog_9_method_44_code
def yX7_runs : MethodName := ⟨RX7, "runs", "(II)V"⟩
abbrev cX7_gain : ByteArray := prog_9_method_45_code
def yX7_gain : MethodName := ⟨RX7, "gain", "(I)I"⟩
abbrev cX7_worthAll : ByteArray := prog_9_method_46_code
def yX7_worthAll : MethodName := ⟨RX7, "worthAll", "()I"⟩
abbrev cX7_run : ByteArray := prog_9_method_47_code
def yX7_run : MethodName := ⟨RX7, "run", "(I)I"⟩
abbrev cX7_done : ByteArray := prog_9_method_48_code
def yX7_done : MethodName := ⟨RX7, "done", "(II)I"⟩
abbrev cX7_ease : ByteArray := prog_9_method_49_code
def yX7_ease : MethodName := ⟨RX7, "ease", "(II)I"⟩
abbrev cX7_gainBy : ByteArray := prog_9_method_50_code
def yX7_gainBy : MethodName := ⟨RX7, "gainBy", "(II)I"⟩
abbrev cX7_bestMen : ByteArray := prog_9_method_51_code
def yX7_bestMen : MethodName := ⟨RX7, "bestMen", "(I)I"⟩
abbrev cX7_men : ByteArray := prog_9_method_52_code
def yX7_men : MethodName := ⟨RX7, "men", "(II)I"⟩
abbrev cX7_quarrel : ByteArray := prog_9_method_53_code
def yX7_quarrel : MethodName := ⟨RX7, "quarrel", "(I)I"⟩
abbrev cX7_bore : ByteArray := prog_9_method_54_code
def yX7_bore : MethodName := ⟨RX7, "bore", "(II)I"⟩
abbrev cX7_well : ByteArray := prog_9_method_55_code
def yX7_well : MethodName := ⟨RX7, "well", "(I)I"⟩
abbrev cX7_slowed : ByteArray := prog_9_method_56_code
def yX7_slowed : MethodName := ⟨RX7, "slowed", "(II)I"⟩
abbrev cX7_off : ByteArray := prog_9_method_57_code
def yX7_off : MethodName := ⟨RX7, "off", "(II)I"⟩
abbrev cX7_bet : ByteArray := prog_9_method_58_code
def yX7_bet : MethodName := ⟨RX7, "bet", "(III)I"⟩
abbrev cX7_soonest : ByteArray := prog_9_method_59_code
def yX7_soonest : MethodName := ⟨RX7, "soonest", "(I)I"⟩
abbrev cX7_cheapest : ByteArray := prog_9_method_60_code
def yX7_cheapest : MethodName := ⟨RX7, "cheapest", "()I"⟩
abbrev cX7_drawn : ByteArray := prog_9_method_61_code
def yX7_drawn : MethodName := ⟨RX7, "drawn", "(I)I"⟩
abbrev cX7_lowest : ByteArray := prog_9_method_62_code
def yX7_lowest : MethodName := ⟨RX7, "lowest", "(JJI)J"⟩
abbrev cX7_chance : ByteArray := prog_9_method_63_code
def yX7_chance : MethodName := ⟨RX7, "chance", "(IIII)J"⟩
abbrev cX7_image : ByteArray := prog_9_method_64_code
def yX7_image : MethodName := ⟨RX7, "image", "()I"⟩
abbrev cX7_back : ByteArray := prog_9_method_65_code
def yX7_back : MethodName := ⟨RX7, "back", "()I"⟩
abbrev cX7_count : ByteArray := prog_9_method_66_code
def yX7_count : MethodName := ⟨RX7, "count", "(I)I"⟩
abbrev cX7_isSheet : ByteArray := prog_9_method_67_code
def yX7_isSheet : MethodName := ⟨RX7, "isSheet", "(I)Z"⟩
abbrev cX7_sheet : ByteArray := prog_9_method_68_code
def yX7_sheet : MethodName := ⟨RX7, "sheet", "(III)I"⟩
abbrev cX7_cell : ByteArray := prog_9_method_69_code
def yX7_cell : MethodName := ⟨RX7, "cell", "(III)I"⟩
abbrev cX7_copy : ByteArray := prog_9_method_70_code
def yX7_copy : MethodName := ⟨RX7, "copy", "(IIIII)I"⟩
abbrev cX7_grounds : ByteArray := prog_9_method_71_code
def yX7_grounds : MethodName := ⟨RX7, "grounds", "(IIII)I"⟩
abbrev cX7_over : ByteArray := prog_9_method_72_code
def yX7_over : MethodName := ⟨RX7, "over", "(I)I"⟩
abbrev cX7_taken : ByteArray := prog_9_method_73_code
def yX7_taken : MethodName := ⟨RX7, "taken", "(II)I"⟩
def RJx145de : String := "java/io/Serializable"
def RJx9f9b0 : String := "java/lang/CharSequence"
def RJ11 : String := "java/lang/Character"
abbrev cJ11_isValidCodePoint_9a6ad : ByteArray := prog_10_method_11_code
def yJ11_isValidCodePoint_9a6ad : MethodName := ⟨RJ11, "isValidCodePoint", "(I)Z"⟩
abbrev cJ11_highSurrogate_5068e : ByteArray := prog_10_method_28_code
def yJ11_highSurrogate_5068e : MethodName := ⟨RJ11, "highSurrogate", "(I)C"⟩
abbrev cJ11_lowSurrogate_5068e : ByteArray := prog_10_method_29_code
def yJ11_lowSurrogate_5068e : MethodName := ⟨RJ11, "lowSurrogate", "(I)C"⟩
def RJx8e188 : String := "java/lang/Cloneable"
def RJxb160c : String := "java/lang/Comparable"
def RJ9 : String := "java/lang/Math"
abbrev cJ9_abs_0f7a4 : ByteArray := prog_12_method_59_code
def yJ9_abs_0f7a4 : MethodName := ⟨RJ9, "abs", "(I)I"⟩
abbrev cJ9_max_7cf53 : ByteArray := prog_12_method_65_code
def yJ9_max_7cf53 : MethodName := ⟨RJ9, "max", "(II)I"⟩
abbrev cJ9_min_7cf53 : ByteArray := prog_12_method_69_code
def yJ9_min_7cf53 : MethodName := ⟨RJ9, "min", "(II)I"⟩
def RJ0 : String := "java/lang/String"
abbrev cJ0_length_8abf5 : ByteArray := prog_13_method_54_code
def yJ0_length_8abf5 : MethodName := ⟨RJ0, "length", "()I"⟩
abbrev cJ0_charAt_5068e : ByteArray := prog_13_method_56_code
def yJ0_charAt_5068e : MethodName := ⟨RJ0, "charAt", "(I)C"⟩
abbrev cJ0_indexOf_0f7a4 : ByteArray := prog_13_method_79_code
def yJ0_indexOf_0f7a4 : MethodName := ⟨RJ0, "indexOf", "(I)I"⟩
abbrev cJ0_indexOf_7cf53 : ByteArray := prog_13_method_80_code
def yJ0_indexOf_7cf53 : MethodName := ⟨RJ0, "indexOf", "(II)I"⟩
abbrev cJ0_coder_7d493 : ByteArray := prog_13_method_152_code
def yJ0_coder_7d493 : MethodName := ⟨RJ0, "coder", "()B"⟩
abbrev cJ0_isLatin1_aae02 : ByteArray := prog_13_method_154_code
def yJ0_isLatin1_aae02 : MethodName := ⟨RJ0, "isLatin1", "()Z"⟩
abbrev cJ0_checkIndex_df160 : ByteArray := prog_13_method_155_code
def yJ0_checkIndex_df160 : MethodName := ⟨RJ0, "checkIndex", "(II)V"⟩
abbrev cJ0_checkBoundsBeginEnd_23922 : ByteArray := prog_13_method_158_code
def yJ0_checkBoundsBeginEnd_23922 : MethodName := ⟨RJ0, "checkBoundsBeginEnd", "(III)V"⟩
def RJ1 : String := "java/lang/StringLatin1"
abbrev cJ1_charAt_3b067 : ByteArray := prog_14_method_2_code
def yJ1_charAt_3b067 : MethodName := ⟨RJ1, "charAt", "([BI)C"⟩
abbrev cJ1_canEncode_9a6ad : ByteArray := prog_14_method_4_code
def yJ1_canEncode_9a6ad : MethodName := ⟨RJ1, "canEncode", "(I)Z"⟩
abbrev cJ1_indexOf_4cfef : ByteArray := prog_14_method_22_code
def yJ1_indexOf_4cfef : MethodName := ⟨RJ1, "indexOf", "([BIII)I"⟩
abbrev cJ1_indexOfChar_4cfef : ByteArray := prog_14_method_23_code
def yJ1_indexOfChar_4cfef : MethodName := ⟨RJ1, "indexOfChar", "([BIII)I"⟩
def RJ2 : String := "java/lang/StringUTF16"
abbrev cJ2_getChar_3b067 : ByteArray := prog_15_method_5_code
def yJ2_getChar_3b067 : MethodName := ⟨RJ2, "getChar", "([BI)C"⟩
abbrev cJ2_length_9d52b : ByteArray := prog_15_method_6_code
def yJ2_length_9d52b : MethodName := ⟨RJ2, "length", "([B)I"⟩
abbrev cJ2_indexOf_4cfef : ByteArray := prog_15_method_40_code
def yJ2_indexOf_4cfef : MethodName := ⟨RJ2, "indexOf", "([BIII)I"⟩
abbrev cJ2_indexOfChar_4cfef : ByteArray := prog_15_method_47_code
def yJ2_indexOfChar_4cfef : MethodName := ⟨RJ2, "indexOfChar", "([BIII)I"⟩
abbrev cJ2_indexOfCharUnsafe_4cfef : ByteArray := prog_15_method_48_code
def yJ2_indexOfCharUnsafe_4cfef : MethodName := ⟨RJ2, "indexOfCharUnsafe", "([BIII)I"⟩
abbrev cJ2_indexOfSupplementary_4cfef : ByteArray := prog_15_method_49_code
def yJ2_indexOfSupplementary_4cfef : MethodName := ⟨RJ2, "indexOfSupplementary", "([BIII)I"⟩
abbrev cJ2_charAt_3b067 : ByteArray := prog_15_method_83_code
def yJ2_charAt_3b067 : MethodName := ⟨RJ2, "charAt", "([BI)C"⟩
abbrev cJ2_checkIndex_2214a : ByteArray := prog_15_method_91_code
def yJ2_checkIndex_2214a : MethodName := ⟨RJ2, "checkIndex", "(I[B)V"⟩
abbrev cJ2_checkBoundsBeginEnd_d044e : ByteArray := prog_15_method_93_code
def yJ2_checkBoundsBeginEnd_d044e : MethodName := ⟨RJ2, "checkBoundsBeginEnd", "(II[B)V"⟩
def RJ10 : String := "java/lang/System"
def RJxfd54e : String := "java/lang/constant/Constable"
def RJx3cf43 : String := "java/lang/constant/ConstantDesc"
def RJ7 : String := "java/util/Arrays"
abbrev cJ7_fill_53178 : ByteArray := prog_17_method_103_code
def yJ7_fill_53178 : MethodName := ⟨RJ7, "fill", "([II)V"⟩
abbrev cJ7_copyOf_59c91 : ByteArray := prog_17_method_123_code
def yJ7_copyOf_59c91 : MethodName := ⟨RJ7, "copyOf", "([II)[I"⟩
def RJ3 : String := "jdk/internal/util/Preconditions"
abbrev cJ3_checkIndex_8e157 : ByteArray := prog_18_method_11_code
def yJ3_checkIndex_8e157 : MethodName := ⟨RJ3, "checkIndex", "(IILjava/util/function/BiFunction;)I"⟩
abbrev cJ3_checkFromToIndex_8c36e : ByteArray := prog_18_method_12_code
def yJ3_checkFromToIndex_8c36e : MethodName := ⟨RJ3, "checkFromToIndex", "(IIILjava/util/function/BiFunction;)I"⟩
def RL : String := "TillTheyMeetLaw"
abbrev cL_law : ByteArray := code
def yL_law : MethodName := ⟨RL, "law", "([I)Z"⟩
def mX0_init : MI := (yX0_init, prog_2_method_1_code, 1, none)
def mX0_clear : MI := (yX0_clear, prog_2_method_2_code, 1, none)
def mX0_offer : MI := (yX0_offer, prog_2_method_3_code, 3, none)
def mX1_init : MI := (yX1_init, prog_3_method_1_code, 2, none)
def mX1_nextYard : MI := (yX1_nextYard, prog_3_method_2_code, 1, some (.int))
def mX1_gain : MI := (yX1_gain, prog_3_method_3_code, 1, some (.int))
def mX1_does : MI := (yX1_does, prog_3_method_4_code, 6, some (.int))
def mX1_costs : MI := (yX1_costs, prog_3_method_5_code, 1, some (.int))
def mX1_isUnder : MI := (yX1_isUnder, prog_3_method_6_code, 4, some (.boolean))
def mX1_copyKept : MI := (yX1_copyKept, prog_3_method_7_code, 2, none)
def mX1_forgetAnswers : MI := (yX1_forgetAnswers, prog_3_method_8_code, 1, none)
def mX2_init : MI := (yX2_init, prog_4_method_1_code, 1, none)
def mX2_append : MI := (yX2_append, prog_4_method_2_code, 2, some (.boolean))
def mX2_ruleOf : MI := (yX2_ruleOf, prog_4_method_3_code, 2, some (.object "TillTheyMeet$Rule"))
def mX2_readText : MI := (yX2_readText, prog_4_method_4_code, 2, none)
def mX2_refuse : MI := (yX2_refuse, prog_4_method_5_code, 1, none)
def mX2_expect : MI := (yX2_expect, prog_4_method_6_code, 2, none)
def mX2_put : MI := (yX2_put, prog_4_method_7_code, 2, none)
def mX2_readLevel : MI := (yX2_readLevel, prog_4_method_8_code, 6, none)
def mX2_readOne : MI := (yX2_readOne, prog_4_method_9_code, 2, none)
def mX2_opens : MI := (yX2_opens, prog_4_method_10_code, 2, some (.boolean))
def mX2_stepAt : MI := (yX2_stepAt, prog_4_method_11_code, 2, some (.int))
def mX2_advance : MI := (yX2_advance, prog_4_method_12_code, 2, none)
def mX2_readNumber : MI := (yX2_readNumber, prog_4_method_13_code, 1, none)
def mX2_readWord : MI := (yX2_readWord, prog_4_method_14_code, 2, none)
def mX2_spells : MI := (yX2_spells, prog_4_method_15_code, 5, some (.boolean))
def mX2_readSign : MI := (yX2_readSign, prog_4_method_16_code, 3, none)
def mX2_isBlank : MI := (yX2_isBlank, prog_4_method_17_code, 1, some (.boolean))
def mX2_isDigit : MI := (yX2_isDigit, prog_4_method_18_code, 1, some (.boolean))
def mX2_isLetter : MI := (yX2_isLetter, prog_4_method_19_code, 1, some (.boolean))
def mX3_init : MI := (yX3_init, prog_5_method_1_code, 2, none)
def mX3_gangOf : MI := (yX3_gangOf, prog_5_method_2_code, 2, some (.object "TillTheyMeet$Gang"))
def mX3_groundOf : MI := (yX3_groundOf, prog_5_method_3_code, 2, some (.int))
def mX3_ahead : MI := (yX3_ahead, prog_5_method_4_code, 1, some (.int))
def mX3_doerOf : MI := (yX3_doerOf, prog_5_method_5_code, 2, some (.int))
def mX3_paid : MI := (yX3_paid, prog_5_method_6_code, 1, some (.int))
def mX3_worth : MI := (yX3_worth, prog_5_method_7_code, 3, some (.int))
def mX3_ask : MI := (yX3_ask, prog_5_method_8_code, 4, some (.int))
def mX3_askOfNext : MI := (yX3_askOfNext, prog_5_method_9_code, 5, some (.int))
def mX3_forgetAnswers : MI := (yX3_forgetAnswers, prog_5_method_10_code, 1, none)
def mX3_takeTurn : MI := (yX3_takeTurn, prog_5_method_11_code, 5, none)
def mX3_passDay : MI := (yX3_passDay, prog_5_method_12_code, 2, none)
def mX3_runOut : MI := (yX3_runOut, prog_5_method_13_code, 4, some (.int))
def mX3_copyKept : MI := (yX3_copyKept, prog_5_method_14_code, 2, none)
def mX3_copyAll : MI := (yX3_copyAll, prog_5_method_15_code, 2, none)
def mX4_init : MI := (yX4_init, prog_6_method_1_code, 6, none)
def mX4_valueOf : MI := (yX4_valueOf, prog_6_method_2_code, 11, some (.int))
def mX5_init : MI := (yX5_init, prog_7_method_1_code, 1, none)
def mX5_isMissing : MI := (yX5_isMissing, prog_7_method_2_code, 1, some (.boolean))
def mX5_become : MI := (yX5_become, prog_7_method_3_code, 3, none)
def mX5_has : MI := (yX5_has, prog_7_method_4_code, 2, some (.boolean))
def mX5_hasSpan : MI := (yX5_hasSpan, prog_7_method_5_code, 3, some (.boolean))
def mX5_cut : MI := (yX5_cut, prog_7_method_6_code, 2, some (.int))
def mX6_init : MI := (yX6_init, prog_1_method_1_code, 3, none)
def mX6_ground : MI := (yX6_ground, prog_1_method_2_code, 6, some (.int))
def mX6_yard : MI := (yX6_yard, prog_1_method_3_code, 3, some (.int))
def mX6_gang : MI := (yX6_gang, prog_1_method_4_code, 6, some (.int))
def mX6_set : MI := (yX6_set, prog_1_method_5_code, 5, some (.int))
def mX6_told : MI := (yX6_told, prog_1_method_6_code, 4, some (.int))
def mX6_doesToday : MI := (yX6_doesToday, prog_1_method_7_code, 3, some (.int))
def mX6_feed : MI := (yX6_feed, prog_1_method_8_code, 2, some (.int))
def mX6_text : MI := (yX6_text, prog_1_method_9_code, 2, some (.int))
def mX6_force : MI := (yX6_force, prog_1_method_10_code, 4, some (.int))
def mX6_day : MI := (yX6_day, prog_1_method_11_code, 1, some (.int))
def mX6_run : MI := (yX6_run, prog_1_method_12_code, 3, some (.int))
def mX6_done : MI := (yX6_done, prog_1_method_13_code, 4, some (.int))
def mX6_ease : MI := (yX6_ease, prog_1_method_14_code, 4, some (.int))
def mX6_men : MI := (yX6_men, prog_1_method_15_code, 3, some (.int))
def mX6_seekMen : MI := (yX6_seekMen, prog_1_method_16_code, 7, some (.int))
def mX6_quarrel : MI := (yX6_quarrel, prog_1_method_17_code, 7, some (.int))
def mX6_bore : MI := (yX6_bore, prog_1_method_18_code, 5, some (.int))
def mX6_well : MI := (yX6_well, prog_1_method_19_code, 6, some (.int))
def mX6_slowed : MI := (yX6_slowed, prog_1_method_20_code, 7, some (.int))
def mX6_goesAs : MI := (yX6_goesAs, prog_1_method_21_code, 5, some (.boolean))
def mX6_bet : MI := (yX6_bet, prog_1_method_22_code, 5, some (.int))
def mX6_soonest : MI := (yX6_soonest, prog_1_method_23_code, 3, some (.int))
def mX6_cheapest : MI := (yX6_cheapest, prog_1_method_24_code, 2, some (.int))
def mX6_drawn : MI := (yX6_drawn, prog_1_method_25_code, 4, some (.int))
def mX6_chance : MI := (yX6_chance, prog_1_method_26_code, 7, some (.long))
def mX6_commonPart : MI := (yX6_commonPart, prog_1_method_27_code, 3, some (.int))
def mX6_image : MI := (yX6_image, prog_1_method_28_code, 1, some (.int))
def mX6_back : MI := (yX6_back, prog_1_method_29_code, 1, some (.int))
def mX6_count : MI := (yX6_count, prog_1_method_30_code, 2, some (.int))
def mX6_sheet : MI := (yX6_sheet, prog_1_method_31_code, 5, some (.int))
def mX6_cell : MI := (yX6_cell, prog_1_method_32_code, 5, some (.int))
def mX6_copy : MI := (yX6_copy, prog_1_method_33_code, 8, some (.int))
def mX6_grounds : MI := (yX6_grounds, prog_1_method_34_code, 9, some (.int))
def mX6_taken : MI := (yX6_taken, prog_1_method_35_code, 4, some (.int))
def mX6_within : MI := (yX6_within, prog_1_method_36_code, 3, some (.boolean))
def mX6_isYard : MI := (yX6_isYard, prog_1_method_37_code, 1, some (.boolean))
def mX6_isGang : MI := (yX6_isGang, prog_1_method_38_code, 1, some (.boolean))
def mX6_sheetOf : MI := (yX6_sheetOf, prog_1_method_39_code, 2, some (.object "TillTheyMeet$Sheet"))
def mX7_in : MI := (yX7_in, prog_9_method_2_code, 6, some (.boolean))
def mX7_within : MI := (yX7_within, prog_9_method_3_code, 3, some (.int))
def mX7_init : MI := (yX7_init, prog_9_method_4_code, 1, none)
def mX7_spell : MI := (yX7_spell, prog_9_method_5_code, 10, none)
def mX7_isYard : MI := (yX7_isYard, prog_9_method_6_code, 1, some (.boolean))
def mX7_isGang : MI := (yX7_isGang, prog_9_method_7_code, 1, some (.boolean))
def mX7_left : MI := (yX7_left, prog_9_method_8_code, 1, some (.int))
def mX7_whose : MI := (yX7_whose, prog_9_method_9_code, 2, some (.int))
def mX7_nextOf : MI := (yX7_nextOf, prog_9_method_10_code, 2, some (.int))
def mX7_ground : MI := (yX7_ground, prog_9_method_11_code, 5, some (.int))
def mX7_yard : MI := (yX7_yard, prog_9_method_12_code, 3, some (.int))
def mX7_gang : MI := (yX7_gang, prog_9_method_13_code, 5, some (.int))
def mX7_set : MI := (yX7_set, prog_9_method_14_code, 4, some (.int))
def mX7_told : MI := (yX7_told, prog_9_method_15_code, 3, some (.int))
def mX7_feed : MI := (yX7_feed, prog_9_method_16_code, 2, some (.int))
def mX7_byteAt : MI := (yX7_byteAt, prog_9_method_17_code, 2, some (.int))
def mX7_next : MI := (yX7_next, prog_9_method_18_code, 3, none)
def mX7_fail : MI := (yX7_fail, prog_9_method_19_code, 1, none)
def mX7_isLetter : MI := (yX7_isLetter, prog_9_method_20_code, 3, some (.boolean))
def mX7_isWord : MI := (yX7_isWord, prog_9_method_21_code, 9, some (.boolean))
def mX7_isSign : MI := (yX7_isSign, prog_9_method_22_code, 2, some (.boolean))
def mX7_opens : MI := (yX7_opens, prog_9_method_23_code, 1, some (.boolean))
def mX7_name : MI := (yX7_name, prog_9_method_24_code, 1, some (.int))
def mX7_atom : MI := (yX7_atom, prog_9_method_25_code, 2, some (.int))
def mX7_term : MI := (yX7_term, prog_9_method_26_code, 2, some (.int))
def mX7_added : MI := (yX7_added, prog_9_method_27_code, 4, some (.int))
def mX7_not : MI := (yX7_not, prog_9_method_28_code, 4, some (.int))
def mX7_both : MI := (yX7_both, prog_9_method_29_code, 3, some (.int))
def mX7_either : MI := (yX7_either, prog_9_method_30_code, 3, some (.int))
def mX7_part : MI := (yX7_part, prog_9_method_31_code, 3, some (.int))
def mX7_read : MI := (yX7_read, prog_9_method_32_code, 6, some (.int))
def mX7_text : MI := (yX7_text, prog_9_method_33_code, 2, some (.int))
def mX7_force : MI := (yX7_force, prog_9_method_34_code, 3, some (.int))
def mX7_says : MI := (yX7_says, prog_9_method_35_code, 4, some (.int))
def mX7_needs : MI := (yX7_needs, prog_9_method_36_code, 3, some (.int))
def mX7_does : MI := (yX7_does, prog_9_method_37_code, 6, some (.int))
def mX7_costs : MI := (yX7_costs, prog_9_method_38_code, 4, some (.int))
def mX7_turn : MI := (yX7_turn, prog_9_method_39_code, 5, none)
def mX7_passes : MI := (yX7_passes, prog_9_method_40_code, 3, none)
def mX7_day : MI := (yX7_day, prog_9_method_41_code, 1, some (.int))
def mX7_laysAside : MI := (yX7_laysAside, prog_9_method_42_code, 2, none)
def mX7_laysBack : MI := (yX7_laysBack, prog_9_method_43_code, 2, none)
def mX7_runs : MI := (yX7_runs, prog_9_method_44_code, 3, none)
def mX7_gain : MI := (yX7_gain, prog_9_method_45_code, 2, some (.int))
def mX7_worthAll : MI := (yX7_worthAll, prog_9_method_46_code, 3, some (.int))
def mX7_run : MI := (yX7_run, prog_9_method_47_code, 5, some (.int))
def mX7_done : MI := (yX7_done, prog_9_method_48_code, 4, some (.int))
def mX7_ease : MI := (yX7_ease, prog_9_method_49_code, 7, some (.int))
def mX7_gainBy : MI := (yX7_gainBy, prog_9_method_50_code, 4, some (.int))
def mX7_bestMen : MI := (yX7_bestMen, prog_9_method_51_code, 5, some (.int))
def mX7_men : MI := (yX7_men, prog_9_method_52_code, 4, some (.int))
def mX7_quarrel : MI := (yX7_quarrel, prog_9_method_53_code, 10, some (.int))
def mX7_bore : MI := (yX7_bore, prog_9_method_54_code, 5, some (.int))
def mX7_well : MI := (yX7_well, prog_9_method_55_code, 4, some (.int))
def mX7_slowed : MI := (yX7_slowed, prog_9_method_56_code, 8, some (.int))
def mX7_off : MI := (yX7_off, prog_9_method_57_code, 2, some (.int))
def mX7_bet : MI := (yX7_bet, prog_9_method_58_code, 6, some (.int))
def mX7_soonest : MI := (yX7_soonest, prog_9_method_59_code, 6, some (.int))
def mX7_cheapest : MI := (yX7_cheapest, prog_9_method_60_code, 3, some (.int))
def mX7_drawn : MI := (yX7_drawn, prog_9_method_61_code, 4, some (.int))
def mX7_lowest : MI := (yX7_lowest, prog_9_method_62_code, 11, some (.long))
def mX7_chance : MI := (yX7_chance, prog_9_method_63_code, 8, some (.long))
def mX7_image : MI := (yX7_image, prog_9_method_64_code, 2, some (.int))
def mX7_back : MI := (yX7_back, prog_9_method_65_code, 2, some (.int))
def mX7_count : MI := (yX7_count, prog_9_method_66_code, 2, some (.int))
def mX7_isSheet : MI := (yX7_isSheet, prog_9_method_67_code, 1, some (.boolean))
def mX7_sheet : MI := (yX7_sheet, prog_9_method_68_code, 5, some (.int))
def mX7_cell : MI := (yX7_cell, prog_9_method_69_code, 4, some (.int))
def mX7_copy : MI := (yX7_copy, prog_9_method_70_code, 9, some (.int))
def mX7_grounds : MI := (yX7_grounds, prog_9_method_71_code, 8, some (.int))
def mX7_over : MI := (yX7_over, prog_9_method_72_code, 1, some (.int))
def mX7_taken : MI := (yX7_taken, prog_9_method_73_code, 4, some (.int))
def mJ11_isValidCodePoint_9a6ad : MI := (yJ11_isValidCodePoint_9a6ad, prog_10_method_11_code, 2, some (.boolean))
def mJ11_highSurrogate_5068e : MI := (yJ11_highSurrogate_5068e, prog_10_method_28_code, 1, some (.char))
def mJ11_lowSurrogate_5068e : MI := (yJ11_lowSurrogate_5068e, prog_10_method_29_code, 1, some (.char))
def mJ9_abs_0f7a4 : MI := (yJ9_abs_0f7a4, prog_12_method_59_code, 1, some (.int))
def mJ9_max_7cf53 : MI := (yJ9_max_7cf53, prog_12_method_65_code, 2, some (.int))
def mJ9_min_7cf53 : MI := (yJ9_min_7cf53, prog_12_method_69_code, 2, some (.int))
def mJ0_length_8abf5 : MI := (yJ0_length_8abf5, prog_13_method_54_code, 1, some (.int))
def mJ0_charAt_5068e : MI := (yJ0_charAt_5068e, prog_13_method_56_code, 2, some (.char))
def mJ0_indexOf_0f7a4 : MI := (yJ0_indexOf_0f7a4, prog_13_method_79_code, 2, some (.int))
def mJ0_indexOf_7cf53 : MI := (yJ0_indexOf_7cf53, prog_13_method_80_code, 3, some (.int))
def mJ0_coder_7d493 : MI := (yJ0_coder_7d493, prog_13_method_152_code, 1, some (.byte))
def mJ0_isLatin1_aae02 : MI := (yJ0_isLatin1_aae02, prog_13_method_154_code, 1, some (.boolean))
def mJ0_checkIndex_df160 : MI := (yJ0_checkIndex_df160, prog_13_method_155_code, 2, none)
def mJ0_checkBoundsBeginEnd_23922 : MI := (yJ0_checkBoundsBeginEnd_23922, prog_13_method_158_code, 3, none)
def mJ1_charAt_3b067 : MI := (yJ1_charAt_3b067, prog_14_method_2_code, 2, some (.char))
def mJ1_canEncode_9a6ad : MI := (yJ1_canEncode_9a6ad, prog_14_method_4_code, 1, some (.boolean))
def mJ1_indexOf_4cfef : MI := (yJ1_indexOf_4cfef, prog_14_method_22_code, 4, some (.int))
def mJ1_indexOfChar_4cfef : MI := (yJ1_indexOfChar_4cfef, prog_14_method_23_code, 6, some (.int))
def mJ2_getChar_3b067 : MI := (yJ2_getChar_3b067, prog_15_method_5_code, 2, some (.char))
def mJ2_length_9d52b : MI := (yJ2_length_9d52b, prog_15_method_6_code, 1, some (.int))
def mJ2_indexOf_4cfef : MI := (yJ2_indexOf_4cfef, prog_15_method_40_code, 4, some (.int))
def mJ2_indexOfChar_4cfef : MI := (yJ2_indexOfChar_4cfef, prog_15_method_47_code, 4, some (.int))
def mJ2_indexOfCharUnsafe_4cfef : MI := (yJ2_indexOfCharUnsafe_4cfef, prog_15_method_48_code, 5, some (.int))
def mJ2_indexOfSupplementary_4cfef : MI := (yJ2_indexOfSupplementary_4cfef, prog_15_method_49_code, 7, some (.int))
def mJ2_charAt_3b067 : MI := (yJ2_charAt_3b067, prog_15_method_83_code, 2, some (.char))
def mJ2_checkIndex_2214a : MI := (yJ2_checkIndex_2214a, prog_15_method_91_code, 2, none)
def mJ2_checkBoundsBeginEnd_d044e : MI := (yJ2_checkBoundsBeginEnd_d044e, prog_15_method_93_code, 3, none)
def mJ7_fill_53178 : MI := (yJ7_fill_53178, prog_17_method_103_code, 4, none)
def mJ7_copyOf_59c91 : MI := (yJ7_copyOf_59c91, prog_17_method_123_code, 3, some (.array .int))
def mJ3_checkIndex_8e157 : MI := (yJ3_checkIndex_8e157, prog_18_method_11_code, 3, some (.int))
def mJ3_checkFromToIndex_8c36e : MI := (yJ3_checkFromToIndex_8c36e, prog_18_method_12_code, 4, some (.int))
abbrev vwCl : List vw_C := [(RX0, TX0, 3), (RX1, TX1, 10), (RX2, TX2, 10), (RX3, TX3, 10), (RX4, TX4, 5), (RX5, TX5, 3), (RX6, TX6, 10), (RX7, TX7, 55)]
def tyc (c : Nat) : Nat → FieldType := match c with
  | 0 => tyX0
  | 1 => tyX1
  | 2 => tyX2
  | 3 => tyX3
  | 4 => tyX4
  | 5 => tyX5
  | 6 => tyX6
  | _ => tyX7
end
section
/-! THE LOGIC: a heap by numbers of cells. A cell's number is its place in the order of making: its address is fixed by it.
    iv, rv, lv: what int-like, reference and long slots hold, by cell and slot; a reference is a cell's number, 0 is null.
    Cells 1 .. K0-1 are old (script, static rows, texts) and never written. -/
abbrev IV : Type := Nat → Nat → Int32
abbrev RV : Type := Nat → Nat → Nat
abbrev LV : Type := Nat → Nat → Int64
/-- how many cells there are, each one's kind, each one's length -/
abbrev Sh : Type := Nat × (Nat → Nat) × (Nat → Nat)
abbrev K0 : Nat := 14
/-- the state at the law's entry, classes and slots, array classes by kind, old cells: address, kind, length, ints, references -/
abbrev GS : Type := State × va_G × (Nat → ClassId) × (Nat → Nat) × (Nat → Nat) × (Nat → Nat → Int32)
abbrev GS.s0 (g : GS) : State := g.1
abbrev GS.dd (g : GS) : va_G := g.2.1
abbrev GS.ac (g : GS) : Nat → ClassId := g.2.2.1
abbrev GS.ro (g : GS) : Nat → Nat := g.2.2.2.1
abbrev GS.oln (g : GS) : Nat → Nat := g.2.2.2.2.1
abbrev GS.oiv (g : GS) : Nat → Nat → Int32 := g.2.2.2.2.2
def gbase (g : GS) : Nat := g.s0.heap.size
def rho (g : GS) (i : Nat) : Nat := if i < K0 then g.ro i else gbase g + (i - K0)
def cv (g : GS) (v : Value) : Value := match v with
  | .ref i => if i = 0 then .null else .ref (rho g i)
  | v => v
theorem cv_int (g : GS) (x : Int32) : cv g (.int x) = .int x := rfl
theorem cv_long (g : GS) (x : Int64) : cv g (.long x) = .long x := rfl
theorem cv_null (g : GS) : cv g (.ref 0) = .null := rfl
theorem cv_ref (g : GS) {i : Nat} (h : 0 < i) : cv g (.ref i) = .ref (rho g i) := if_neg (by omega)
theorem cv_cat (g : GS) (v : Value) : (cv g v).category = v.category := by
  cases v <;> first | rfl | skip
  unfold cv
  dsimp only
  split <;> rfl
/-- a slot's value by its type -/
def sv (ty : FieldType) (iv : IV) (rv : RV) (lv : LV) (i k : Nat) : Value := match ty with
  | .long => .long (lv i k)
  | .object _ => .ref (rv i k)
  | .array _ => .ref (rv i k)
  | _ => .int (iv i k)
/-- element types of array kinds: 20 int, 21 boolean, 22 byte, 23 Rule, 24 Sheet -/
def aty (k : Nat) : FieldType := match k with
  | 20 => .int
  | 21 => .boolean
  | 22 => .byte
  | 23 => .object "TillTheyMeet$Rule"
  | _ => .object "TillTheyMeet$Sheet"
def up {α : Type} (f : Nat → Nat → α) (i k : Nat) (x : α) : Nat → Nat → α := fun a b => if a = i ∧ b = k then x else f a b
def clr {α : Type} (f : Nat → Nat → α) (i : Nat) (z : α) : Nat → Nat → α := fun a b => if a = i then z else f a b
def up1 {α : Type} (f : Nat → α) (i : Nat) (x : α) : Nat → α := fun a => if a = i then x else f a
theorem up_same {α : Type} (f : Nat → Nat → α) (i k : Nat) (x : α) : up f i k x i k = x := if_pos ⟨rfl, rfl⟩
theorem up_ne {α : Type} {f : Nat → Nat → α} {i k a b : Nat} {x : α} (h : ¬ (a = i ∧ b = k)) : up f i k x a b = f a b := if_neg h
theorem up_ne1 {α : Type} {f : Nat → Nat → α} {i k a b : Nat} {x : α} (h : a ≠ i) : up f i k x a b = f a b := if_neg (fun q => h q.1)
theorem up_ne2 {α : Type} {f : Nat → Nat → α} {i k a b : Nat} {x : α} (h : b ≠ k) : up f i k x a b = f a b := if_neg (fun q => h q.2)
abbrev oldA (g : GS) : Nat → Prop := fun q => gbase g ≤ q
/-- what the old cells are, and the tables: 1 script, 2 .. 6 static rows, 7 .. 12 texts (object, bytes), 13 what nobody asks -/
def GoodG (g : GS) : Prop :=
  va_K g.dd vwCl [] g.s0
  ∧ (∀ k, 20 ≤ k → k < 25 → ArrOfT g.s0 (g.ac k) (aty k) ∧ va_RA g.s0 (g.ac k) (aty k))
  ∧ (va_X (g.ro 1) (g.oln 1) (g.oiv 1) g.s0 g.s0.heap ∧ g.ro 1 < gbase g)
  ∧ (∀ i, 2 ≤ i → i < 7 → va_T .int (g.ro i) (g.oln i) (fun j => .int (g.oiv i j)) (oldA g) g.s0 g.s0.heap)
  ∧ (va_Z "TillTheyMeet" "SET_LEAST" "[I" (.ref (g.ro 2)) (oldA g) g.s0 g.s0.heap
     ∧ va_Z "TillTheyMeet" "SET_MOST" "[I" (.ref (g.ro 3)) (oldA g) g.s0 g.s0.heap
     ∧ va_Z "TillTheyMeet$Gang" "UNDER" "[I" (.ref (g.ro 4)) (oldA g) g.s0 g.s0.heap
     ∧ va_Z "TillTheyMeet$Road" "LEAST" "[I" (.ref (g.ro 5)) (oldA g) g.s0 g.s0.heap
     ∧ va_Z "TillTheyMeet$Road" "MOST" "[I" (.ref (g.ro 6)) (oldA g) g.s0 g.s0.heap
     ∧ va_Z "java/lang/String" "COMPACT_STRINGS" "Z" (.int 1) (oldA g) g.s0 g.s0.heap
     ∧ (va_Z "jdk/internal/util/Preconditions" "SIOOBE_FORMATTER" "Ljava/util/function/BiFunction;" .null (oldA g) g.s0 g.s0.heap ∨ va_Z "jdk/internal/util/Preconditions" "SIOOBE_FORMATTER" "Ljava/util/function/BiFunction;" (.ref (g.ro 13)) (oldA g) g.s0 g.s0.heap))
  ∧ (∀ j, j < 3 → va_O "java/lang/String" (g.ro (7 + 2 * j)) (oldA g) g.s0 g.s0.heap ∧ va_OF "java/lang/String" "coder" "B" (.int 0) (g.ro (7 + 2 * j)) (oldA g) g.s0 g.s0.heap ∧ va_OF "java/lang/String" "value" "[B" (.ref (g.ro (8 + 2 * j))) (g.ro (7 + 2 * j)) (oldA g) g.s0 g.s0.heap ∧ va_T .byte (g.ro (8 + 2 * j)) (g.oln (8 + 2 * j)) (fun q => .int (g.oiv (8 + 2 * j) q)) (oldA g) g.s0 g.s0.heap)
  ∧ (vk_R "TillTheyMeet" 43 "rate men * 4 ; need 30 + ground * 25 ; worth 0 ;" (g.ro 7) g.s0 ∧ (∃ tx, vk_R "TillTheyMeet$Reader" 108 tx (g.ro 9) g.s0) ∧ ∃ tx, vk_R "TillTheyMeet$Reader" 116 tx (g.ro 11) g.s0)
  ∧ (∀ q ∈ lw_tbl, (∃ a i y h, q = Cond.methodLinkNest a i y h) → va_Nw q g.s0)
  ∧ ((Cond.arrayOver (.object "TillTheyMeet$Rule")).before #[] g.s0 = true ∧ (Cond.arrayOver (.object "TillTheyMeet$Sheet")).before #[] g.s0 = true ∧ va_Nw (.castable "[I" "java/lang/Cloneable") g.s0)
/-- a cell that was made since -/
def cellOK (g : GS) (Γ : Sh) (iv : IV) (rv : RV) (lv : LV) (H : Heap) (i : Nat) : Prop :=
  (∃ r : vw_C, vwCl[Γ.2.1 i]? = some r ∧ t_OB (rho g i) (g.dd.1 (Γ.2.1 i)) r.2.2 (g.dd.2 (Γ.2.1 i)) H (fun k => cv g (sv (tyc (Γ.2.1 i) k) iv rv lv i k)))
  ∨ (20 ≤ Γ.2.1 i ∧ Γ.2.1 i < 25 ∧ H[rho g i]? = some (arrV (g.ac (Γ.2.1 i)) (Γ.2.2 i) (fun j => cv g (sv (aty (Γ.2.1 i)) iv rv lv i j))))
def RepH (g : GS) (Γ : Sh) (iv : IV) (rv : RV) (lv : LV) (H : Heap) : Prop :=
  K0 ≤ Γ.1 ∧ H.size = gbase g + (Γ.1 - K0) ∧ (∀ q : Nat, q < gbase g → H[q]? = g.s0.heap[q]?) ∧ ∀ i, K0 ≤ i → i < Γ.1 → cellOK g Γ iv rv lv H i
/-- a cell of ours of a kind; an array of a kind and length -/
def IsK (Γ : Sh) (i c : Nat) : Prop := K0 ≤ i ∧ i < Γ.1 ∧ Γ.2.1 i = c
def IsA (Γ : Sh) (i c n : Nat) : Prop := K0 ≤ i ∧ i < Γ.1 ∧ Γ.2.1 i = c ∧ Γ.2.2 i = n
theorem rho_new {g : GS} {i : Nat} (h : K0 ≤ i) : rho g i = gbase g + (i - K0) := if_neg (by omega)
theorem rho_old {g : GS} {i : Nat} (h : i < K0) : rho g i = g.ro i := if_pos h
theorem rho_inj {g : GS} {i j : Nat} (hi : K0 ≤ i) (hj : K0 ≤ j) (h : i ≠ j) : rho g i ≠ rho g j := by
  rw [rho_new hi, rho_new hj]; omega
theorem rho_base {g : GS} {i : Nat} (h : K0 ≤ i) : gbase g ≤ rho g i := by rw [rho_new h]; omega
theorem cv_new {g : GS} {i : Nat} (h : K0 ≤ i) : cv g (.ref i) = .ref (rho g i) := cv_ref g (by have : K0 = 14 := rfl; omega)
theorem sv_off {ty : FieldType} {iv iv' : IV} {rv rv' : RV} {lv lv' : LV} {i k : Nat} (h1 : iv' i k = iv i k) (h2 : rv' i k = rv i k) (h3 : lv' i k = lv i k) : sv ty iv' rv' lv' i k = sv ty iv rv lv i k := by
  unfold sv; cases ty <;> simp only [h1, h2, h3]
theorem cellOK.off {g : GS} {Γ : Sh} {iv iv' : IV} {rv rv' : RV} {lv lv' : LV} {H H' : Heap} {j : Nat} (h : cellOK g Γ iv rv lv H j) (hH : H'[rho g j]? = H[rho g j]?) (h1 : ∀ k, iv' j k = iv j k) (h2 : ∀ k, rv' j k = rv j k) (h3 : ∀ k, lv' j k = lv j k) : cellOK g Γ iv' rv' lv' H' j := by
  rcases h with ⟨r, a, b⟩ | ⟨a, b, c⟩
  · exact Or.inl ⟨r, a, (b.kept hH).to (fun k _ => by rw [sv_off (h1 k) (h2 k) (h3 k)])⟩
  · refine Or.inr ⟨a, b, ?_⟩
    rw [hH, c]
    congr 3
    funext k
    rw [sv_off (h1 k) (h2 k) (h3 k)]
/-- one cell is written -/
theorem RepH.put {g : GS} {Γ : Sh} {iv iv' : IV} {rv rv' : RV} {lv lv' : LV} {H H' : Heap} {i : Nat} (h : RepH g Γ iv rv lv H) (hi : K0 ≤ i) (hz : H'.size = H.size) (ho : ∀ q : Nat, q ≠ rho g i → H'[q]? = H[q]?) (hc : cellOK g Γ iv' rv' lv' H' i)
    (h1 : ∀ j k, j ≠ i → iv' j k = iv j k) (h2 : ∀ j k, j ≠ i → rv' j k = rv j k) (h3 : ∀ j k, j ≠ i → lv' j k = lv j k) : RepH g Γ iv' rv' lv' H' := by
  obtain ⟨a, b, c, d⟩ := h
  refine ⟨a, by rw [hz]; exact b, fun q hq => by rw [ho q (by have := rho_base (g := g) hi; omega)]; exact c q hq, fun j hj hn => ?_⟩
  by_cases e : j = i
  · subst e; exact hc
  · exact (d j hj hn).off (ho _ (rho_inj hj hi e)) (fun k => h1 j k e) (fun k => h2 j k e) (fun k => h3 j k e)
/-! locals: one value a place; '.retAddr' says that nothing is known there -/
def isD (v : Value) : Bool := match v with
  | .retAddr _ => true
  | _ => false
def lsOK (g : GS) (nL : Nat) (ls : List Value) (lsC : Array Slot) : Prop := lsC.size = nL ∧ lv_wf lsC ∧ ls.length ≤ nL ∧ ∀ (i : Nat) (v : Value), ls[i]? = some v → isD v = false → lsC[i]? = some (.val (cv g v))
def prs (g : GS) : Nat → List Value → List (Nat × Value)
  | _, [] => []
  | i, v :: vs => if isD v then prs g (i + 1) vs else (i, cv g v) :: prs g (i + 1) vs
theorem mem_prs {g : GS} {ls : List Value} : ∀ {i : Nat} {q : Nat × Value}, q ∈ prs g i ls ↔ ∃ (j : Nat) (v : Value), ls[j]? = some v ∧ isD v = false ∧ q = (i + j, cv g v) := by
  induction ls with
  | nil => intro i q; simp [prs]
  | cons v vs ih =>
    intro i q
    unfold prs
    constructor
    · intro h
      split at h
      · obtain ⟨j, w, h1, h2, h3⟩ := ih.mp h
        exact ⟨j + 1, w, by simpa using h1, h2, by rw [h3]; congr 1; omega⟩
      · rename_i hv
        rcases List.mem_cons.mp h with e | h
        · exact ⟨0, v, by simp, by simpa using hv, by simpa using e⟩
        · obtain ⟨j, w, h1, h2, h3⟩ := ih.mp h
          exact ⟨j + 1, w, by simpa using h1, h2, by rw [h3]; congr 1; omega⟩
    · rintro ⟨j, w, h1, h2, h3⟩
      cases j with
      | zero =>
        simp at h1
        subst h1
        rw [if_neg (by simp [h2])]
        exact List.mem_cons.mpr (Or.inl (by simpa using h3))
      | succ j =>
        have : q ∈ prs g (i + 1) vs := ih.mpr ⟨j, w, by simpa using h1, h2, by rw [h3]; congr 1; omega⟩
        split
        · exact this
        · exact List.mem_cons_of_mem _ this
theorem lsOK.has {g : GS} {nL : Nat} {ls : List Value} {lsC : Array Slot} (h : lsOK g nL ls lsC) : lv_has lsC nL (prs g 0 ls) := by
  refine ⟨h.1, h.2.1, fun q hq => ?_⟩
  obtain ⟨j, v, h1, h2, rfl⟩ := mem_prs.mp hq
  simpa using h.2.2.2 j v h1 h2
theorem lsOK.at {g : GS} {nL : Nat} {ls : List Value} {lsC : Array Slot} (h : lsOK g nL ls lsC) {i : Nat} {v : Value} (hi : ls[i]? = some v) (hd : isD v = false) : lsC[i]? = some (.val (cv g v)) := h.2.2.2 i v hi hd
/-- a place of category 1 is written -/
theorem lsOK.store {g : GS} {nL : Nat} {ls : List Value} {lsC : Array Slot} (h : lsOK g nL ls lsC) {i : Nat} {v : Value} {ls' : Array Slot} (hp : ∀ w, ls[i - 1]? = some w → 0 < i → w.category = 1)
    (h' : lv_has ls' nL ((i, cv g v) :: (prs g 0 ls).filter (fun q => !(q.1 == i) && !(q.1 + 1 == i && q.2.category == 2)))) : lsOK g nL (ls.set i v) ls' := by
  refine ⟨h'.1, h'.2.1, by rw [List.length_set]; exact h.2.2.1, fun j w hj hw => ?_⟩
  by_cases e : j = i
  · subst e
    have hlt : j < ls.length := by
      have := (List.getElem?_eq_some_iff.mp hj).1
      simpa using this
    rw [List.getElem?_set_self hlt] at hj
    cases hj
    exact h'.2.2 (j, cv g v) List.mem_cons_self
  · rw [List.getElem?_set_ne (fun z => e z.symm)] at hj
    refine h'.2.2 (j, cv g w) (List.mem_cons_of_mem _ (List.mem_filter.mpr ⟨mem_prs.mpr ⟨j, w, hj, hw, by simp⟩, ?_⟩))
    have : ¬ (j + 1 = i ∧ w.category = 2) := by
      rintro ⟨a, b⟩
      have := hp w (by rw [← a]; simpa using hj) (by omega)
      omega
    simp [e, cv_cat]
    exact Decidable.not_and_iff_or_not.mp this
theorem lsOK.store2 {g : GS} {nL : Nat} {ls : List Value} {lsC : Array Slot} (h : lsOK g nL ls lsC) {i z : Nat} {v : Value} {ls' : Array Slot} (hp : ∀ w, ls[i - 1]? = some w → 0 < i → w.category = 1)
    (h' : lv_has ls' nL ((i, cv g v) :: (prs g 0 ls).filter (fun q => !(q.1 == i) && (!(q.1 == i + 1) && !(q.1 + 1 == i && q.2.category == 2))))) : lsOK g nL ((ls.set i v).set (i + 1) (.retAddr z)) ls' := by
  refine ⟨h'.1, h'.2.1, by rw [List.length_set, List.length_set]; exact h.2.2.1, fun j w hj hw => ?_⟩
  by_cases e : j = i + 1
  · subst e
    have hlt := (List.getElem?_eq_some_iff.mp hj).1
    rw [List.getElem?_set_self (by simpa using hlt)] at hj
    cases hj
    cases hw
  rw [List.getElem?_set_ne (fun z => e z.symm)] at hj
  by_cases e : j = i
  · subst e
    have hlt : j < ls.length := by
      have := (List.getElem?_eq_some_iff.mp hj).1
      simpa using this
    rw [List.getElem?_set_self hlt] at hj
    cases hj
    exact h'.2.2 (j, cv g v) List.mem_cons_self
  · rw [List.getElem?_set_ne (fun z => e z.symm)] at hj
    refine h'.2.2 (j, cv g w) (List.mem_cons_of_mem _ (List.mem_filter.mpr ⟨mem_prs.mpr ⟨j, w, hj, hw, by simp⟩, ?_⟩))
    have : ¬ (j + 1 = i ∧ w.category = 2) := by
      rintro ⟨a, b⟩
      have := hp w (by rw [← a]; simpa using hj) (by omega)
      omega
    simp [e, cv_cat]
    refine ⟨by assumption, Decidable.not_and_iff_or_not.mp this⟩
/-! the judgements -/
abbrev Qt : Type := Option Value → Sh → IV → RV → LV → Prop
def rmA (d mc ms : Nat) : Room := { frames := d, cells := mc, slots := ms, locals := 100 * d }
def Cx (g : GS) (M : MI) (p : Program) (s : State) (m : MethodId) (args : Array Value) (meth : Method) (c : Code) : Prop :=
  p.tables.exec = Jvm.exec ∧ c.code = M.2.1 ∧ meth.sig.returnType = M.2.2.2 ∧ c.maxLocals = M.2.2.1 ∧ s.vm.findClass M.1.cls = some m.cls ∧ meth.name = M.1.name ∧ (∀ w ∈ gtb, w.before args s = true) ∧ meth.locks = false ∧ g.s0.WarmedH s.vm
def QcA (g : GS) (Q : Qt) : Array Value → State → Outcome → State → Prop := fun _ _ oc t => ∃ (r : Option Value) (Γ : Sh) (iv : IV) (rv : RV) (lv : LV), oc = .returned (r.map (cv g)) ∧ Q r Γ iv rv lv ∧ RepH g Γ iv rv lv t.heap
def PcA (g : GS) (as : List Value) (Γ : Sh) (iv : IV) (rv : RV) (lv : LV) : Array Value → State → Prop := fun v U => v = (as.map (cv g)).toArray ∧ g.s0.WarmedH U.vm ∧ RepH g Γ iv rv lv U.heap
/-- from here the method comes to its end, with Q -/
def Rn (g : GS) (l : Launch) (M : MI) (R : Room) (Q : Qt) (k n pc : Nat) (ls st : List Value) (Γ : Sh) (iv : IV) (rv : RV) (lv : LV) : Prop :=
  ∀ (p : Program) (e : Env) (s : State) (m : MethodId) (args : Array Value) (below : List Frame) (meth : Method) (c : Code) (H : Heap) (locs : List Loc) (lsC : Array Slot),
    GoodG g → Cx g M p s m args meth c → RepH g Γ iv rv lv H → (∀ q ∈ locs, gbase g ≤ q.base) → lsOK g M.2.2.1 ls lsC →
    W p l e R s m args below meth c H locs k n (MQ below (QcA g Q) args s R.cells R.slots (oldA g)) (F0 m pc lsC (st.map (cv g)))
/-- a method's contract at these arguments and this heap -/
def Ct (g : GS) (l : Launch) (M : MI) (d mc ms : Nat) (as : List Value) (Γ : Sh) (iv : IV) (rv : RV) (lv : LV) (Q : Qt) : Prop :=
  GoodG g → Met l M.1 (Cond.code M.1 M.2.1 M.2.2.1 M.2.2.2 :: gtb) (rmA d mc ms) (PcA g as Γ iv rv lv) (QcA g Q) mc ms (oldA g)
def ent : List Value → Nat → List Value
  | [], n => List.replicate n (.retAddr 0)
  | v :: vs, n => if v.category = 2 then v :: .retAddr 0 :: ent vs (n - 2) else v :: ent vs (n - 1)
theorem ent_args {g : GS} : ∀ (as : List Value) (n i j : Nat) (v : Value), (ent as n)[j]? = some v → isD v = false → (i + j, cv g v) ∈ lv_args i (as.map (cv g)) := by
  intro as
  induction as with
  | nil =>
    intro n i j v h hd
    unfold ent at h
    rw [List.getElem?_replicate] at h
    split at h
    · cases h; cases hd
    · cases h
  | cons a as ih =>
    intro n i j v h hd
    unfold ent at h
    rw [List.map_cons, lv_args, cv_cat]
    split at h
    · rename_i hc
      match j, h with
      | 0, h => simp at h; subst h; exact List.mem_cons_self
      | 1, h => simp at h; subst h; cases hd
      | j + 2, h =>
        have := ih (n - 2) (i + 2) j v (by simpa using h) hd
        refine List.mem_cons_of_mem _ ?_
        rw [if_pos hc, show i + (j + 2) = i + 2 + j by omega]
        exact this
    · rename_i hc
      match j, h with
      | 0, h => simp at h; subst h; exact List.mem_cons_self
      | j + 1, h =>
        have := ih (n - 1) (i + 1) j v (by simpa using h) hd
        refine List.mem_cons_of_mem _ ?_
        rw [if_neg hc, show i + (j + 1) = i + 1 + j by omega]
        exact this
theorem lg_sl_len {g : GS} : ∀ (as : List Value), (lg_sl (as.map (cv g))).length = (lg_sl as).length := by
  intro as
  induction as with
  | nil => rfl
  | cons a as ih =>
    unfold lg_sl at ih ⊢
    rw [List.map_cons, List.flatMap_cons, List.flatMap_cons, List.length_append, List.length_append, ih, cv_cat]
    split <;> rfl
theorem Ct.of {g : GS} {l : Launch} {M : MI} {d mc ms : Nat} {as : List Value} {Γ : Sh} {iv : IV} {rv : RV} {lv : LV} {Q : Qt} (hy : plainName M.1.cls = true) (hlen : (lg_sl as).length ≤ M.2.2.1) (hent : (ent as M.2.2.1).length ≤ M.2.2.1)
    (h : Rn g l M (rmA d mc ms) Q 0 0 0 (ent as M.2.2.1) [] Γ iv rv lv) : Ct g l M d mc ms as Γ iv rv lv Q := by
  intro hG
  refine Met.ofW (cc := M.2.1) (maxL := M.2.2.1) (ret := M.2.2.2) hy rfl ?_
  intro p e s m args below meth c s₁ B hml hv
  obtain ⟨rfl, hw, hrep⟩ := hv
  have hts := atoms_spec (ws := Cond.code M.1 M.2.1 M.2.2.1 M.2.2.2 :: gtb) B.pre
  have hl := lv_entry (as.map (cv g)) (n := M.2.2.1) (by rw [lg_sl_len]; exact hlen)
  rw [lg_entry_eq]
  refine h p e s m _ below meth c s.heap [] _ hG ⟨B.exec, B.bytes, B.returns, hml, findClass_of_methodNamed B.named, (name_of_methodNamed B.named B.method).1, fun w hw => hts w (List.mem_cons_of_mem _ hw), B.notSynchronized, hw⟩ hrep (fun _ h => by cases h) ⟨hl.1, hl.2.1, hent, fun i v hi hd => ?_⟩
  have := hl.2.2 (0 + i, cv g v) (ent_args as _ 0 i v hi hd)
  simpa using this
theorem Ct.mono {g : GS} {l : Launch} {M : MI} {d mc ms : Nat} {as : List Value} {Γ : Sh} {iv : IV} {rv : RV} {lv : LV} {Q Q' : Qt} (h : Ct g l M d mc ms as Γ iv rv lv Q) (hq : ∀ r Γ iv rv lv, Q r Γ iv rv lv → Q' r Γ iv rv lv) : Ct g l M d mc ms as Γ iv rv lv Q' := by
  intro hG p e ha hc hk s m args below hf hpre hP hK
  obtain ⟨t, o, h1, h2, h3, ⟨r, Γ', iv', rv', lv', e1, e2, e3⟩, h4⟩ := h hG p e ha hc hk s m args below hf hpre hP hK
  exact ⟨t, o, h1, h2, h3, ⟨r, Γ', iv', rv', lv', e1, hq _ _ _ _ _ e2, e3⟩, h4⟩
end
