section
-- ===== PART A: goes FIRST, ahead of the names: the tables' words, and 'selects' of the private methods out of them =====
/-- a private method of a class that the tables say can be made, by its rows of tables_1 -/
def lw_okq (q : MethodName × Nat) : Prop := (q.1.cls ≠ "java/lang/invoke/MethodHandle" ∧ q.1.cls ≠ "java/lang/invoke/VarHandle") ∧ Cond.instantiable q.1.cls q.2 ∈ tables_1 ∧ Cond.privateMethod q.1 ∈ tables_1 ∧ Cond.instanceMethod q.1 ∈ tables_1
theorem lw_p0 : lw_okq (⟨"TillTheyMeet$Reader", "advance", "()V"⟩, 10) := ⟨⟨by decide +kernel, by decide +kernel⟩, List.mem_of_getElem? (i := 44) (by decide +kernel), List.mem_of_getElem? (i := 145) (by decide +kernel), List.mem_of_getElem? (i := 146) (by decide +kernel)⟩
theorem lw_p1 : lw_okq (⟨"TillTheyMeet$Reader", "readNumber", "()V"⟩, 10) := ⟨⟨by decide +kernel, by decide +kernel⟩, List.mem_of_getElem? (i := 44) (by decide +kernel), List.mem_of_getElem? (i := 155) (by decide +kernel), List.mem_of_getElem? (i := 156) (by decide +kernel)⟩
theorem lw_p2 : lw_okq (⟨"TillTheyMeet$Reader", "readWord", "()V"⟩, 10) := ⟨⟨by decide +kernel, by decide +kernel⟩, List.mem_of_getElem? (i := 44) (by decide +kernel), List.mem_of_getElem? (i := 162) (by decide +kernel), List.mem_of_getElem? (i := 163) (by decide +kernel)⟩
theorem lw_p3 : lw_okq (⟨"TillTheyMeet$Reader", "spells", "(I)Z"⟩, 10) := ⟨⟨by decide +kernel, by decide +kernel⟩, List.mem_of_getElem? (i := 44) (by decide +kernel), List.mem_of_getElem? (i := 166) (by decide +kernel), List.mem_of_getElem? (i := 167) (by decide +kernel)⟩
theorem lw_p4 : lw_okq (⟨"TillTheyMeet$Reader", "readSign", "(I)V"⟩, 10) := ⟨⟨by decide +kernel, by decide +kernel⟩, List.mem_of_getElem? (i := 44) (by decide +kernel), List.mem_of_getElem? (i := 172) (by decide +kernel), List.mem_of_getElem? (i := 173) (by decide +kernel)⟩
theorem lw_p5 : lw_okq (⟨"TillTheyMeet$Reader", "expect", "(I)V"⟩, 10) := ⟨⟨by decide +kernel, by decide +kernel⟩, List.mem_of_getElem? (i := 44) (by decide +kernel), List.mem_of_getElem? (i := 236) (by decide +kernel), List.mem_of_getElem? (i := 237) (by decide +kernel)⟩
theorem lw_p6 : lw_okq (⟨"TillTheyMeet$Reader", "refuse", "()V"⟩, 10) := ⟨⟨by decide +kernel, by decide +kernel⟩, List.mem_of_getElem? (i := 44) (by decide +kernel), List.mem_of_getElem? (i := 240) (by decide +kernel), List.mem_of_getElem? (i := 241) (by decide +kernel)⟩
theorem lw_p7 : lw_okq (⟨"TillTheyMeet$Reader", "readLevel", "(II)V"⟩, 10) := ⟨⟨by decide +kernel, by decide +kernel⟩, List.mem_of_getElem? (i := 44) (by decide +kernel), List.mem_of_getElem? (i := 244) (by decide +kernel), List.mem_of_getElem? (i := 245) (by decide +kernel)⟩
theorem lw_p8 : lw_okq (⟨"TillTheyMeet$Reader", "readOne", "(I)V"⟩, 10) := ⟨⟨by decide +kernel, by decide +kernel⟩, List.mem_of_getElem? (i := 44) (by decide +kernel), List.mem_of_getElem? (i := 248) (by decide +kernel), List.mem_of_getElem? (i := 249) (by decide +kernel)⟩
theorem lw_p9 : lw_okq (⟨"TillTheyMeet$Reader", "put", "(I)V"⟩, 10) := ⟨⟨by decide +kernel, by decide +kernel⟩, List.mem_of_getElem? (i := 44) (by decide +kernel), List.mem_of_getElem? (i := 252) (by decide +kernel), List.mem_of_getElem? (i := 253) (by decide +kernel)⟩
theorem lw_p10 : lw_okq (⟨"TillTheyMeet$Reader", "opens", "(I)Z"⟩, 10) := ⟨⟨by decide +kernel, by decide +kernel⟩, List.mem_of_getElem? (i := 44) (by decide +kernel), List.mem_of_getElem? (i := 256) (by decide +kernel), List.mem_of_getElem? (i := 257) (by decide +kernel)⟩
theorem lw_p11 : lw_okq (⟨"TillTheyMeet$Reader", "stepAt", "(I)I"⟩, 10) := ⟨⟨by decide +kernel, by decide +kernel⟩, List.mem_of_getElem? (i := 44) (by decide +kernel), List.mem_of_getElem? (i := 260) (by decide +kernel), List.mem_of_getElem? (i := 261) (by decide +kernel)⟩
theorem lw_p12 : lw_okq (⟨"TillTheyMeet", "doesToday", "(LTillTheyMeet$Gang;)I"⟩, 10) := ⟨⟨by decide +kernel, by decide +kernel⟩, List.mem_of_getElem? (i := 18) (by decide +kernel), List.mem_of_getElem? (i := 520) (by decide +kernel), List.mem_of_getElem? (i := 521) (by decide +kernel)⟩
theorem lw_p13 : lw_okq (⟨"TillTheyMeet$Road", "takeTurn", "(LTillTheyMeet$Gang;)V"⟩, 10) := ⟨⟨by decide +kernel, by decide +kernel⟩, List.mem_of_getElem? (i := 310) (by decide +kernel), List.mem_of_getElem? (i := 569) (by decide +kernel), List.mem_of_getElem? (i := 570) (by decide +kernel)⟩
theorem lw_p14 : lw_okq (⟨"TillTheyMeet$Road", "askOfNext", "(ILTillTheyMeet$Gang;)I"⟩, 10) := ⟨⟨by decide +kernel, by decide +kernel⟩, List.mem_of_getElem? (i := 310) (by decide +kernel), List.mem_of_getElem? (i := 575) (by decide +kernel), List.mem_of_getElem? (i := 576) (by decide +kernel)⟩
theorem lw_p15 : lw_okq (⟨"TillTheyMeet", "seekMen", "(LTillTheyMeet$Road;I)I"⟩, 10) := ⟨⟨by decide +kernel, by decide +kernel⟩, List.mem_of_getElem? (i := 18) (by decide +kernel), List.mem_of_getElem? (i := 638) (by decide +kernel), List.mem_of_getElem? (i := 639) (by decide +kernel)⟩
def lw_privs_1 : List (MethodName × Nat) := [(⟨"TillTheyMeet$Reader", "advance", "()V"⟩, 10), (⟨"TillTheyMeet$Reader", "readNumber", "()V"⟩, 10), (⟨"TillTheyMeet$Reader", "readWord", "()V"⟩, 10), (⟨"TillTheyMeet$Reader", "spells", "(I)Z"⟩, 10), (⟨"TillTheyMeet$Reader", "readSign", "(I)V"⟩, 10), (⟨"TillTheyMeet$Reader", "expect", "(I)V"⟩, 10), (⟨"TillTheyMeet$Reader", "refuse", "()V"⟩, 10), (⟨"TillTheyMeet$Reader", "readLevel", "(II)V"⟩, 10), (⟨"TillTheyMeet$Reader", "readOne", "(I)V"⟩, 10), (⟨"TillTheyMeet$Reader", "put", "(I)V"⟩, 10), (⟨"TillTheyMeet$Reader", "opens", "(I)Z"⟩, 10), (⟨"TillTheyMeet$Reader", "stepAt", "(I)I"⟩, 10), (⟨"TillTheyMeet", "doesToday", "(LTillTheyMeet$Gang;)I"⟩, 10), (⟨"TillTheyMeet$Road", "takeTurn", "(LTillTheyMeet$Gang;)V"⟩, 10), (⟨"TillTheyMeet$Road", "askOfNext", "(ILTillTheyMeet$Gang;)I"⟩, 10), (⟨"TillTheyMeet", "seekMen", "(LTillTheyMeet$Road;I)I"⟩, 10)]
theorem lw_r1 : ∀ q ∈ lw_privs_1, lw_okq q := List.forall_mem_cons.mpr ⟨lw_p0, List.forall_mem_cons.mpr ⟨lw_p1, List.forall_mem_cons.mpr ⟨lw_p2, List.forall_mem_cons.mpr ⟨lw_p3, List.forall_mem_cons.mpr ⟨lw_p4, List.forall_mem_cons.mpr ⟨lw_p5, List.forall_mem_cons.mpr ⟨lw_p6, List.forall_mem_cons.mpr ⟨lw_p7, List.forall_mem_cons.mpr ⟨lw_p8, List.forall_mem_cons.mpr ⟨lw_p9, List.forall_mem_cons.mpr ⟨lw_p10, List.forall_mem_cons.mpr ⟨lw_p11, List.forall_mem_cons.mpr ⟨lw_p12, List.forall_mem_cons.mpr ⟨lw_p13, List.forall_mem_cons.mpr ⟨lw_p14, List.forall_mem_cons.mpr ⟨lw_p15, fun _ h => absurd h List.not_mem_nil⟩⟩⟩⟩⟩⟩⟩⟩⟩⟩⟩⟩⟩⟩⟩⟩
theorem lw_p16 : lw_okq (⟨"TillTheyMeet", "sheetOf", "(I)LTillTheyMeet$Sheet;"⟩, 10) := ⟨⟨by decide +kernel, by decide +kernel⟩, List.mem_of_getElem? (i := 18) (by decide +kernel), List.mem_of_getElem? (i := 658) (by decide +kernel), List.mem_of_getElem? (i := 659) (by decide +kernel)⟩
theorem lw_p17 : lw_okq (⟨"TillTheyMeet", "goesAs", "(LTillTheyMeet$Sheet;I)Z"⟩, 10) := ⟨⟨by decide +kernel, by decide +kernel⟩, List.mem_of_getElem? (i := 18) (by decide +kernel), List.mem_of_getElem? (i := 666) (by decide +kernel), List.mem_of_getElem? (i := 667) (by decide +kernel)⟩
theorem lw_p18 : lw_okq (⟨"TillTheyMeetModel", "spell", "(IIIIIIIII)V"⟩, 55) := ⟨⟨by decide +kernel, by decide +kernel⟩, List.mem_of_getElem? (i := 760) (by decide +kernel), List.mem_of_getElem? (i := 766) (by decide +kernel), List.mem_of_getElem? (i := 767) (by decide +kernel)⟩
theorem lw_p19 : lw_okq (⟨"TillTheyMeetModel", "whose", "(I)I"⟩, 55) := ⟨⟨by decide +kernel, by decide +kernel⟩, List.mem_of_getElem? (i := 760) (by decide +kernel), List.mem_of_getElem? (i := 947) (by decide +kernel), List.mem_of_getElem? (i := 948) (by decide +kernel)⟩
theorem lw_p20 : lw_okq (⟨"TillTheyMeetModel", "needs", "(II)I"⟩, 55) := ⟨⟨by decide +kernel, by decide +kernel⟩, List.mem_of_getElem? (i := 760) (by decide +kernel), List.mem_of_getElem? (i := 955) (by decide +kernel), List.mem_of_getElem? (i := 956) (by decide +kernel)⟩
theorem lw_p21 : lw_okq (⟨"TillTheyMeetModel", "says", "(III)I"⟩, 55) := ⟨⟨by decide +kernel, by decide +kernel⟩, List.mem_of_getElem? (i := 760) (by decide +kernel), List.mem_of_getElem? (i := 959) (by decide +kernel), List.mem_of_getElem? (i := 960) (by decide +kernel)⟩
theorem lw_p22 : lw_okq (⟨"TillTheyMeetModel", "left", "()I"⟩, 55) := ⟨⟨by decide +kernel, by decide +kernel⟩, List.mem_of_getElem? (i := 760) (by decide +kernel), List.mem_of_getElem? (i := 963) (by decide +kernel), List.mem_of_getElem? (i := 964) (by decide +kernel)⟩
theorem lw_p23 : lw_okq (⟨"TillTheyMeetModel", "read", "(II)I"⟩, 55) := ⟨⟨by decide +kernel, by decide +kernel⟩, List.mem_of_getElem? (i := 760) (by decide +kernel), List.mem_of_getElem? (i := 967) (by decide +kernel), List.mem_of_getElem? (i := 968) (by decide +kernel)⟩
theorem lw_p24 : lw_okq (⟨"TillTheyMeetModel", "next", "()V"⟩, 55) := ⟨⟨by decide +kernel, by decide +kernel⟩, List.mem_of_getElem? (i := 760) (by decide +kernel), List.mem_of_getElem? (i := 971) (by decide +kernel), List.mem_of_getElem? (i := 972) (by decide +kernel)⟩
theorem lw_p25 : lw_okq (⟨"TillTheyMeetModel", "byteAt", "(I)I"⟩, 55) := ⟨⟨by decide +kernel, by decide +kernel⟩, List.mem_of_getElem? (i := 760) (by decide +kernel), List.mem_of_getElem? (i := 975) (by decide +kernel), List.mem_of_getElem? (i := 976) (by decide +kernel)⟩
theorem lw_p26 : lw_okq (⟨"TillTheyMeetModel", "isWord", "(IIIIIIII)Z"⟩, 55) := ⟨⟨by decide +kernel, by decide +kernel⟩, List.mem_of_getElem? (i := 760) (by decide +kernel), List.mem_of_getElem? (i := 984) (by decide +kernel), List.mem_of_getElem? (i := 985) (by decide +kernel)⟩
theorem lw_p27 : lw_okq (⟨"TillTheyMeetModel", "isLetter", "(II)Z"⟩, 55) := ⟨⟨by decide +kernel, by decide +kernel⟩, List.mem_of_getElem? (i := 760) (by decide +kernel), List.mem_of_getElem? (i := 988) (by decide +kernel), List.mem_of_getElem? (i := 989) (by decide +kernel)⟩
theorem lw_p28 : lw_okq (⟨"TillTheyMeetModel", "part", "(Z)I"⟩, 55) := ⟨⟨by decide +kernel, by decide +kernel⟩, List.mem_of_getElem? (i := 760) (by decide +kernel), List.mem_of_getElem? (i := 992) (by decide +kernel), List.mem_of_getElem? (i := 993) (by decide +kernel)⟩
theorem lw_p29 : lw_okq (⟨"TillTheyMeetModel", "fail", "()V"⟩, 55) := ⟨⟨by decide +kernel, by decide +kernel⟩, List.mem_of_getElem? (i := 760) (by decide +kernel), List.mem_of_getElem? (i := 996) (by decide +kernel), List.mem_of_getElem? (i := 997) (by decide +kernel)⟩
theorem lw_p30 : lw_okq (⟨"TillTheyMeetModel", "either", "()I"⟩, 55) := ⟨⟨by decide +kernel, by decide +kernel⟩, List.mem_of_getElem? (i := 760) (by decide +kernel), List.mem_of_getElem? (i := 1000) (by decide +kernel), List.mem_of_getElem? (i := 1001) (by decide +kernel)⟩
theorem lw_p31 : lw_okq (⟨"TillTheyMeetModel", "both", "()I"⟩, 55) := ⟨⟨by decide +kernel, by decide +kernel⟩, List.mem_of_getElem? (i := 760) (by decide +kernel), List.mem_of_getElem? (i := 1004) (by decide +kernel), List.mem_of_getElem? (i := 1005) (by decide +kernel)⟩
def lw_privs_2 : List (MethodName × Nat) := [(⟨"TillTheyMeet", "sheetOf", "(I)LTillTheyMeet$Sheet;"⟩, 10), (⟨"TillTheyMeet", "goesAs", "(LTillTheyMeet$Sheet;I)Z"⟩, 10), (⟨"TillTheyMeetModel", "spell", "(IIIIIIIII)V"⟩, 55), (⟨"TillTheyMeetModel", "whose", "(I)I"⟩, 55), (⟨"TillTheyMeetModel", "needs", "(II)I"⟩, 55), (⟨"TillTheyMeetModel", "says", "(III)I"⟩, 55), (⟨"TillTheyMeetModel", "left", "()I"⟩, 55), (⟨"TillTheyMeetModel", "read", "(II)I"⟩, 55), (⟨"TillTheyMeetModel", "next", "()V"⟩, 55), (⟨"TillTheyMeetModel", "byteAt", "(I)I"⟩, 55), (⟨"TillTheyMeetModel", "isWord", "(IIIIIIII)Z"⟩, 55), (⟨"TillTheyMeetModel", "isLetter", "(II)Z"⟩, 55), (⟨"TillTheyMeetModel", "part", "(Z)I"⟩, 55), (⟨"TillTheyMeetModel", "fail", "()V"⟩, 55), (⟨"TillTheyMeetModel", "either", "()I"⟩, 55), (⟨"TillTheyMeetModel", "both", "()I"⟩, 55)]
theorem lw_r2 : ∀ q ∈ lw_privs_2, lw_okq q := List.forall_mem_cons.mpr ⟨lw_p16, List.forall_mem_cons.mpr ⟨lw_p17, List.forall_mem_cons.mpr ⟨lw_p18, List.forall_mem_cons.mpr ⟨lw_p19, List.forall_mem_cons.mpr ⟨lw_p20, List.forall_mem_cons.mpr ⟨lw_p21, List.forall_mem_cons.mpr ⟨lw_p22, List.forall_mem_cons.mpr ⟨lw_p23, List.forall_mem_cons.mpr ⟨lw_p24, List.forall_mem_cons.mpr ⟨lw_p25, List.forall_mem_cons.mpr ⟨lw_p26, List.forall_mem_cons.mpr ⟨lw_p27, List.forall_mem_cons.mpr ⟨lw_p28, List.forall_mem_cons.mpr ⟨lw_p29, List.forall_mem_cons.mpr ⟨lw_p30, List.forall_mem_cons.mpr ⟨lw_p31, fun _ h => absurd h List.not_mem_nil⟩⟩⟩⟩⟩⟩⟩⟩⟩⟩⟩⟩⟩⟩⟩⟩
theorem lw_p32 : lw_okq (⟨"TillTheyMeetModel", "not", "()I"⟩, 55) := ⟨⟨by decide +kernel, by decide +kernel⟩, List.mem_of_getElem? (i := 760) (by decide +kernel), List.mem_of_getElem? (i := 1008) (by decide +kernel), List.mem_of_getElem? (i := 1009) (by decide +kernel)⟩
theorem lw_p33 : lw_okq (⟨"TillTheyMeetModel", "opens", "()Z"⟩, 55) := ⟨⟨by decide +kernel, by decide +kernel⟩, List.mem_of_getElem? (i := 760) (by decide +kernel), List.mem_of_getElem? (i := 1012) (by decide +kernel), List.mem_of_getElem? (i := 1013) (by decide +kernel)⟩
theorem lw_p34 : lw_okq (⟨"TillTheyMeetModel", "added", "()I"⟩, 55) := ⟨⟨by decide +kernel, by decide +kernel⟩, List.mem_of_getElem? (i := 760) (by decide +kernel), List.mem_of_getElem? (i := 1016) (by decide +kernel), List.mem_of_getElem? (i := 1017) (by decide +kernel)⟩
theorem lw_p35 : lw_okq (⟨"TillTheyMeetModel", "term", "()I"⟩, 55) := ⟨⟨by decide +kernel, by decide +kernel⟩, List.mem_of_getElem? (i := 760) (by decide +kernel), List.mem_of_getElem? (i := 1020) (by decide +kernel), List.mem_of_getElem? (i := 1021) (by decide +kernel)⟩
theorem lw_p36 : lw_okq (⟨"TillTheyMeetModel", "atom", "()I"⟩, 55) := ⟨⟨by decide +kernel, by decide +kernel⟩, List.mem_of_getElem? (i := 760) (by decide +kernel), List.mem_of_getElem? (i := 1024) (by decide +kernel), List.mem_of_getElem? (i := 1025) (by decide +kernel)⟩
theorem lw_p37 : lw_okq (⟨"TillTheyMeetModel", "isSign", "(I)Z"⟩, 55) := ⟨⟨by decide +kernel, by decide +kernel⟩, List.mem_of_getElem? (i := 760) (by decide +kernel), List.mem_of_getElem? (i := 1028) (by decide +kernel), List.mem_of_getElem? (i := 1029) (by decide +kernel)⟩
theorem lw_p38 : lw_okq (⟨"TillTheyMeetModel", "name", "()I"⟩, 55) := ⟨⟨by decide +kernel, by decide +kernel⟩, List.mem_of_getElem? (i := 760) (by decide +kernel), List.mem_of_getElem? (i := 1032) (by decide +kernel), List.mem_of_getElem? (i := 1033) (by decide +kernel)⟩
theorem lw_p39 : lw_okq (⟨"TillTheyMeetModel", "costs", "(I)I"⟩, 55) := ⟨⟨by decide +kernel, by decide +kernel⟩, List.mem_of_getElem? (i := 760) (by decide +kernel), List.mem_of_getElem? (i := 1063) (by decide +kernel), List.mem_of_getElem? (i := 1064) (by decide +kernel)⟩
theorem lw_p40 : lw_okq (⟨"TillTheyMeetModel", "does", "(I)I"⟩, 55) := ⟨⟨by decide +kernel, by decide +kernel⟩, List.mem_of_getElem? (i := 760) (by decide +kernel), List.mem_of_getElem? (i := 1067) (by decide +kernel), List.mem_of_getElem? (i := 1068) (by decide +kernel)⟩
theorem lw_p41 : lw_okq (⟨"TillTheyMeetModel", "nextOf", "(I)I"⟩, 55) := ⟨⟨by decide +kernel, by decide +kernel⟩, List.mem_of_getElem? (i := 760) (by decide +kernel), List.mem_of_getElem? (i := 1071) (by decide +kernel), List.mem_of_getElem? (i := 1072) (by decide +kernel)⟩
theorem lw_p42 : lw_okq (⟨"TillTheyMeetModel", "passes", "(I)V"⟩, 55) := ⟨⟨by decide +kernel, by decide +kernel⟩, List.mem_of_getElem? (i := 760) (by decide +kernel), List.mem_of_getElem? (i := 1092) (by decide +kernel), List.mem_of_getElem? (i := 1093) (by decide +kernel)⟩
theorem lw_p43 : lw_okq (⟨"TillTheyMeetModel", "turn", "(I)V"⟩, 55) := ⟨⟨by decide +kernel, by decide +kernel⟩, List.mem_of_getElem? (i := 760) (by decide +kernel), List.mem_of_getElem? (i := 1096) (by decide +kernel), List.mem_of_getElem? (i := 1097) (by decide +kernel)⟩
theorem lw_p44 : lw_okq (⟨"TillTheyMeetModel", "worthAll", "()I"⟩, 55) := ⟨⟨by decide +kernel, by decide +kernel⟩, List.mem_of_getElem? (i := 760) (by decide +kernel), List.mem_of_getElem? (i := 1105) (by decide +kernel), List.mem_of_getElem? (i := 1106) (by decide +kernel)⟩
theorem lw_p45 : lw_okq (⟨"TillTheyMeetModel", "laysAside", "()V"⟩, 55) := ⟨⟨by decide +kernel, by decide +kernel⟩, List.mem_of_getElem? (i := 760) (by decide +kernel), List.mem_of_getElem? (i := 1109) (by decide +kernel), List.mem_of_getElem? (i := 1110) (by decide +kernel)⟩
theorem lw_p46 : lw_okq (⟨"TillTheyMeetModel", "runs", "(II)V"⟩, 55) := ⟨⟨by decide +kernel, by decide +kernel⟩, List.mem_of_getElem? (i := 760) (by decide +kernel), List.mem_of_getElem? (i := 1113) (by decide +kernel), List.mem_of_getElem? (i := 1114) (by decide +kernel)⟩
theorem lw_p47 : lw_okq (⟨"TillTheyMeetModel", "gain", "(I)I"⟩, 55) := ⟨⟨by decide +kernel, by decide +kernel⟩, List.mem_of_getElem? (i := 760) (by decide +kernel), List.mem_of_getElem? (i := 1117) (by decide +kernel), List.mem_of_getElem? (i := 1118) (by decide +kernel)⟩
def lw_privs_3 : List (MethodName × Nat) := [(⟨"TillTheyMeetModel", "not", "()I"⟩, 55), (⟨"TillTheyMeetModel", "opens", "()Z"⟩, 55), (⟨"TillTheyMeetModel", "added", "()I"⟩, 55), (⟨"TillTheyMeetModel", "term", "()I"⟩, 55), (⟨"TillTheyMeetModel", "atom", "()I"⟩, 55), (⟨"TillTheyMeetModel", "isSign", "(I)Z"⟩, 55), (⟨"TillTheyMeetModel", "name", "()I"⟩, 55), (⟨"TillTheyMeetModel", "costs", "(I)I"⟩, 55), (⟨"TillTheyMeetModel", "does", "(I)I"⟩, 55), (⟨"TillTheyMeetModel", "nextOf", "(I)I"⟩, 55), (⟨"TillTheyMeetModel", "passes", "(I)V"⟩, 55), (⟨"TillTheyMeetModel", "turn", "(I)V"⟩, 55), (⟨"TillTheyMeetModel", "worthAll", "()I"⟩, 55), (⟨"TillTheyMeetModel", "laysAside", "()V"⟩, 55), (⟨"TillTheyMeetModel", "runs", "(II)V"⟩, 55), (⟨"TillTheyMeetModel", "gain", "(I)I"⟩, 55)]
theorem lw_r3 : ∀ q ∈ lw_privs_3, lw_okq q := List.forall_mem_cons.mpr ⟨lw_p32, List.forall_mem_cons.mpr ⟨lw_p33, List.forall_mem_cons.mpr ⟨lw_p34, List.forall_mem_cons.mpr ⟨lw_p35, List.forall_mem_cons.mpr ⟨lw_p36, List.forall_mem_cons.mpr ⟨lw_p37, List.forall_mem_cons.mpr ⟨lw_p38, List.forall_mem_cons.mpr ⟨lw_p39, List.forall_mem_cons.mpr ⟨lw_p40, List.forall_mem_cons.mpr ⟨lw_p41, List.forall_mem_cons.mpr ⟨lw_p42, List.forall_mem_cons.mpr ⟨lw_p43, List.forall_mem_cons.mpr ⟨lw_p44, List.forall_mem_cons.mpr ⟨lw_p45, List.forall_mem_cons.mpr ⟨lw_p46, List.forall_mem_cons.mpr ⟨lw_p47, fun _ h => absurd h List.not_mem_nil⟩⟩⟩⟩⟩⟩⟩⟩⟩⟩⟩⟩⟩⟩⟩⟩
theorem lw_p48 : lw_okq (⟨"TillTheyMeetModel", "laysBack", "()V"⟩, 55) := ⟨⟨by decide +kernel, by decide +kernel⟩, List.mem_of_getElem? (i := 760) (by decide +kernel), List.mem_of_getElem? (i := 1121) (by decide +kernel), List.mem_of_getElem? (i := 1122) (by decide +kernel)⟩
theorem lw_p49 : lw_okq (⟨"TillTheyMeetModel", "bestMen", "(I)I"⟩, 55) := ⟨⟨by decide +kernel, by decide +kernel⟩, List.mem_of_getElem? (i := 760) (by decide +kernel), List.mem_of_getElem? (i := 1138) (by decide +kernel), List.mem_of_getElem? (i := 1139) (by decide +kernel)⟩
theorem lw_p50 : lw_okq (⟨"TillTheyMeetModel", "gainBy", "(II)I"⟩, 55) := ⟨⟨by decide +kernel, by decide +kernel⟩, List.mem_of_getElem? (i := 760) (by decide +kernel), List.mem_of_getElem? (i := 1142) (by decide +kernel), List.mem_of_getElem? (i := 1143) (by decide +kernel)⟩
def lw_privs_4 : List (MethodName × Nat) := [(⟨"TillTheyMeetModel", "laysBack", "()V"⟩, 55), (⟨"TillTheyMeetModel", "bestMen", "(I)I"⟩, 55), (⟨"TillTheyMeetModel", "gainBy", "(II)I"⟩, 55)]
theorem lw_r4 : ∀ q ∈ lw_privs_4, lw_okq q := List.forall_mem_cons.mpr ⟨lw_p48, List.forall_mem_cons.mpr ⟨lw_p49, List.forall_mem_cons.mpr ⟨lw_p50, fun _ h => absurd h List.not_mem_nil⟩⟩⟩
def lw_privs : List (MethodName × Nat) := lw_privs_1 ++ (lw_privs_2 ++ (lw_privs_3 ++ (lw_privs_4)))
def lw_tbl : List Cond := k2_sels lw_privs ++ tables_1
theorem lw_privs_ok : ∀ q ∈ lw_privs, lw_okq q := by
  show ∀ q ∈ lw_privs_1 ++ (lw_privs_2 ++ (lw_privs_3 ++ (lw_privs_4))), lw_okq q
  exact List.forall_mem_append.mpr ⟨lw_r1, List.forall_mem_append.mpr ⟨lw_r2, List.forall_mem_append.mpr ⟨lw_r3, lw_r4⟩⟩⟩
/-! the words that go along with every call -/
def gtb : List Cond := lw_tbl.filter goodWord
theorem gtb_in {w : Cond} (i : Nat) (h : lw_tbl[i]? = some w) (hg : goodWord w = true) : w ∈ gtb := List.mem_filter.mpr ⟨List.mem_of_getElem? h, hg⟩
theorem gtb_good : GoodIn gtb gtb := fun w h => ⟨h, good_of_word (List.mem_filter.mp h).2⟩
end
section
/-! NAMES: classes, their fields, methods (out of the claim's own tables, by program) -/
/-- a method: its name, bytes, locals, what it returns -/
abbrev MI : Type := MethodName × ByteArray × Nat × Option FieldType
def RX0 : String := "TillTheyMeet$Best"
def TX0 : u_T := fun k => match k with
  | 0 => ("TillTheyMeet$Best", "at", "I", false)
  | 1 => ("TillTheyMeet$Best", "worth", "I", false)
  | _ => ("TillTheyMeet$Best", "empty", "Z", false)
def tyX0 : Nat → FieldType := fun k => match k with
  | 0 => .int
  | 1 => .int
  | _ => .boolean
theorem nmX0 : ∀ a, a < 3 → ∀ b, b < 3 → a ≠ b → (TX0 a).2.1 ≠ (TX0 b).2.1 := by decide +kernel
theorem tyX0_ok : ∀ k, k < 3 → parseFieldDescriptor (TX0 k).2.2.1 = some (tyX0 k) := by decide +kernel
abbrev cX0_init : ByteArray := prog_2_method_1_code
def yX0_init : MethodName := ⟨RX0, "<init>", "()V"⟩
abbrev cX0_clear : ByteArray := prog_2_method_2_code
def yX0_clear : MethodName := ⟨RX0, "clear", "()V"⟩
abbrev cX0_offer : ByteArray := prog_2_method_3_code
def yX0_offer : MethodName := ⟨RX0, "offer", "(II)V"⟩
def RX1 : String := "TillTheyMeet$Gang"
def TX1 : u_T := fun k => match k with
  | 0 => ("TillTheyMeet$Gang", "goesUp", "Z", true)
  | 1 => ("TillTheyMeet$Gang", "kind", "I", false)
  | 2 => ("TillTheyMeet$Gang", "number", "I", false)
  | 3 => ("TillTheyMeet$Gang", "men", "I", false)
  | 4 => ("TillTheyMeet$Gang", "done", "I", false)
  | 5 => ("TillTheyMeet$Gang", "work", "I", false)
  | 6 => ("TillTheyMeet$Gang", "earned", "I", false)
  | 7 => ("TillTheyMeet$Gang", "spent", "I", false)
  | 8 => ("TillTheyMeet$Gang", "askedAt", "[I", true)
  | _ => ("TillTheyMeet$Gang", "answered", "[I", true)
def tyX1 : Nat → FieldType := fun k => match k with
  | 0 => .boolean
  | 1 => .int
  | 2 => .int
  | 3 => .int
  | 4 => .int
  | 5 => .int
  | 6 => .int
  | 7 => .int
  | 8 => .array .int
  | _ => .array .int
theorem nmX1 : ∀ a, a < 10 → ∀ b, b < 10 → a ≠ b → (TX1 a).2.1 ≠ (TX1 b).2.1 := by decide +kernel
theorem tyX1_ok : ∀ k, k < 10 → parseFieldDescriptor (TX1 k).2.2.1 = some (tyX1 k) := by decide +kernel
abbrev cX1_init : ByteArray := prog_3_method_1_code
def yX1_init : MethodName := ⟨RX1, "<init>", "(Z)V"⟩
abbrev cX1_nextYard : ByteArray := prog_3_method_2_code
def yX1_nextYard : MethodName := ⟨RX1, "nextYard", "()I"⟩
abbrev cX1_gain : ByteArray := prog_3_method_3_code
def yX1_gain : MethodName := ⟨RX1, "gain", "()I"⟩
abbrev cX1_does : ByteArray := prog_3_method_4_code
def yX1_does : MethodName := ⟨RX1, "does", "(III)I"⟩
abbrev cX1_costs : ByteArray := prog_3_method_5_code
def yX1_costs : MethodName := ⟨RX1, "costs", "()I"⟩
abbrev cX1_isUnder : ByteArray := prog_3_method_6_code
def yX1_isUnder : MethodName := ⟨RX1, "isUnder", "(I)Z"⟩
abbrev cX1_copyKept : ByteArray := prog_3_method_7_code
def yX1_copyKept : MethodName := ⟨RX1, "copyKept", "(LTillTheyMeet$Gang;)V"⟩
abbrev cX1_forgetAnswers : ByteArray := prog_3_method_8_code
def yX1_forgetAnswers : MethodName := ⟨RX1, "forgetAnswers", "()V"⟩
def RX2 : String := "TillTheyMeet$Reader"
def TX2 : u_T := fun k => match k with
  | 0 => ("TillTheyMeet$Reader", "size", "I", false)
  | 1 => ("TillTheyMeet$Reader", "fault", "I", false)
  | 2 => ("TillTheyMeet$Reader", "tape", "[I", true)
  | 3 => ("TillTheyMeet$Reader", "place", "I", false)
  | 4 => ("TillTheyMeet$Reader", "token", "I", false)
  | 5 => ("TillTheyMeet$Reader", "tokenAt", "I", false)
  | 6 => ("TillTheyMeet$Reader", "value", "I", false)
  | 7 => ("TillTheyMeet$Reader", "steps", "[I", true)
  | 8 => ("TillTheyMeet$Reader", "stepCount", "I", false)
  | _ => ("TillTheyMeet$Reader", "bounds", "[I", true)
def tyX2 : Nat → FieldType := fun k => match k with
  | 0 => .int
  | 1 => .int
  | 2 => .array .int
  | 3 => .int
  | 4 => .int
  | 5 => .int
  | 6 => .int
  | 7 => .array .int
  | 8 => .int
  | _ => .array .int
theorem nmX2 : ∀ a, a < 10 → ∀ b, b < 10 → a ≠ b → (TX2 a).2.1 ≠ (TX2 b).2.1 := by decide +kernel
theorem tyX2_ok : ∀ k, k < 10 → parseFieldDescriptor (TX2 k).2.2.1 = some (tyX2 k) := by decide +kernel
abbrev cX2_init : ByteArray := prog_4_method_1_code
def yX2_init : MethodName := ⟨RX2, "<init>", "()V"⟩
abbrev cX2_append : ByteArray := prog_4_method_2_code
def yX2_append : MethodName := ⟨RX2, "append", "(I)Z"⟩
abbrev cX2_ruleOf : ByteArray := prog_4_method_3_code
def yX2_ruleOf : MethodName := ⟨RX2, "ruleOf", "(I)LTillTheyMeet$Rule;"⟩
abbrev cX2_readText : ByteArray := prog_4_method_4_code
def yX2_readText : MethodName := ⟨RX2, "readText", "()V"⟩
abbrev cX2_refuse : ByteArray := prog_4_method_5_code
def yX2_refuse : MethodName := ⟨RX2, "refuse", "()V"⟩
abbrev cX2_expect : ByteArray := prog_4_method_6_code
def yX2_expect : MethodName := ⟨RX2, "expect", "(I)V"⟩
abbrev cX2_put : ByteArray := prog_4_method_7_code
def yX2_put : MethodName := ⟨RX2, "put", "(I)V"⟩
abbrev cX2_readLevel : ByteArray := prog_4_method_8_code
def yX2_readLevel : MethodName := ⟨RX2, "readLevel", "(II)V"⟩
abbrev cX2_readOne : ByteArray := prog_4_method_9_code
def yX2_readOne : MethodName := ⟨RX2, "readOne", "(I)V"⟩
abbrev cX2_opens : ByteArray := prog_4_method_10_code
def yX2_opens : MethodName := ⟨RX2, "opens", "(I)Z"⟩
abbrev cX2_stepAt : ByteArray := prog_4_method_11_code
def yX2_stepAt : MethodName := ⟨RX2, "stepAt", "(I)I"⟩
abbrev cX2_advance : ByteArray := prog_4_method_12_code
def yX2_advance : MethodName := ⟨RX2, "advance", "()V"⟩
abbrev cX2_readNumber : ByteArray := prog_4_method_13_code
def yX2_readNumber : MethodName := ⟨RX2, "readNumber", "()V"⟩
abbrev cX2_readWord : ByteArray := prog_4_method_14_code
def yX2_readWord : MethodName := ⟨RX2, "readWord", "()V"⟩
abbrev cX2_spells : ByteArray := prog_4_method_15_code
def yX2_spells : MethodName := ⟨RX2, "spells", "(I)Z"⟩
abbrev cX2_readSign : ByteArray := prog_4_method_16_code
def yX2_readSign : MethodName := ⟨RX2, "readSign", "(I)V"⟩
abbrev cX2_isBlank : ByteArray := prog_4_method_17_code
def yX2_isBlank : MethodName := ⟨RX2, "isBlank", "(I)Z"⟩
abbrev cX2_isDigit : ByteArray := prog_4_method_18_code
def yX2_isDigit : MethodName := ⟨RX2, "isDigit", "(I)Z"⟩
abbrev cX2_isLetter : ByteArray := prog_4_method_19_code
def yX2_isLetter : MethodName := ⟨RX2, "isLetter", "(I)Z"⟩
def RX3 : String := "TillTheyMeet$Road"
def TX3 : u_T := fun k => match k with
  | 0 => ("TillTheyMeet$Road", "ground", "[I", true)
  | 1 => ("TillTheyMeet$Road", "known", "[I", true)
  | 2 => ("TillTheyMeet$Road", "upward", "LTillTheyMeet$Gang;", true)
  | 3 => ("TillTheyMeet$Road", "downward", "LTillTheyMeet$Gang;", true)
  | 4 => ("TillTheyMeet$Road", "day", "I", false)
  | 5 => ("TillTheyMeet$Road", "payYard", "I", false)
  | 6 => ("TillTheyMeet$Road", "payDay", "I", false)
  | 7 => ("TillTheyMeet$Road", "wage", "I", false)
  | 8 => ("TillTheyMeet$Road", "rule", "LTillTheyMeet$Rule;", false)
  | _ => ("TillTheyMeet$Road", "meant", "[I", true)
def tyX3 : Nat → FieldType := fun k => match k with
  | 0 => .array .int
  | 1 => .array .int
  | 2 => .object "TillTheyMeet$Gang"
  | 3 => .object "TillTheyMeet$Gang"
  | 4 => .int
  | 5 => .int
  | 6 => .int
  | 7 => .int
  | 8 => .object "TillTheyMeet$Rule"
  | _ => .array .int
theorem nmX3 : ∀ a, a < 10 → ∀ b, b < 10 → a ≠ b → (TX3 a).2.1 ≠ (TX3 b).2.1 := by decide +kernel
theorem tyX3_ok : ∀ k, k < 10 → parseFieldDescriptor (TX3 k).2.2.1 = some (tyX3 k) := by decide +kernel
abbrev cX3_init : ByteArray := prog_5_method_1_code
def yX3_init : MethodName := ⟨RX3, "<init>", "(LTillTheyMeet$Rule;)V"⟩
abbrev cX3_gangOf : ByteArray := prog_5_method_2_code
def yX3_gangOf : MethodName := ⟨RX3, "gangOf", "(I)LTillTheyMeet$Gang;"⟩
abbrev cX3_groundOf : ByteArray := prog_5_method_3_code
def yX3_groundOf : MethodName := ⟨RX3, "groundOf", "(I)I"⟩
abbrev cX3_ahead : ByteArray := prog_5_method_4_code
def yX3_ahead : MethodName := ⟨RX3, "ahead", "()I"⟩
abbrev cX3_doerOf : ByteArray := prog_5_method_5_code
def yX3_doerOf : MethodName := ⟨RX3, "doerOf", "(I)I"⟩
abbrev cX3_paid : ByteArray := prog_5_method_6_code
def yX3_paid : MethodName := ⟨RX3, "paid", "()I"⟩
abbrev cX3_worth : ByteArray := prog_5_method_7_code
def yX3_worth : MethodName := ⟨RX3, "worth", "()I"⟩
abbrev cX3_ask : ByteArray := prog_5_method_8_code
def yX3_ask : MethodName := ⟨RX3, "ask", "(III)I"⟩
abbrev cX3_askOfNext : ByteArray := prog_5_method_9_code
def yX3_askOfNext : MethodName := ⟨RX3, "askOfNext", "(ILTillTheyMeet$Gang;)I"⟩
abbrev cX3_forgetAnswers : ByteArray := prog_5_method_10_code
def yX3_forgetAnswers : MethodName := ⟨RX3, "forgetAnswers", "()V"⟩
abbrev cX3_takeTurn : ByteArray := prog_5_method_11_code
def yX3_takeTurn : MethodName := ⟨RX3, "takeTurn", "(LTillTheyMeet$Gang;)V"⟩
abbrev cX3_passDay : ByteArray := prog_5_method_12_code
def yX3_passDay : MethodName := ⟨RX3, "passDay", "(I)V"⟩
abbrev cX3_runOut : ByteArray := prog_5_method_13_code
def yX3_runOut : MethodName := ⟨RX3, "runOut", "(II)I"⟩
abbrev cX3_copyKept : ByteArray := prog_5_method_14_code
def yX3_copyKept : MethodName := ⟨RX3, "copyKept", "(LTillTheyMeet$Road;)V"⟩
abbrev cX3_copyAll : ByteArray := prog_5_method_15_code
def yX3_copyAll : MethodName := ⟨RX3, "copyAll", "(LTillTheyMeet$Road;)V"⟩
def RX4 : String := "TillTheyMeet$Rule"
def TX4 : u_T := fun k => match k with
  | 0 => ("TillTheyMeet$Rule", "number", "I", true)
  | 1 => ("TillTheyMeet$Rule", "speaksOfDay", "[Z", true)
  | 2 => ("TillTheyMeet$Rule", "steps", "[I", true)
  | 3 => ("TillTheyMeet$Rule", "bounds", "[I", true)
  | _ => ("TillTheyMeet$Rule", "pile", "[I", true)
def tyX4 : Nat → FieldType := fun k => match k with
  | 0 => .int
  | 1 => .array .boolean
  | 2 => .array .int
  | 3 => .array .int
  | _ => .array .int
theorem nmX4 : ∀ a, a < 5 → ∀ b, b < 5 → a ≠ b → (TX4 a).2.1 ≠ (TX4 b).2.1 := by decide +kernel
theorem tyX4_ok : ∀ k, k < 5 → parseFieldDescriptor (TX4 k).2.2.1 = some (tyX4 k) := by decide +kernel
abbrev cX4_init : ByteArray := prog_6_method_1_code
def yX4_init : MethodName := ⟨RX4, "<init>", "(I[I[I)V"⟩
abbrev cX4_valueOf : ByteArray := prog_6_method_2_code
def yX4_valueOf : MethodName := ⟨RX4, "valueOf", "(I[I)I"⟩
def RX5 : String := "TillTheyMeet$Sheet"
def TX5 : u_T := fun k => match k with
  | 0 => ("TillTheyMeet$Sheet", "items", "[I", true)
  | 1 => ("TillTheyMeet$Sheet", "sort", "I", false)
  | _ => ("TillTheyMeet$Sheet", "size", "I", false)
def tyX5 : Nat → FieldType := fun k => match k with
  | 0 => .array .int
  | 1 => .int
  | _ => .int
theorem nmX5 : ∀ a, a < 3 → ∀ b, b < 3 → a ≠ b → (TX5 a).2.1 ≠ (TX5 b).2.1 := by decide +kernel
theorem tyX5_ok : ∀ k, k < 3 → parseFieldDescriptor (TX5 k).2.2.1 = some (tyX5 k) := by decide +kernel
abbrev cX5_init : ByteArray := prog_7_method_1_code
def yX5_init : MethodName := ⟨RX5, "<init>", "()V"⟩
abbrev cX5_isMissing : ByteArray := prog_7_method_2_code
def yX5_isMissing : MethodName := ⟨RX5, "isMissing", "()Z"⟩
abbrev cX5_become : ByteArray := prog_7_method_3_code
def yX5_become : MethodName := ⟨RX5, "become", "(II)V"⟩
abbrev cX5_has : ByteArray := prog_7_method_4_code
def yX5_has : MethodName := ⟨RX5, "has", "(I)Z"⟩
abbrev cX5_hasSpan : ByteArray := prog_7_method_5_code
def yX5_hasSpan : MethodName := ⟨RX5, "hasSpan", "(II)Z"⟩
abbrev cX5_cut : ByteArray := prog_7_method_6_code
def yX5_cut : MethodName := ⟨RX5, "cut", "(I)I"⟩
def RX6 : String := "TillTheyMeet"
def TX6 : u_T := fun k => match k with
  | 0 => ("TillTheyMeet", "now", "LTillTheyMeet$Road;", true)
  | 1 => ("TillTheyMeet", "kept", "LTillTheyMeet$Road;", true)
  | 2 => ("TillTheyMeet", "plan", "LTillTheyMeet$Road;", true)
  | 3 => ("TillTheyMeet", "trial", "LTillTheyMeet$Road;", true)
  | 4 => ("TillTheyMeet", "best", "LTillTheyMeet$Best;", true)
  | 5 => ("TillTheyMeet", "reader", "LTillTheyMeet$Reader;", true)
  | 6 => ("TillTheyMeet", "rules", "[LTillTheyMeet$Rule;", true)
  | 7 => ("TillTheyMeet", "sheets", "[LTillTheyMeet$Sheet;", true)
  | 8 => ("TillTheyMeet", "texts", "I", false)
  | _ => ("TillTheyMeet", "hasImage", "Z", false)
def tyX6 : Nat → FieldType := fun k => match k with
  | 0 => .object "TillTheyMeet$Road"
  | 1 => .object "TillTheyMeet$Road"
  | 2 => .object "TillTheyMeet$Road"
  | 3 => .object "TillTheyMeet$Road"
  | 4 => .object "TillTheyMeet$Best"
  | 5 => .object "TillTheyMeet$Reader"
  | 6 => .array (.object "TillTheyMeet$Rule")
  | 7 => .array (.object "TillTheyMeet$Sheet")
  | 8 => .int
  | _ => .boolean
theorem nmX6 : ∀ a, a < 10 → ∀ b, b < 10 → a ≠ b → (TX6 a).2.1 ≠ (TX6 b).2.1 := by decide +kernel
theorem tyX6_ok : ∀ k, k < 10 → parseFieldDescriptor (TX6 k).2.2.1 = some (tyX6 k) := by decide +kernel
abbrev cX6_init : ByteArray := prog_1_method_1_code
def yX6_init : MethodName := ⟨RX6, "<init>", "()V"⟩
abbrev cX6_ground : ByteArray := prog_1_method_2_code
def yX6_ground : MethodName := ⟨RX6, "ground", "(III)I"⟩
abbrev cX6_yard : ByteArray := prog_1_method_3_code
def yX6_yard : MethodName := ⟨RX6, "yard", "(II)I"⟩
abbrev cX6_gang : ByteArray := prog_1_method_4_code
def yX6_gang : MethodName := ⟨RX6, "gang", "(III)I"⟩
abbrev cX6_set : ByteArray := prog_1_method_5_code
def yX6_set : MethodName := ⟨RX6, "set", "(II)I"⟩
abbrev cX6_told : ByteArray := prog_1_method_6_code
def yX6_told : MethodName := ⟨RX6, "told", "(II)I"⟩
abbrev cX6_doesToday : ByteArray := prog_1_method_7_code
def yX6_doesToday : MethodName := ⟨RX6, "doesToday", "(LTillTheyMeet$Gang;)I"⟩
abbrev cX6_feed : ByteArray := prog_1_method_8_code
def yX6_feed : MethodName := ⟨RX6, "feed", "(I)I"⟩
abbrev cX6_text : ByteArray := prog_1_method_9_code
def yX6_text : MethodName := ⟨RX6, "text", "()I"⟩
abbrev cX6_force : ByteArray := prog_1_method_10_code
def yX6_force : MethodName := ⟨RX6, "force", "(I)I"⟩
abbrev cX6_day : ByteArray := prog_1_method_11_code
def yX6_day : MethodName := ⟨RX6, "day", "()I"⟩
abbrev cX6_run : ByteArray := prog_1_method_12_code
def yX6_run : MethodName := ⟨RX6, "run", "(I)I"⟩
abbrev cX6_done : ByteArray := prog_1_method_13_code
def yX6_done : MethodName := ⟨RX6, "done", "(II)I"⟩
abbrev cX6_ease : ByteArray := prog_1_method_14_code
def yX6_ease : MethodName := ⟨RX6, "ease", "(II)I"⟩
abbrev cX6_men : ByteArray := prog_1_method_15_code
def yX6_men : MethodName := ⟨RX6, "men", "(II)I"⟩
abbrev cX6_seekMen : ByteArray := prog_1_method_16_code
def yX6_seekMen : MethodName := ⟨RX6, "seekMen", "(LTillTheyMeet$Road;I)I"⟩
abbrev cX6_quarrel : ByteArray := prog_1_method_17_code
def yX6_quarrel : MethodName := ⟨RX6, "quarrel", "(I)I"⟩
abbrev cX6_bore : ByteArray := prog_1_method_18_code
def yX6_bore : MethodName := ⟨RX6, "bore", "(II)I"⟩
abbrev cX6_well : ByteArray := prog_1_method_19_code
def yX6_well : MethodName := ⟨RX6, "well", "(I)I"⟩
abbrev cX6_slowed : ByteArray := prog_1_method_20_code
def yX6_slowed : MethodName := ⟨RX6, "slowed", "(II)I"⟩
abbrev cX6_goesAs : ByteArray := prog_1_method_21_code
def yX6_goesAs : MethodName := ⟨RX6, "goesAs", "(LTillTheyMeet$Sheet;I)Z"⟩
abbrev cX6_bet : ByteArray := prog_1_method_22_code
def yX6_bet : MethodName := ⟨RX6, "bet", "(III)I"⟩
abbrev cX6_soonest : ByteArray := prog_1_method_23_code
def yX6_soonest : MethodName := ⟨RX6, "soonest", "(I)I"⟩
abbrev cX6_cheapest : ByteArray := prog_1_method_24_code
def yX6_cheapest : MethodName := ⟨RX6, "cheapest", "()I"⟩
abbrev cX6_drawn : ByteArray := prog_1_method_25_code
def yX6_drawn : MethodName := ⟨RX6, "drawn", "(I)I"⟩
abbrev cX6_chance : ByteArray := prog_1_method_26_code
def yX6_chance : MethodName := ⟨RX6, "chance", "(IIII)J"⟩
abbrev cX6_commonPart : ByteArray := prog_1_method_27_code
def yX6_commonPart : MethodName := ⟨RX6, "commonPart", "(II)I"⟩
abbrev cX6_image : ByteArray := prog_1_method_28_code
def yX6_image : MethodName := ⟨RX6, "image", "()I"⟩
abbrev cX6_back : ByteArray := prog_1_method_29_code
def yX6_back : MethodName := ⟨RX6, "back", "()I"⟩
abbrev cX6_count : ByteArray := prog_1_method_30_code
def yX6_count : MethodName := ⟨RX6, "count", "(I)I"⟩
abbrev cX6_sheet : ByteArray := prog_1_method_31_code
def yX6_sheet : MethodName := ⟨RX6, "sheet", "(III)I"⟩
abbrev cX6_cell : ByteArray := prog_1_method_32_code
def yX6_cell : MethodName := ⟨RX6, "cell", "(III)I"⟩
abbrev cX6_copy : ByteArray := prog_1_method_33_code
def yX6_copy : MethodName := ⟨RX6, "copy", "(IIIII)I"⟩
abbrev cX6_grounds : ByteArray := prog_1_method_34_code
def yX6_grounds : MethodName := ⟨RX6, "grounds", "(IIII)I"⟩
abbrev cX6_taken : ByteArray := prog_1_method_35_code
def yX6_taken : MethodName := ⟨RX6, "taken", "(II)I"⟩
abbrev cX6_within : ByteArray := prog_1_method_36_code
def yX6_within : MethodName := ⟨RX6, "within", "(III)Z"⟩
abbrev cX6_isYard : ByteArray := prog_1_method_37_code
def yX6_isYard : MethodName := ⟨RX6, "isYard", "(I)Z"⟩
abbrev cX6_isGang : ByteArray := prog_1_method_38_code
def yX6_isGang : MethodName := ⟨RX6, "isGang", "(I)Z"⟩
abbrev cX6_sheetOf : ByteArray := prog_1_method_39_code
def yX6_sheetOf : MethodName := ⟨RX6, "sheetOf", "(I)LTillTheyMeet$Sheet;"⟩
def RX7 : String := "TillTheyMeetModel"
def TX7 : u_T := fun k => match k with
  | 0 => ("TillTheyMeetModel", "thrown", "I", false)
  | 1 => ("TillTheyMeetModel", "texts", "[I", true)
  | 2 => ("TillTheyMeetModel", "textSize", "[I", true)
  | 3 => ("TillTheyMeetModel", "textCount", "I", false)
  | 4 => ("TillTheyMeetModel", "rule", "I", false)
  | 5 => ("TillTheyMeetModel", "tape", "[I", true)
  | 6 => ("TillTheyMeetModel", "taped", "I", false)
  | 7 => ("TillTheyMeetModel", "grounds", "[I", true)
  | 8 => ("TillTheyMeetModel", "known", "[I", true)
  | 9 => ("TillTheyMeetModel", "kinds", "[I", true)
  | 10 => ("TillTheyMeetModel", "numbers", "[I", true)
  | 11 => ("TillTheyMeetModel", "men", "[I", true)
  | 12 => ("TillTheyMeetModel", "dones", "[I", true)
  | 13 => ("TillTheyMeetModel", "work", "[I", true)
  | 14 => ("TillTheyMeetModel", "earned", "[I", true)
  | 15 => ("TillTheyMeetModel", "spent", "[I", true)
  | 16 => ("TillTheyMeetModel", "day", "I", false)
  | 17 => ("TillTheyMeetModel", "payYard", "I", false)
  | 18 => ("TillTheyMeetModel", "payDay", "I", false)
  | 19 => ("TillTheyMeetModel", "wage", "I", false)
  | 20 => ("TillTheyMeetModel", "ofGround", "I", false)
  | 21 => ("TillTheyMeetModel", "ofMen", "I", false)
  | 22 => ("TillTheyMeetModel", "ofYard", "I", false)
  | 23 => ("TillTheyMeetModel", "ofAhead", "I", false)
  | 24 => ("TillTheyMeetModel", "ofDay", "I", false)
  | 25 => ("TillTheyMeetModel", "ofKnown", "I", false)
  | 26 => ("TillTheyMeetModel", "from", "I", false)
  | 27 => ("TillTheyMeetModel", "size", "I", false)
  | 28 => ("TillTheyMeetModel", "here", "I", false)
  | 29 => ("TillTheyMeetModel", "token", "I", false)
  | 30 => ("TillTheyMeetModel", "tokenAt", "I", false)
  | 31 => ("TillTheyMeetModel", "tokenWorth", "J", false)
  | 32 => ("TillTheyMeetModel", "open", "I", false)
  | 33 => ("TillTheyMeetModel", "bad", "Z", false)
  | 34 => ("TillTheyMeetModel", "fault", "I", false)
  | 35 => ("TillTheyMeetModel", "groundsWas", "[I", true)
  | 36 => ("TillTheyMeetModel", "knownWas", "[I", true)
  | 37 => ("TillTheyMeetModel", "gangsWas", "[I", true)
  | 38 => ("TillTheyMeetModel", "dayWas", "I", false)
  | 39 => ("TillTheyMeetModel", "payWas", "I", false)
  | 40 => ("TillTheyMeetModel", "ends", "I", false)
  | 41 => ("TillTheyMeetModel", "bestGain", "I", false)
  | 42 => ("TillTheyMeetModel", "groundsKept", "[I", true)
  | 43 => ("TillTheyMeetModel", "knownKept", "[I", true)
  | 44 => ("TillTheyMeetModel", "gangsKept", "[I", true)
  | 45 => ("TillTheyMeetModel", "isKept", "Z", false)
  | 46 => ("TillTheyMeetModel", "dayKept", "I", false)
  | 47 => ("TillTheyMeetModel", "payYardKept", "I", false)
  | 48 => ("TillTheyMeetModel", "payDayKept", "I", false)
  | 49 => ("TillTheyMeetModel", "wageKept", "I", false)
  | 50 => ("TillTheyMeetModel", "ruleKept", "I", false)
  | 51 => ("TillTheyMeetModel", "isThere", "[Z", true)
  | 52 => ("TillTheyMeetModel", "sorts", "[I", true)
  | 53 => ("TillTheyMeetModel", "sheetSize", "[I", true)
  | _ => ("TillTheyMeetModel", "items", "[I", true)
def tyX7 : Nat → FieldType := fun k => match k with
  | 0 => .int
  | 1 => .array .int
  | 2 => .array .int
  | 3 => .int
  | 4 => .int
  | 5 => .array .int
  | 6 => .int
  | 7 => .array .int
  | 8 => .array .int
  | 9 => .array .int
  | 10 => .array .int
  | 11 => .array .int
  | 12 => .array .int
  | 13 => .array .int
  | 14 => .array .int
  | 15 => .array .int
  | 16 => .int
  | 17 => .int
  | 18 => .int
  | 19 => .int
  | 20 => .int
  | 21 => .int
  | 22 => .int
  | 23 => .int
  | 24 => .int
  | 25 => .int
  | 26 => .int
  | 27 => .int
  | 28 => .int
  | 29 => .int
  | 30 => .int
  | 31 => .long
  | 32 => .int
  | 33 => .boolean
  | 34 => .int
  | 35 => .array .int
  | 36 => .array .int
  | 37 => .array .int
  | 38 => .int
  | 39 => .int
  | 40 => .int
  | 41 => .int
  | 42 => .array .int
  | 43 => .array .int
  | 44 => .array .int
  | 45 => .boolean
  | 46 => .int
  | 47 => .int
  | 48 => .int
  | 49 => .int
  | 50 => .int
  | 51 => .array .boolean
  | 52 => .array .int
  | 53 => .array .int
  | _ => .array .int
theorem nmX7 : ∀ a, a < 55 → ∀ b, b < 55 → a ≠ b → (TX7 a).2.1 ≠ (TX7 b).2.1 := by decide +kernel
theorem tyX7_ok : ∀ k, k < 55 → parseFieldDescriptor (TX7 k).2.2.1 = some (tyX7 k) := by decide +kernel
abbrev cX7_in : ByteArray := prog_9_method_2_code
def yX7_in : MethodName := ⟨RX7, "in", "(JJJ)Z"⟩
abbrev cX7_within : ByteArray := prog_9_method_3_code
def yX7_within : MethodName := ⟨RX7, "within", "(III)I"⟩
abbrev cX7_init : ByteArray := prog_9_method_4_code
def yX7_init : MethodName := ⟨RX7, "<init>", "()V"⟩
abbrev cX7_spell : ByteArray := prog_9_method_5_code
def yX7_spell : MethodName := ⟨RX7, "spell", "(IIIIIIIII)V"⟩
abbrev cX7_isYard : ByteArray := prog_9_method_6_code
def yX7_isYard : MethodName := ⟨RX7, "isYard", "(I)Z"⟩
abbrev cX7_isGang : ByteArray := prog_9_method_7_code
def yX7_isGang : MethodName := ⟨RX7, "isGang", "(I)Z"⟩
abbrev cX7_left : ByteArray := prog_9_method_8_code
def yX7_left : MethodName := ⟨RX7, "left", "()I"⟩
abbrev cX7_whose : ByteArray := prog_9_method_9_code
def yX7_whose : MethodName := ⟨RX7, "whose", "(I)I"⟩
abbrev cX7_nextOf : ByteArray := prog_9_method_10_code
def yX7_nextOf : MethodName := ⟨RX7, "nextOf", "(I)I"⟩
abbrev cX7_ground : ByteArray := prog_9_method_11_code
def yX7_ground : MethodName := ⟨RX7, "ground", "(III)I"⟩
abbrev cX7_yard : ByteArray := prog_9_method_12_code
def yX7_yard : MethodName := ⟨RX7, "yard", "(II)I"⟩
abbrev cX7_gang : ByteArray := prog_9_method_13_code
def yX7_gang : MethodName := ⟨RX7, "gang", "(III)I"⟩
abbrev cX7_set : ByteArray := prog_9_method_14_code
def yX7_set : MethodName := ⟨RX7, "set", "(II)I"⟩
abbrev cX7_told : ByteArray := prog_9_method_15_code
def yX7_told : MethodName := ⟨RX7, "told", "(II)I"⟩
abbrev cX7_feed : ByteArray := prog_9_method_16_code
def yX7_feed : MethodName := ⟨RX7, "feed", "(I)I"⟩
abbrev cX7_byteAt : ByteArray := prog_9_method_17_code
def yX7_byteAt : MethodName := ⟨RX7, "byteAt", "(I)I"⟩
abbrev cX7_next : ByteArray := prog_9_method_18_code
def yX7_next : MethodName := ⟨RX7, "next", "()V"⟩
abbrev cX7_fail : ByteArray := prog_9_method_19_code
def yX7_fail : MethodName := ⟨RX7, "fail", "()V"⟩
abbrev cX7_isLetter : ByteArray := prog_9_method_20_code
def yX7_isLetter : MethodName := ⟨RX7, "isLetter", "(II)Z"⟩
abbrev cX7_isWord : ByteArray := prog_9_method_21_code
def yX7_isWord : MethodName := ⟨RX7, "isWord", "(IIIIIIII)Z"⟩
abbrev cX7_isSign : ByteArray := prog_9_method_22_code
def yX7_isSign : MethodName := ⟨RX7, "isSign", "(I)Z"⟩
abbrev cX7_opens : ByteArray := prog_9_method_23_code
def yX7_opens : MethodName := ⟨RX7, "opens", "()Z"⟩
abbrev cX7_name : ByteArray := prog_9_method_24_code
def yX7_name : MethodName := ⟨RX7, "name", "()I"⟩
abbrev cX7_atom : ByteArray := prog_9_method_25_code
def yX7_atom : MethodName := ⟨RX7, "atom", "()I"⟩
abbrev cX7_term : ByteArray := prog_9_method_26_code
def yX7_term : MethodName := ⟨RX7, "term", "()I"⟩
abbrev cX7_added : ByteArray := prog_9_method_27_code
def yX7_added : MethodName := ⟨RX7, "added", "()I"⟩
abbrev cX7_not : ByteArray := prog_9_method_28_code
def yX7_not : MethodName := ⟨RX7, "not", "()I"⟩
abbrev cX7_both : ByteArray := prog_9_method_29_code
def yX7_both : MethodName := ⟨RX7, "both", "()I"⟩
abbrev cX7_either : ByteArray := prog_9_method_30_code
def yX7_either : MethodName := ⟨RX7, "either", "()I"⟩
abbrev cX7_part : ByteArray := prog_9_method_31_code
def yX7_part : MethodName := ⟨RX7, "part", "(Z)I"⟩
abbrev cX7_read : ByteArray := prog_9_method_32_code
def yX7_read : MethodName := ⟨RX7, "read", "(II)I"⟩
abbrev cX7_text : ByteArray := prog_9_method_33_code
def yX7_text : MethodName := ⟨RX7, "text", "()I"⟩
abbrev cX7_force : ByteArray := prog_9_method_34_code
def yX7_force : MethodName := ⟨RX7, "force", "(I)I"⟩
abbrev cX7_says : ByteArray := prog_9_method_35_code
def yX7_says : MethodName := ⟨RX7, "says", "(III)I"⟩
abbrev cX7_needs : ByteArray := prog_9_method_36_code
def yX7_needs : MethodName := ⟨RX7, "needs", "(II)I"⟩
abbrev cX7_does : ByteArray := prog_9_method_37_code
def yX7_does : MethodName := ⟨RX7, "does", "(I)I"⟩
abbrev cX7_costs : ByteArray := prog_9_method_38_code
def yX7_costs : MethodName := ⟨RX7, "costs", "(I)I"⟩
abbrev cX7_turn : ByteArray := prog_9_method_39_code
def yX7_turn : MethodName := ⟨RX7, "turn", "(I)V"⟩
abbrev cX7_passes : ByteArray := prog_9_method_40_code
def yX7_passes : MethodName := ⟨RX7, "passes", "(I)V"⟩
abbrev cX7_day : ByteArray := prog_9_method_41_code
def yX7_day : MethodName := ⟨RX7, "day", "()I"⟩
abbrev cX7_laysAside : ByteArray := prog_9_method_42_code
def yX7_laysAside : MethodName := ⟨RX7, "laysAside", "()V"⟩
abbrev cX7_laysBack : ByteArray := prog_9_method_43_code
def yX7_laysBack : MethodName := ⟨RX7, "laysBack", "()V"⟩
abbrev cX7_runs : ByteArray := prog_9_method_44_code
def yX7_runs : MethodName := ⟨RX7, "runs", "(II)V"⟩
abbrev cX7_gain : ByteArray := prog_9_method_45_code
def yX7_gain : MethodName := ⟨RX7, "gain", "(I)I"⟩
abbrev cX7_worthAll : ByteArray := prog_9_method_46_code
def yX7_worthAll : MethodName := ⟨RX7, "worthAll", "()I"⟩
abbrev cX7_run : ByteArray := prog_9_method_47_code
def yX7_run : MethodName := ⟨RX7, "run", "(I)I"⟩
abbrev cX7_done : ByteArray := prog_9_method_48_code
def yX7_done : MethodName := ⟨RX7, "done", "(II)I"⟩
abbrev cX7_ease : ByteArray := prog_9_method_49_code
def yX7_ease : MethodName := ⟨RX7, "ease", "(II)I"⟩
abbrev cX7_gainBy : ByteArray := prog_9_method_50_code
def yX7_gainBy : MethodName := ⟨RX7, "gainBy", "(II)I"⟩
abbrev cX7_bestMen : ByteArray := prog_9_method_51_code
def yX7_bestMen : MethodName := ⟨RX7, "bestMen", "(I)I"⟩
abbrev cX7_men : ByteArray := prog_9_method_52_code
def yX7_men : MethodName := ⟨RX7, "men", "(II)I"⟩
abbrev cX7_quarrel : ByteArray := prog_9_method_53_code
def yX7_quarrel : MethodName := ⟨RX7, "quarrel", "(I)I"⟩
abbrev cX7_bore : ByteArray := prog_9_method_54_code
def yX7_bore : MethodName := ⟨RX7, "bore", "(II)I"⟩
abbrev cX7_well : ByteArray := prog_9_method_55_code
def yX7_well : MethodName := ⟨RX7, "well", "(I)I"⟩
abbrev cX7_slowed : ByteArray := prog_9_method_56_code
def yX7_slowed : MethodName := ⟨RX7, "slowed", "(II)I"⟩
abbrev cX7_off : ByteArray := prog_9_method_57_code
def yX7_off : MethodName := ⟨RX7, "off", "(II)I"⟩
abbrev cX7_bet : ByteArray := prog_9_method_58_code
def yX7_bet : MethodName := ⟨RX7, "bet", "(III)I"⟩
abbrev cX7_soonest : ByteArray := prog_9_method_59_code
def yX7_soonest : MethodName := ⟨RX7, "soonest", "(I)I"⟩
abbrev cX7_cheapest : ByteArray := prog_9_method_60_code
def yX7_cheapest : MethodName := ⟨RX7, "cheapest", "()I"⟩
abbrev cX7_drawn : ByteArray := prog_9_method_61_code
def yX7_drawn : MethodName := ⟨RX7, "drawn", "(I)I"⟩
abbrev cX7_lowest : ByteArray := prog_9_method_62_code
def yX7_lowest : MethodName := ⟨RX7, "lowest", "(JJI)J"⟩
abbrev cX7_chance : ByteArray := prog_9_method_63_code
def yX7_chance : MethodName := ⟨RX7, "chance", "(IIII)J"⟩
abbrev cX7_image : ByteArray := prog_9_method_64_code
def yX7_image : MethodName := ⟨RX7, "image", "()I"⟩
abbrev cX7_back : ByteArray := prog_9_method_65_code
def yX7_back : MethodName := ⟨RX7, "back", "()I"⟩
abbrev cX7_count : ByteArray := prog_9_method_66_code
def yX7_count : MethodName := ⟨RX7, "count", "(I)I"⟩
abbrev cX7_isSheet : ByteArray := prog_9_method_67_code
def yX7_isSheet : MethodName := ⟨RX7, "isSheet", "(I)Z"⟩
abbrev cX7_sheet : ByteArray := prog_9_method_68_code
def yX7_sheet : MethodName := ⟨RX7, "sheet", "(III)I"⟩
abbrev cX7_cell : ByteArray := prog_9_method_69_code
def yX7_cell : MethodName := ⟨RX7, "cell", "(III)I"⟩
abbrev cX7_copy : ByteArray := prog_9_method_70_code
def yX7_copy : MethodName := ⟨RX7, "copy", "(IIIII)I"⟩
abbrev cX7_grounds : ByteArray := prog_9_method_71_code
def yX7_grounds : MethodName := ⟨RX7, "grounds", "(IIII)I"⟩
abbrev cX7_over : ByteArray := prog_9_method_72_code
def yX7_over : MethodName := ⟨RX7, "over", "(I)I"⟩
abbrev cX7_taken : ByteArray := prog_9_method_73_code
def yX7_taken : MethodName := ⟨RX7, "taken", "(II)I"⟩
def RJx145de : String := "java/io/Serializable"
def RJx9f9b0 : String := "java/lang/CharSequence"
def RJ11 : String := "java/lang/Character"
abbrev cJ11_isValidCodePoint_9a6ad : ByteArray := prog_10_method_11_code
def yJ11_isValidCodePoint_9a6ad : MethodName := ⟨RJ11, "isValidCodePoint", "(I)Z"⟩
abbrev cJ11_highSurrogate_5068e : ByteArray := prog_10_method_28_code
def yJ11_highSurrogate_5068e : MethodName := ⟨RJ11, "highSurrogate", "(I)C"⟩
abbrev cJ11_lowSurrogate_5068e : ByteArray := prog_10_method_29_code
def yJ11_lowSurrogate_5068e : MethodName := ⟨RJ11, "lowSurrogate", "(I)C"⟩
def RJx8e188 : String := "java/lang/Cloneable"
def RJxb160c : String := "java/lang/Comparable"
def RJ9 : String := "java/lang/Math"
abbrev cJ9_abs_0f7a4 : ByteArray := prog_12_method_59_code
def yJ9_abs_0f7a4 : MethodName := ⟨RJ9, "abs", "(I)I"⟩
abbrev cJ9_max_7cf53 : ByteArray := prog_12_method_65_code
def yJ9_max_7cf53 : MethodName := ⟨RJ9, "max", "(II)I"⟩
abbrev cJ9_min_7cf53 : ByteArray := prog_12_method_69_code
def yJ9_min_7cf53 : MethodName := ⟨RJ9, "min", "(II)I"⟩
def RJ0 : String := "java/lang/String"
abbrev cJ0_length_8abf5 : ByteArray := prog_13_method_54_code
def yJ0_length_8abf5 : MethodName := ⟨RJ0, "length", "()I"⟩
abbrev cJ0_charAt_5068e : ByteArray := prog_13_method_56_code
def yJ0_charAt_5068e : MethodName := ⟨RJ0, "charAt", "(I)C"⟩
abbrev cJ0_indexOf_0f7a4 : ByteArray := prog_13_method_79_code
def yJ0_indexOf_0f7a4 : MethodName := ⟨RJ0, "indexOf", "(I)I"⟩
abbrev cJ0_indexOf_7cf53 : ByteArray := prog_13_method_80_code
def yJ0_indexOf_7cf53 : MethodName := ⟨RJ0, "indexOf", "(II)I"⟩
abbrev cJ0_coder_7d493 : ByteArray := prog_13_method_152_code
def yJ0_coder_7d493 : MethodName := ⟨RJ0, "coder", "()B"⟩
abbrev cJ0_isLatin1_aae02 : ByteArray := prog_13_method_154_code
def yJ0_isLatin1_aae02 : MethodName := ⟨RJ0, "isLatin1", "()Z"⟩
abbrev cJ0_checkIndex_df160 : ByteArray := prog_13_method_155_code
def yJ0_checkIndex_df160 : MethodName := ⟨RJ0, "checkIndex", "(II)V"⟩
abbrev cJ0_checkBoundsBeginEnd_23922 : ByteArray := prog_13_method_158_code
def yJ0_checkBoundsBeginEnd_23922 : MethodName := ⟨RJ0, "checkBoundsBeginEnd", "(III)V"⟩
def RJ1 : String := "java/lang/StringLatin1"
abbrev cJ1_charAt_3b067 : ByteArray := prog_14_method_2_code
def yJ1_charAt_3b067 : MethodName := ⟨RJ1, "charAt", "([BI)C"⟩
abbrev cJ1_canEncode_9a6ad : ByteArray := prog_14_method_4_code
def yJ1_canEncode_9a6ad : MethodName := ⟨RJ1, "canEncode", "(I)Z"⟩
abbrev cJ1_indexOf_4cfef : ByteArray := prog_14_method_22_code
def yJ1_indexOf_4cfef : MethodName := ⟨RJ1, "indexOf", "([BIII)I"⟩
abbrev cJ1_indexOfChar_4cfef : ByteArray := prog_14_method_23_code
def yJ1_indexOfChar_4cfef : MethodName := ⟨RJ1, "indexOfChar", "([BIII)I"⟩
def RJ2 : String := "java/lang/StringUTF16"
abbrev cJ2_getChar_3b067 : ByteArray := prog_15_method_5_code
def yJ2_getChar_3b067 : MethodName := ⟨RJ2, "getChar", "([BI)C"⟩
abbrev cJ2_length_9d52b : ByteArray := prog_15_method_6_code
def yJ2_length_9d52b : MethodName := ⟨RJ2, "length", "([B)I"⟩
abbrev cJ2_indexOf_4cfef : ByteArray := prog_15_method_40_code
def yJ2_indexOf_4cfef : MethodName := ⟨RJ2, "indexOf", "([BIII)I"⟩
abbrev cJ2_indexOfChar_4cfef : ByteArray := prog_15_method_47_code
def yJ2_indexOfChar_4cfef : MethodName := ⟨RJ2, "indexOfChar", "([BIII)I"⟩
abbrev cJ2_indexOfCharUnsafe_4cfef : ByteArray := prog_15_method_48_code
def yJ2_indexOfCharUnsafe_4cfef : MethodName := ⟨RJ2, "indexOfCharUnsafe", "([BIII)I"⟩
abbrev cJ2_indexOfSupplementary_4cfef : ByteArray := prog_15_method_49_code
def yJ2_indexOfSupplementary_4cfef : MethodName := ⟨RJ2, "indexOfSupplementary", "([BIII)I"⟩
abbrev cJ2_charAt_3b067 : ByteArray := prog_15_method_83_code
def yJ2_charAt_3b067 : MethodName := ⟨RJ2, "charAt", "([BI)C"⟩
abbrev cJ2_checkIndex_2214a : ByteArray := prog_15_method_91_code
def yJ2_checkIndex_2214a : MethodName := ⟨RJ2, "checkIndex", "(I[B)V"⟩
abbrev cJ2_checkBoundsBeginEnd_d044e : ByteArray := prog_15_method_93_code
def yJ2_checkBoundsBeginEnd_d044e : MethodName := ⟨RJ2, "checkBoundsBeginEnd", "(II[B)V"⟩
def RJ10 : String := "java/lang/System"
def RJxfd54e : String := "java/lang/constant/Constable"
def RJx3cf43 : String := "java/lang/constant/ConstantDesc"
def RJ7 : String := "java/util/Arrays"
abbrev cJ7_fill_53178 : ByteArray := prog_17_method_103_code
def yJ7_fill_53178 : MethodName := ⟨RJ7, "fill", "([II)V"⟩
abbrev cJ7_copyOf_59c91 : ByteArray := prog_17_method_123_code
def yJ7_copyOf_59c91 : MethodName := ⟨RJ7, "copyOf", "([II)[I"⟩
def RJ3 : String := "jdk/internal/util/Preconditions"
abbrev cJ3_checkIndex_8e157 : ByteArray := prog_18_method_11_code
def yJ3_checkIndex_8e157 : MethodName := ⟨RJ3, "checkIndex", "(IILjava/util/function/BiFunction;)I"⟩
abbrev cJ3_checkFromToIndex_8c36e : ByteArray := prog_18_method_12_code
def yJ3_checkFromToIndex_8c36e : MethodName := ⟨RJ3, "checkFromToIndex", "(IIILjava/util/function/BiFunction;)I"⟩
def RL : String := "TillTheyMeetLaw"
abbrev cL_law : ByteArray := code
def yL_law : MethodName := ⟨RL, "law", "([I)Z"⟩
def mX0_init : MI := (yX0_init, prog_2_method_1_code, 1, none)
def mX0_clear : MI := (yX0_clear, prog_2_method_2_code, 1, none)
def mX0_offer : MI := (yX0_offer, prog_2_method_3_code, 3, none)
def mX1_init : MI := (yX1_init, prog_3_method_1_code, 2, none)
def mX1_nextYard : MI := (yX1_nextYard, prog_3_method_2_code, 1, some (.int))
def mX1_gain : MI := (yX1_gain, prog_3_method_3_code, 1, some (.int))
def mX1_does : MI := (yX1_does, prog_3_method_4_code, 6, some (.int))
def mX1_costs : MI := (yX1_costs, prog_3_method_5_code, 1, some (.int))
def mX1_isUnder : MI := (yX1_isUnder, prog_3_method_6_code, 4, some (.boolean))
def mX1_copyKept : MI := (yX1_copyKept, prog_3_method_7_code, 2, none)
def mX1_forgetAnswers : MI := (yX1_forgetAnswers, prog_3_method_8_code, 1, none)
def mX2_init : MI := (yX2_init, prog_4_method_1_code, 1, none)
def mX2_append : MI := (yX2_append, prog_4_method_2_code, 2, some (.boolean))
def mX2_ruleOf : MI := (yX2_ruleOf, prog_4_method_3_code, 2, some (.object "TillTheyMeet$Rule"))
def mX2_readText : MI := (yX2_readText, prog_4_method_4_code, 2, none)
def mX2_refuse : MI := (yX2_refuse, prog_4_method_5_code, 1, none)
def mX2_expect : MI := (yX2_expect, prog_4_method_6_code, 2, none)
def mX2_put : MI := (yX2_put, prog_4_method_7_code, 2, none)
def mX2_readLevel : MI := (yX2_readLevel, prog_4_method_8_code, 6, none)
def mX2_readOne : MI := (yX2_readOne, prog_4_method_9_code, 2, none)
def mX2_opens : MI := (yX2_opens, prog_4_method_10_code, 2, some (.boolean))
def mX2_stepAt : MI := (yX2_stepAt, prog_4_method_11_code, 2, some (.int))
def mX2_advance : MI := (yX2_advance, prog_4_method_12_code, 2, none)
def mX2_readNumber : MI := (yX2_readNumber, prog_4_method_13_code, 1, none)
def mX2_readWord : MI := (yX2_readWord, prog_4_method_14_code, 2, none)
def mX2_spells : MI := (yX2_spells, prog_4_method_15_code, 5, some (.boolean))
def mX2_readSign : MI := (yX2_readSign, prog_4_method_16_code, 3, none)
def mX2_isBlank : MI := (yX2_isBlank, prog_4_method_17_code, 1, some (.boolean))
def mX2_isDigit : MI := (yX2_isDigit, prog_4_method_18_code, 1, some (.boolean))
def mX2_isLetter : MI := (yX2_isLetter, prog_4_method_19_code, 1, some (.boolean))
def mX3_init : MI := (yX3_init, prog_5_method_1_code, 2, none)
def mX3_gangOf : MI := (yX3_gangOf, prog_5_method_2_code, 2, some (.object "TillTheyMeet$Gang"))
def mX3_groundOf : MI := (yX3_groundOf, prog_5_method_3_code, 2, some (.int))
def mX3_ahead : MI := (yX3_ahead, prog_5_method_4_code, 1, some (.int))
def mX3_doerOf : MI := (yX3_doerOf, prog_5_method_5_code, 2, some (.int))
def mX3_paid : MI := (yX3_paid, prog_5_method_6_code, 1, some (.int))
def mX3_worth : MI := (yX3_worth, prog_5_method_7_code, 3, some (.int))
def mX3_ask : MI := (yX3_ask, prog_5_method_8_code, 4, some (.int))
def mX3_askOfNext : MI := (yX3_askOfNext, prog_5_method_9_code, 5, some (.int))
def mX3_forgetAnswers : MI := (yX3_forgetAnswers, prog_5_method_10_code, 1, none)
def mX3_takeTurn : MI := (yX3_takeTurn, prog_5_method_11_code, 5, none)
def mX3_passDay : MI := (yX3_passDay, prog_5_method_12_code, 2, none)
def mX3_runOut : MI := (yX3_runOut, prog_5_method_13_code, 4, some (.int))
def mX3_copyKept : MI := (yX3_copyKept, prog_5_method_14_code, 2, none)
def mX3_copyAll : MI := (yX3_copyAll, prog_5_method_15_code, 2, none)
def mX4_init : MI := (yX4_init, prog_6_method_1_code, 6, none)
def mX4_valueOf : MI := (yX4_valueOf, prog_6_method_2_code, 11, some (.int))
def mX5_init : MI := (yX5_init, prog_7_method_1_code, 1, none)
def mX5_isMissing : MI := (yX5_isMissing, prog_7_method_2_code, 1, some (.boolean))
def mX5_become : MI := (yX5_become, prog_7_method_3_code, 3, none)
def mX5_has : MI := (yX5_has, prog_7_method_4_code, 2, some (.boolean))
def mX5_hasSpan : MI := (yX5_hasSpan, prog_7_method_5_code, 3, some (.boolean))
def mX5_cut : MI := (yX5_cut, prog_7_method_6_code, 2, some (.int))
def mX6_init : MI := (yX6_init, prog_1_method_1_code, 3, none)
def mX6_ground : MI := (yX6_ground, prog_1_method_2_code, 6, some (.int))
def mX6_yard : MI := (yX6_yard, prog_1_method_3_code, 3, some (.int))
def mX6_gang : MI := (yX6_gang, prog_1_method_4_code, 6, some (.int))
def mX6_set : MI := (yX6_set, prog_1_method_5_code, 5, some (.int))
def mX6_told : MI := (yX6_told, prog_1_method_6_code, 4, some (.int))
def mX6_doesToday : MI := (yX6_doesToday, prog_1_method_7_code, 3, some (.int))
def mX6_feed : MI := (yX6_feed, prog_1_method_8_code, 2, some (.int))
def mX6_text : MI := (yX6_text, prog_1_method_9_code, 2, some (.int))
def mX6_force : MI := (yX6_force, prog_1_method_10_code, 4, some (.int))
def mX6_day : MI := (yX6_day, prog_1_method_11_code, 1, some (.int))
def mX6_run : MI := (yX6_run, prog_1_method_12_code, 3, some (.int))
def mX6_done : MI := (yX6_done, prog_1_method_13_code, 4, some (.int))
def mX6_ease : MI := (yX6_ease, prog_1_method_14_code, 4, some (.int))
def mX6_men : MI := (yX6_men, prog_1_method_15_code, 3, some (.int))
def mX6_seekMen : MI := (yX6_seekMen, prog_1_method_16_code, 7, some (.int))
def mX6_quarrel : MI := (yX6_quarrel, prog_1_method_17_code, 7, some (.int))
def mX6_bore : MI := (yX6_bore, prog_1_method_18_code, 5, some (.int))
def mX6_well : MI := (yX6_well, prog_1_method_19_code, 6, some (.int))
def mX6_slowed : MI := (yX6_slowed, prog_1_method_20_code, 7, some (.int))
def mX6_goesAs : MI := (yX6_goesAs, prog_1_method_21_code, 5, some (.boolean))
def mX6_bet : MI := (yX6_bet, prog_1_method_22_code, 5, some (.int))
def mX6_soonest : MI := (yX6_soonest, prog_1_method_23_code, 3, some (.int))
def mX6_cheapest : MI := (yX6_cheapest, prog_1_method_24_code, 2, some (.int))
def mX6_drawn : MI := (yX6_drawn, prog_1_method_25_code, 4, some (.int))
def mX6_chance : MI := (yX6_chance, prog_1_method_26_code, 7, some (.long))
def mX6_commonPart : MI := (yX6_commonPart, prog_1_method_27_code, 3, some (.int))
def mX6_image : MI := (yX6_image, prog_1_method_28_code, 1, some (.int))
def mX6_back : MI := (yX6_back, prog_1_method_29_code, 1, some (.int))
def mX6_count : MI := (yX6_count, prog_1_method_30_code, 2, some (.int))
def mX6_sheet : MI := (yX6_sheet, prog_1_method_31_code, 5, some (.int))
def mX6_cell : MI := (yX6_cell, prog_1_method_32_code, 5, some (.int))
def mX6_copy : MI := (yX6_copy, prog_1_method_33_code, 8, some (.int))
def mX6_grounds : MI := (yX6_grounds, prog_1_method_34_code, 9, some (.int))
def mX6_taken : MI := (yX6_taken, prog_1_method_35_code, 4, some (.int))
def mX6_within : MI := (yX6_within, prog_1_method_36_code, 3, some (.boolean))
def mX6_isYard : MI := (yX6_isYard, prog_1_method_37_code, 1, some (.boolean))
def mX6_isGang : MI := (yX6_isGang, prog_1_method_38_code, 1, some (.boolean))
def mX6_sheetOf : MI := (yX6_sheetOf, prog_1_method_39_code, 2, some (.object "TillTheyMeet$Sheet"))
def mX7_in : MI := (yX7_in, prog_9_method_2_code, 6, some (.boolean))
def mX7_within : MI := (yX7_within, prog_9_method_3_code, 3, some (.int))
def mX7_init : MI := (yX7_init, prog_9_method_4_code, 1, none)
def mX7_spell : MI := (yX7_spell, prog_9_method_5_code, 10, none)
def mX7_isYard : MI := (yX7_isYard, prog_9_method_6_code, 1, some (.boolean))
def mX7_isGang : MI := (yX7_isGang, prog_9_method_7_code, 1, some (.boolean))
def mX7_left : MI := (yX7_left, prog_9_method_8_code, 1, some (.int))
def mX7_whose : MI := (yX7_whose, prog_9_method_9_code, 2, some (.int))
def mX7_nextOf : MI := (yX7_nextOf, prog_9_method_10_code, 2, some (.int))
def mX7_ground : MI := (yX7_ground, prog_9_method_11_code, 5, some (.int))
def mX7_yard : MI := (yX7_yard, prog_9_method_12_code, 3, some (.int))
def mX7_gang : MI := (yX7_gang, prog_9_method_13_code, 5, some (.int))
def mX7_set : MI := (yX7_set, prog_9_method_14_code, 4, some (.int))
def mX7_told : MI := (yX7_told, prog_9_method_15_code, 3, some (.int))
def mX7_feed : MI := (yX7_feed, prog_9_method_16_code, 2, some (.int))
def mX7_byteAt : MI := (yX7_byteAt, prog_9_method_17_code, 2, some (.int))
def mX7_next : MI := (yX7_next, prog_9_method_18_code, 3, none)
def mX7_fail : MI := (yX7_fail, prog_9_method_19_code, 1, none)
def mX7_isLetter : MI := (yX7_isLetter, prog_9_method_20_code, 3, some (.boolean))
def mX7_isWord : MI := (yX7_isWord, prog_9_method_21_code, 9, some (.boolean))
def mX7_isSign : MI := (yX7_isSign, prog_9_method_22_code, 2, some (.boolean))
def mX7_opens : MI := (yX7_opens, prog_9_method_23_code, 1, some (.boolean))
def mX7_name : MI := (yX7_name, prog_9_method_24_code, 1, some (.int))
def mX7_atom : MI := (yX7_atom, prog_9_method_25_code, 2, some (.int))
def mX7_term : MI := (yX7_term, prog_9_method_26_code, 2, some (.int))
def mX7_added : MI := (yX7_added, prog_9_method_27_code, 4, some (.int))
def mX7_not : MI := (yX7_not, prog_9_method_28_code, 4, some (.int))
def mX7_both : MI := (yX7_both, prog_9_method_29_code, 3, some (.int))
def mX7_either : MI := (yX7_either, prog_9_method_30_code, 3, some (.int))
def mX7_part : MI := (yX7_part, prog_9_method_31_code, 3, some (.int))
def mX7_read : MI := (yX7_read, prog_9_method_32_code, 6, some (.int))
def mX7_text : MI := (yX7_text, prog_9_method_33_code, 2, some (.int))
def mX7_force : MI := (yX7_force, prog_9_method_34_code, 3, some (.int))
def mX7_says : MI := (yX7_says, prog_9_method_35_code, 4, some (.int))
def mX7_needs : MI := (yX7_needs, prog_9_method_36_code, 3, some (.int))
def mX7_does : MI := (yX7_does, prog_9_method_37_code, 6, some (.int))
def mX7_costs : MI := (yX7_costs, prog_9_method_38_code, 4, some (.int))
def mX7_turn : MI := (yX7_turn, prog_9_method_39_code, 5, none)
def mX7_passes : MI := (yX7_passes, prog_9_method_40_code, 3, none)
def mX7_day : MI := (yX7_day, prog_9_method_41_code, 1, some (.int))
def mX7_laysAside : MI := (yX7_laysAside, prog_9_method_42_code, 2, none)
def mX7_laysBack : MI := (yX7_laysBack, prog_9_method_43_code, 2, none)
def mX7_runs : MI := (yX7_runs, prog_9_method_44_code, 3, none)
def mX7_gain : MI := (yX7_gain, prog_9_method_45_code, 2, some (.int))
def mX7_worthAll : MI := (yX7_worthAll, prog_9_method_46_code, 3, some (.int))
def mX7_run : MI := (yX7_run, prog_9_method_47_code, 5, some (.int))
def mX7_done : MI := (yX7_done, prog_9_method_48_code, 4, some (.int))
def mX7_ease : MI := (yX7_ease, prog_9_method_49_code, 7, some (.int))
def mX7_gainBy : MI := (yX7_gainBy, prog_9_method_50_code, 4, some (.int))
def mX7_bestMen : MI := (yX7_bestMen, prog_9_method_51_code, 5, some (.int))
def mX7_men : MI := (yX7_men, prog_9_method_52_code, 4, some (.int))
def mX7_quarrel : MI := (yX7_quarrel, prog_9_method_53_code, 10, some (.int))
def mX7_bore : MI := (yX7_bore, prog_9_method_54_code, 5, some (.int))
def mX7_well : MI := (yX7_well, prog_9_method_55_code, 4, some (.int))
def mX7_slowed : MI := (yX7_slowed, prog_9_method_56_code, 8, some (.int))
def mX7_off : MI := (yX7_off, prog_9_method_57_code, 2, some (.int))
def mX7_bet : MI := (yX7_bet, prog_9_method_58_code, 6, some (.int))
def mX7_soonest : MI := (yX7_soonest, prog_9_method_59_code, 6, some (.int))
def mX7_cheapest : MI := (yX7_cheapest, prog_9_method_60_code, 3, some (.int))
def mX7_drawn : MI := (yX7_drawn, prog_9_method_61_code, 4, some (.int))
def mX7_lowest : MI := (yX7_lowest, prog_9_method_62_code, 11, some (.long))
def mX7_chance : MI := (yX7_chance, prog_9_method_63_code, 8, some (.long))
def mX7_image : MI := (yX7_image, prog_9_method_64_code, 2, some (.int))
def mX7_back : MI := (yX7_back, prog_9_method_65_code, 2, some (.int))
def mX7_count : MI := (yX7_count, prog_9_method_66_code, 2, some (.int))
def mX7_isSheet : MI := (yX7_isSheet, prog_9_method_67_code, 1, some (.boolean))
def mX7_sheet : MI := (yX7_sheet, prog_9_method_68_code, 5, some (.int))
def mX7_cell : MI := (yX7_cell, prog_9_method_69_code, 4, some (.int))
def mX7_copy : MI := (yX7_copy, prog_9_method_70_code, 9, some (.int))
def mX7_grounds : MI := (yX7_grounds, prog_9_method_71_code, 8, some (.int))
def mX7_over : MI := (yX7_over, prog_9_method_72_code, 1, some (.int))
def mX7_taken : MI := (yX7_taken, prog_9_method_73_code, 4, some (.int))
def mJ11_isValidCodePoint_9a6ad : MI := (yJ11_isValidCodePoint_9a6ad, prog_10_method_11_code, 2, some (.boolean))
def mJ11_highSurrogate_5068e : MI := (yJ11_highSurrogate_5068e, prog_10_method_28_code, 1, some (.char))
def mJ11_lowSurrogate_5068e : MI := (yJ11_lowSurrogate_5068e, prog_10_method_29_code, 1, some (.char))
def mJ9_abs_0f7a4 : MI := (yJ9_abs_0f7a4, prog_12_method_59_code, 1, some (.int))
def mJ9_max_7cf53 : MI := (yJ9_max_7cf53, prog_12_method_65_code, 2, some (.int))
def mJ9_min_7cf53 : MI := (yJ9_min_7cf53, prog_12_method_69_code, 2, some (.int))
def mJ0_length_8abf5 : MI := (yJ0_length_8abf5, prog_13_method_54_code, 1, some (.int))
def mJ0_charAt_5068e : MI := (yJ0_charAt_5068e, prog_13_method_56_code, 2, some (.char))
def mJ0_indexOf_0f7a4 : MI := (yJ0_indexOf_0f7a4, prog_13_method_79_code, 2, some (.int))
def mJ0_indexOf_7cf53 : MI := (yJ0_indexOf_7cf53, prog_13_method_80_code, 3, some (.int))
def mJ0_coder_7d493 : MI := (yJ0_coder_7d493, prog_13_method_152_code, 1, some (.byte))
def mJ0_isLatin1_aae02 : MI := (yJ0_isLatin1_aae02, prog_13_method_154_code, 1, some (.boolean))
def mJ0_checkIndex_df160 : MI := (yJ0_checkIndex_df160, prog_13_method_155_code, 2, none)
def mJ0_checkBoundsBeginEnd_23922 : MI := (yJ0_checkBoundsBeginEnd_23922, prog_13_method_158_code, 3, none)
def mJ1_charAt_3b067 : MI := (yJ1_charAt_3b067, prog_14_method_2_code, 2, some (.char))
def mJ1_canEncode_9a6ad : MI := (yJ1_canEncode_9a6ad, prog_14_method_4_code, 1, some (.boolean))
def mJ1_indexOf_4cfef : MI := (yJ1_indexOf_4cfef, prog_14_method_22_code, 4, some (.int))
def mJ1_indexOfChar_4cfef : MI := (yJ1_indexOfChar_4cfef, prog_14_method_23_code, 6, some (.int))
def mJ2_getChar_3b067 : MI := (yJ2_getChar_3b067, prog_15_method_5_code, 2, some (.char))
def mJ2_length_9d52b : MI := (yJ2_length_9d52b, prog_15_method_6_code, 1, some (.int))
def mJ2_indexOf_4cfef : MI := (yJ2_indexOf_4cfef, prog_15_method_40_code, 4, some (.int))
def mJ2_indexOfChar_4cfef : MI := (yJ2_indexOfChar_4cfef, prog_15_method_47_code, 4, some (.int))
def mJ2_indexOfCharUnsafe_4cfef : MI := (yJ2_indexOfCharUnsafe_4cfef, prog_15_method_48_code, 5, some (.int))
def mJ2_indexOfSupplementary_4cfef : MI := (yJ2_indexOfSupplementary_4cfef, prog_15_method_49_code, 7, some (.int))
def mJ2_charAt_3b067 : MI := (yJ2_charAt_3b067, prog_15_method_83_code, 2, some (.char))
def mJ2_checkIndex_2214a : MI := (yJ2_checkIndex_2214a, prog_15_method_91_code, 2, none)
def mJ2_checkBoundsBeginEnd_d044e : MI := (yJ2_checkBoundsBeginEnd_d044e, prog_15_method_93_code, 3, none)
def mJ7_fill_53178 : MI := (yJ7_fill_53178, prog_17_method_103_code, 4, none)
def mJ7_copyOf_59c91 : MI := (yJ7_copyOf_59c91, prog_17_method_123_code, 3, some (.array .int))
def mJ3_checkIndex_8e157 : MI := (yJ3_checkIndex_8e157, prog_18_method_11_code, 3, some (.int))
def mJ3_checkFromToIndex_8c36e : MI := (yJ3_checkFromToIndex_8c36e, prog_18_method_12_code, 4, some (.int))
abbrev vwCl : List vw_C := [(RX0, TX0, 3), (RX1, TX1, 10), (RX2, TX2, 10), (RX3, TX3, 10), (RX4, TX4, 5), (RX5, TX5, 3), (RX6, TX6, 10), (RX7, TX7, 55)]
def tyc (c : Nat) : Nat → FieldType := match c with
  | 0 => tyX0
  | 1 => tyX1
  | 2 => tyX2
  | 3 => tyX3
  | 4 => tyX4
  | 5 => tyX5
  | 6 => tyX6
  | _ => tyX7
end
section
/-! THE LOGIC: a heap by numbers of cells. A cell's number is its place in the order of making: its address is fixed by it.
    iv, rv, lv: what int-like, reference and long slots hold, by cell and slot; a reference is a cell's number, 0 is null.
    Cells 1 .. K0-1 are old (script, static rows, texts) and never written. -/
abbrev IV : Type := Nat → Nat → Int32
abbrev RV : Type := Nat → Nat → Nat
abbrev LV : Type := Nat → Nat → Int64
/-- how many cells there are, each one's kind, each one's length -/
abbrev Sh : Type := Nat × (Nat → Nat) × (Nat → Nat)
abbrev K0 : Nat := 14
/-- the state at the law's entry, classes and slots, array classes by kind, old cells: address, kind, length, ints, references -/
abbrev GS : Type := State × va_G × (Nat → ClassId) × (Nat → Nat) × (Nat → Nat) × (Nat → Nat → Int32)
abbrev GS.s0 (g : GS) : State := g.1
abbrev GS.dd (g : GS) : va_G := g.2.1
abbrev GS.ac (g : GS) : Nat → ClassId := g.2.2.1
abbrev GS.ro (g : GS) : Nat → Nat := g.2.2.2.1
abbrev GS.oln (g : GS) : Nat → Nat := g.2.2.2.2.1
abbrev GS.oiv (g : GS) : Nat → Nat → Int32 := g.2.2.2.2.2
def gbase (g : GS) : Nat := g.s0.heap.size
def rho (g : GS) (i : Nat) : Nat := if i < K0 then g.ro i else gbase g + (i - K0)
def cv (g : GS) (v : Value) : Value := match v with
  | .ref i => if i = 0 then .null else .ref (rho g i)
  | v => v
theorem cv_int (g : GS) (x : Int32) : cv g (.int x) = .int x := rfl
theorem cv_long (g : GS) (x : Int64) : cv g (.long x) = .long x := rfl
theorem cv_null (g : GS) : cv g (.ref 0) = .null := rfl
theorem cv_ref (g : GS) {i : Nat} (h : 0 < i) : cv g (.ref i) = .ref (rho g i) := if_neg (Nat.pos_iff_ne_zero.mp h)
theorem cv_cat (g : GS) (v : Value) : (cv g v).category = v.category := by
  cases v <;> first | rfl | skip
  unfold cv
  dsimp only
  split <;> rfl
/-- a slot's value by its type -/
def sv (ty : FieldType) (iv : IV) (rv : RV) (lv : LV) (i k : Nat) : Value := match ty with
  | .long => .long (lv i k)
  | .object _ => .ref (rv i k)
  | .array _ => .ref (rv i k)
  | _ => .int (iv i k)
/-- element types of array kinds: 20 int, 21 boolean, 22 byte, 23 Rule, 24 Sheet -/
def aty (k : Nat) : FieldType := match k with
  | 20 => .int
  | 21 => .boolean
  | 22 => .byte
  | 23 => .object "TillTheyMeet$Rule"
  | _ => .object "TillTheyMeet$Sheet"
def up {α : Type} (f : Nat → Nat → α) (i k : Nat) (x : α) : Nat → Nat → α := fun a b => if a = i ∧ b = k then x else f a b
def clr {α : Type} (f : Nat → Nat → α) (i : Nat) (z : α) : Nat → Nat → α := fun a b => if a = i then z else f a b
def up1 {α : Type} (f : Nat → α) (i : Nat) (x : α) : Nat → α := fun a => if a = i then x else f a
theorem up_same {α : Type} (f : Nat → Nat → α) (i k : Nat) (x : α) : up f i k x i k = x := if_pos ⟨rfl, rfl⟩
theorem up_ne {α : Type} {f : Nat → Nat → α} {i k a b : Nat} {x : α} (h : ¬ (a = i ∧ b = k)) : up f i k x a b = f a b := if_neg h
theorem up_ne1 {α : Type} {f : Nat → Nat → α} {i k a b : Nat} {x : α} (h : a ≠ i) : up f i k x a b = f a b := if_neg (fun q => h q.1)
theorem up_ne2 {α : Type} {f : Nat → Nat → α} {i k a b : Nat} {x : α} (h : b ≠ k) : up f i k x a b = f a b := if_neg (fun q => h q.2)
abbrev oldA (g : GS) : Nat → Prop := fun q => gbase g ≤ q
/-- what the old cells are, and the tables: 1 script, 2 .. 6 static rows, 7 .. 12 texts (object, bytes), 13 what nobody asks -/
def GoodG (g : GS) : Prop :=
  va_K g.dd vwCl [] g.s0
  ∧ (∀ k, 20 ≤ k → k < 25 → ArrOfT g.s0 (g.ac k) (aty k) ∧ va_RA g.s0 (g.ac k) (aty k))
  ∧ (va_X (g.ro 1) (g.oln 1) (g.oiv 1) g.s0 g.s0.heap ∧ g.ro 1 < gbase g)
  ∧ (∀ i, 2 ≤ i → i < 7 → va_T .int (g.ro i) (g.oln i) (fun j => .int (g.oiv i j)) (oldA g) g.s0 g.s0.heap)
  ∧ (va_Z "TillTheyMeet" "SET_LEAST" "[I" (.ref (g.ro 2)) (oldA g) g.s0 g.s0.heap
     ∧ va_Z "TillTheyMeet" "SET_MOST" "[I" (.ref (g.ro 3)) (oldA g) g.s0 g.s0.heap
     ∧ va_Z "TillTheyMeet$Gang" "UNDER" "[I" (.ref (g.ro 4)) (oldA g) g.s0 g.s0.heap
     ∧ va_Z "TillTheyMeet$Road" "LEAST" "[I" (.ref (g.ro 5)) (oldA g) g.s0 g.s0.heap
     ∧ va_Z "TillTheyMeet$Road" "MOST" "[I" (.ref (g.ro 6)) (oldA g) g.s0 g.s0.heap
     ∧ va_Z "java/lang/String" "COMPACT_STRINGS" "Z" (.int 1) (oldA g) g.s0 g.s0.heap
     ∧ (va_Z "jdk/internal/util/Preconditions" "SIOOBE_FORMATTER" "Ljava/util/function/BiFunction;" .null (oldA g) g.s0 g.s0.heap ∨ va_Z "jdk/internal/util/Preconditions" "SIOOBE_FORMATTER" "Ljava/util/function/BiFunction;" (.ref (g.ro 13)) (oldA g) g.s0 g.s0.heap))
  ∧ (∀ j, j < 3 → va_O "java/lang/String" (g.ro (7 + 2 * j)) (oldA g) g.s0 g.s0.heap ∧ va_OF "java/lang/String" "coder" "B" (.int 0) (g.ro (7 + 2 * j)) (oldA g) g.s0 g.s0.heap ∧ va_OF "java/lang/String" "value" "[B" (.ref (g.ro (8 + 2 * j))) (g.ro (7 + 2 * j)) (oldA g) g.s0 g.s0.heap ∧ va_T .byte (g.ro (8 + 2 * j)) (g.oln (8 + 2 * j)) (fun q => .int (g.oiv (8 + 2 * j) q)) (oldA g) g.s0 g.s0.heap)
  ∧ (vk_R "TillTheyMeet" 43 "rate men * 4 ; need 30 + ground * 25 ; worth 0 ;" (g.ro 7) g.s0 ∧ (∃ tx, vk_R "TillTheyMeet$Reader" 108 tx (g.ro 9) g.s0) ∧ ∃ tx, vk_R "TillTheyMeet$Reader" 116 tx (g.ro 11) g.s0)
  ∧ (∀ q ∈ lw_tbl, (∃ a i y h, q = Cond.methodLinkNest a i y h) → va_Nw q g.s0)
  ∧ ((Cond.arrayOver (.object "TillTheyMeet$Rule")).before #[] g.s0 = true ∧ (Cond.arrayOver (.object "TillTheyMeet$Sheet")).before #[] g.s0 = true ∧ va_Nw (.castable "[I" "java/lang/Cloneable") g.s0)
/-- a cell that was made since -/
def cellOK (g : GS) (Γ : Sh) (iv : IV) (rv : RV) (lv : LV) (H : Heap) (i : Nat) : Prop :=
  (∃ r : vw_C, vwCl[Γ.2.1 i]? = some r ∧ t_OB (rho g i) (g.dd.1 (Γ.2.1 i)) r.2.2 (g.dd.2 (Γ.2.1 i)) H (fun k => cv g (sv (tyc (Γ.2.1 i) k) iv rv lv i k)))
  ∨ (20 ≤ Γ.2.1 i ∧ Γ.2.1 i < 25 ∧ H[rho g i]? = some (arrV (g.ac (Γ.2.1 i)) (Γ.2.2 i) (fun j => cv g (sv (aty (Γ.2.1 i)) iv rv lv i j))))
def RepH (g : GS) (Γ : Sh) (iv : IV) (rv : RV) (lv : LV) (H : Heap) : Prop :=
  K0 ≤ Γ.1 ∧ H.size = gbase g + (Γ.1 - K0) ∧ (∀ q : Nat, q < gbase g → H[q]? = g.s0.heap[q]?) ∧ ∀ i, K0 ≤ i → i < Γ.1 → cellOK g Γ iv rv lv H i
/-- a cell of ours of a kind; an array of a kind and length -/
def IsK (Γ : Sh) (i c : Nat) : Prop := K0 ≤ i ∧ i < Γ.1 ∧ Γ.2.1 i = c
def IsA (Γ : Sh) (i c n : Nat) : Prop := K0 ≤ i ∧ i < Γ.1 ∧ Γ.2.1 i = c ∧ Γ.2.2 i = n
theorem rho_new {g : GS} {i : Nat} (h : K0 ≤ i) : rho g i = gbase g + (i - K0) := if_neg (by omega)
theorem rho_old {g : GS} {i : Nat} (h : i < K0) : rho g i = g.ro i := if_pos h
theorem rho_inj {g : GS} {i j : Nat} (hi : K0 ≤ i) (hj : K0 ≤ j) (h : i ≠ j) : rho g i ≠ rho g j := by
  rw [rho_new hi, rho_new hj]; omega
theorem rho_base {g : GS} {i : Nat} (h : K0 ≤ i) : gbase g ≤ rho g i := by rw [rho_new h]; omega
theorem cv_new {g : GS} {i : Nat} (h : K0 ≤ i) : cv g (.ref i) = .ref (rho g i) := cv_ref g (by have : K0 = 14 := rfl; omega)
theorem sv_off {ty : FieldType} {iv iv' : IV} {rv rv' : RV} {lv lv' : LV} {i k : Nat} (h1 : iv' i k = iv i k) (h2 : rv' i k = rv i k) (h3 : lv' i k = lv i k) : sv ty iv' rv' lv' i k = sv ty iv rv lv i k := by
  unfold sv; cases ty <;> simp only [h1, h2, h3]
theorem cellOK.off {g : GS} {Γ : Sh} {iv iv' : IV} {rv rv' : RV} {lv lv' : LV} {H H' : Heap} {j : Nat} (h : cellOK g Γ iv rv lv H j) (hH : H'[rho g j]? = H[rho g j]?) (h1 : ∀ k, iv' j k = iv j k) (h2 : ∀ k, rv' j k = rv j k) (h3 : ∀ k, lv' j k = lv j k) : cellOK g Γ iv' rv' lv' H' j := by
  rcases h with ⟨r, a, b⟩ | ⟨a, b, c⟩
  · exact Or.inl ⟨r, a, (b.kept hH).to (fun k _ => by rw [sv_off (h1 k) (h2 k) (h3 k)])⟩
  · refine Or.inr ⟨a, b, ?_⟩
    rw [hH, c]
    congr 3
    funext k
    rw [sv_off (h1 k) (h2 k) (h3 k)]
/-- one cell is written -/
theorem RepH.put {g : GS} {Γ : Sh} {iv iv' : IV} {rv rv' : RV} {lv lv' : LV} {H H' : Heap} {i : Nat} (h : RepH g Γ iv rv lv H) (hi : K0 ≤ i) (hz : H'.size = H.size) (ho : ∀ q : Nat, q ≠ rho g i → H'[q]? = H[q]?) (hc : cellOK g Γ iv' rv' lv' H' i)
    (h1 : ∀ j k, j ≠ i → iv' j k = iv j k) (h2 : ∀ j k, j ≠ i → rv' j k = rv j k) (h3 : ∀ j k, j ≠ i → lv' j k = lv j k) : RepH g Γ iv' rv' lv' H' := by
  obtain ⟨a, b, c, d⟩ := h
  refine ⟨a, by rw [hz]; exact b, fun q hq => by rw [ho q (by have := rho_base (g := g) hi; omega)]; exact c q hq, fun j hj hn => ?_⟩
  by_cases e : j = i
  · subst e; exact hc
  · exact (d j hj hn).off (ho _ (rho_inj hj hi e)) (fun k => h1 j k e) (fun k => h2 j k e) (fun k => h3 j k e)
/-! locals: one value a place; '.retAddr' says that nothing is known there -/
def isD (v : Value) : Bool := match v with
  | .retAddr _ => true
  | _ => false
def lsOK (g : GS) (nL : Nat) (ls : List Value) (lsC : Array Slot) : Prop := lsC.size = nL ∧ lv_wf lsC ∧ ls.length ≤ nL ∧ ∀ (i : Nat) (v : Value), ls[i]? = some v → isD v = false → lsC[i]? = some (.val (cv g v))
def prs (g : GS) : Nat → List Value → List (Nat × Value)
  | _, [] => []
  | i, v :: vs => if isD v then prs g (i + 1) vs else (i, cv g v) :: prs g (i + 1) vs
theorem mem_prs {g : GS} {ls : List Value} : ∀ {i : Nat} {q : Nat × Value}, q ∈ prs g i ls ↔ ∃ (j : Nat) (v : Value), ls[j]? = some v ∧ isD v = false ∧ q = (i + j, cv g v) := by
  induction ls with
  | nil => intro i q; simp [prs]
  | cons v vs ih =>
    intro i q
    unfold prs
    constructor
    · intro h
      split at h
      · obtain ⟨j, w, h1, h2, h3⟩ := ih.mp h
        exact ⟨j + 1, w, by simpa using h1, h2, by rw [h3]; congr 1; omega⟩
      · rename_i hv
        rcases List.mem_cons.mp h with e | h
        · exact ⟨0, v, by simp, by simpa using hv, by simpa using e⟩
        · obtain ⟨j, w, h1, h2, h3⟩ := ih.mp h
          exact ⟨j + 1, w, by simpa using h1, h2, by rw [h3]; congr 1; omega⟩
    · rintro ⟨j, w, h1, h2, h3⟩
      cases j with
      | zero =>
        simp at h1
        subst h1
        rw [if_neg (by simp [h2])]
        exact List.mem_cons.mpr (Or.inl (by simpa using h3))
      | succ j =>
        have : q ∈ prs g (i + 1) vs := ih.mpr ⟨j, w, by simpa using h1, h2, by rw [h3]; congr 1; omega⟩
        split
        · exact this
        · exact List.mem_cons_of_mem _ this
theorem lsOK.has {g : GS} {nL : Nat} {ls : List Value} {lsC : Array Slot} (h : lsOK g nL ls lsC) : lv_has lsC nL (prs g 0 ls) := by
  refine ⟨h.1, h.2.1, fun q hq => ?_⟩
  obtain ⟨j, v, h1, h2, rfl⟩ := mem_prs.mp hq
  simpa using h.2.2.2 j v h1 h2
theorem lsOK.at {g : GS} {nL : Nat} {ls : List Value} {lsC : Array Slot} (h : lsOK g nL ls lsC) {i : Nat} {v : Value} (hi : ls[i]? = some v) (hd : isD v = false) : lsC[i]? = some (.val (cv g v)) := h.2.2.2 i v hi hd
/-- a place of category 1 is written -/
theorem lsOK.store {g : GS} {nL : Nat} {ls : List Value} {lsC : Array Slot} (h : lsOK g nL ls lsC) {i : Nat} {v : Value} {ls' : Array Slot} (hp : ∀ w, ls[i - 1]? = some w → 0 < i → w.category = 1)
    (h' : lv_has ls' nL ((i, cv g v) :: (prs g 0 ls).filter (fun q => !(q.1 == i) && !(q.1 + 1 == i && q.2.category == 2)))) : lsOK g nL (ls.set i v) ls' := by
  refine ⟨h'.1, h'.2.1, by rw [List.length_set]; exact h.2.2.1, fun j w hj hw => ?_⟩
  by_cases e : j = i
  · subst e
    have hlt : j < ls.length := by
      have := (List.getElem?_eq_some_iff.mp hj).1
      simpa using this
    rw [List.getElem?_set_self hlt] at hj
    cases hj
    exact h'.2.2 (j, cv g v) List.mem_cons_self
  · rw [List.getElem?_set_ne (fun z => e z.symm)] at hj
    refine h'.2.2 (j, cv g w) (List.mem_cons_of_mem _ (List.mem_filter.mpr ⟨mem_prs.mpr ⟨j, w, hj, hw, by simp⟩, ?_⟩))
    have : ¬ (j + 1 = i ∧ w.category = 2) := by
      rintro ⟨a, b⟩
      have := hp w (by rw [← a]; simpa using hj) (by omega)
      omega
    simp [e, cv_cat]
    exact Decidable.not_and_iff_or_not.mp this
theorem lsOK.store2 {g : GS} {nL : Nat} {ls : List Value} {lsC : Array Slot} (h : lsOK g nL ls lsC) {i z : Nat} {v : Value} {ls' : Array Slot} (hp : ∀ w, ls[i - 1]? = some w → 0 < i → w.category = 1)
    (h' : lv_has ls' nL ((i, cv g v) :: (prs g 0 ls).filter (fun q => !(q.1 == i) && (!(q.1 == i + 1) && !(q.1 + 1 == i && q.2.category == 2))))) : lsOK g nL ((ls.set i v).set (i + 1) (.retAddr z)) ls' := by
  refine ⟨h'.1, h'.2.1, by rw [List.length_set, List.length_set]; exact h.2.2.1, fun j w hj hw => ?_⟩
  by_cases e : j = i + 1
  · subst e
    have hlt := (List.getElem?_eq_some_iff.mp hj).1
    rw [List.getElem?_set_self (by simpa using hlt)] at hj
    cases hj
    cases hw
  rw [List.getElem?_set_ne (fun z => e z.symm)] at hj
  by_cases e : j = i
  · subst e
    have hlt : j < ls.length := by
      have := (List.getElem?_eq_some_iff.mp hj).1
      simpa using this
    rw [List.getElem?_set_self hlt] at hj
    cases hj
    exact h'.2.2 (j, cv g v) List.mem_cons_self
  · rw [List.getElem?_set_ne (fun z => e z.symm)] at hj
    refine h'.2.2 (j, cv g w) (List.mem_cons_of_mem _ (List.mem_filter.mpr ⟨mem_prs.mpr ⟨j, w, hj, hw, by simp⟩, ?_⟩))
    have : ¬ (j + 1 = i ∧ w.category = 2) := by
      rintro ⟨a, b⟩
      have := hp w (by rw [← a]; simpa using hj) (by omega)
      omega
    simp [e, cv_cat]
    refine ⟨by assumption, Decidable.not_and_iff_or_not.mp this⟩
/-! the judgements -/
abbrev Qt : Type := Option Value → Sh → IV → RV → LV → Prop
def rmA (d mc ms : Nat) : Room := { frames := d, cells := mc, slots := ms, locals := 100 * d }
def Cx (g : GS) (M : MI) (p : Program) (s : State) (m : MethodId) (args : Array Value) (meth : Method) (c : Code) : Prop :=
  p.tables.exec = Jvm.exec ∧ c.code = M.2.1 ∧ meth.sig.returnType = M.2.2.2 ∧ c.maxLocals = M.2.2.1 ∧ s.vm.findClass M.1.cls = some m.cls ∧ meth.name = M.1.name ∧ (∀ w ∈ gtb, w.before args s = true) ∧ meth.locks = false ∧ g.s0.WarmedH s.vm
def QcA (g : GS) (Q : Qt) : Array Value → State → Outcome → State → Prop := fun _ _ oc t => ∃ (r : Option Value) (Γ : Sh) (iv : IV) (rv : RV) (lv : LV), oc = .returned (r.map (cv g)) ∧ Q r Γ iv rv lv ∧ RepH g Γ iv rv lv t.heap
def PcA (g : GS) (as : List Value) (Γ : Sh) (iv : IV) (rv : RV) (lv : LV) : Array Value → State → Prop := fun v U => v = (as.map (cv g)).toArray ∧ g.s0.WarmedH U.vm ∧ RepH g Γ iv rv lv U.heap
/-- from here the method comes to its end, with Q -/
def Rn (g : GS) (l : Launch) (M : MI) (R : Room) (Q : Qt) (k n pc : Nat) (ls st : List Value) (Γ : Sh) (iv : IV) (rv : RV) (lv : LV) : Prop :=
  ∀ (p : Program) (e : Env) (s : State) (m : MethodId) (args : Array Value) (below : List Frame) (meth : Method) (c : Code) (H : Heap) (locs : List Loc) (lsC : Array Slot),
    GoodG g → Cx g M p s m args meth c → RepH g Γ iv rv lv H → (∀ q ∈ locs, gbase g ≤ q.base) → lsOK g M.2.2.1 ls lsC →
    W p l e R s m args below meth c H locs k n (MQ below (QcA g Q) args s R.cells R.slots (oldA g)) (F0 m pc lsC (st.map (cv g)))
/-- a method's contract at these arguments and this heap -/
def Ct (g : GS) (l : Launch) (M : MI) (d mc ms : Nat) (as : List Value) (Γ : Sh) (iv : IV) (rv : RV) (lv : LV) (Q : Qt) : Prop :=
  GoodG g → Met l M.1 (Cond.code M.1 M.2.1 M.2.2.1 M.2.2.2 :: gtb) (rmA d mc ms) (PcA g as Γ iv rv lv) (QcA g Q) mc ms (oldA g)
def ent : List Value → Nat → List Value
  | [], n => List.replicate n (.retAddr 0)
  | v :: vs, n => if v.category = 2 then v :: .retAddr 0 :: ent vs (n - 2) else v :: ent vs (n - 1)
theorem ent_args {g : GS} : ∀ (as : List Value) (n i j : Nat) (v : Value), (ent as n)[j]? = some v → isD v = false → (i + j, cv g v) ∈ lv_args i (as.map (cv g)) := by
  intro as
  induction as with
  | nil =>
    intro n i j v h hd
    unfold ent at h
    rw [List.getElem?_replicate] at h
    split at h
    · cases h; cases hd
    · cases h
  | cons a as ih =>
    intro n i j v h hd
    unfold ent at h
    rw [List.map_cons, lv_args, cv_cat]
    split at h
    · rename_i hc
      match j, h with
      | 0, h => simp at h; subst h; exact List.mem_cons_self
      | 1, h => simp at h; subst h; cases hd
      | j + 2, h =>
        have := ih (n - 2) (i + 2) j v (by simpa using h) hd
        refine List.mem_cons_of_mem _ ?_
        rw [if_pos hc, show i + (j + 2) = i + 2 + j by omega]
        exact this
    · rename_i hc
      match j, h with
      | 0, h => simp at h; subst h; exact List.mem_cons_self
      | j + 1, h =>
        have := ih (n - 1) (i + 1) j v (by simpa using h) hd
        refine List.mem_cons_of_mem _ ?_
        rw [if_neg hc, show i + (j + 1) = i + 1 + j by omega]
        exact this
theorem lg_sl_len {g : GS} : ∀ (as : List Value), (lg_sl (as.map (cv g))).length = (lg_sl as).length := by
  intro as
  induction as with
  | nil => rfl
  | cons a as ih =>
    unfold lg_sl at ih ⊢
    rw [List.map_cons, List.flatMap_cons, List.flatMap_cons, List.length_append, List.length_append, ih, cv_cat]
    split <;> rfl
theorem Ct.of {g : GS} {l : Launch} {M : MI} {d mc ms : Nat} {as : List Value} {Γ : Sh} {iv : IV} {rv : RV} {lv : LV} {Q : Qt} (hy : plainName M.1.cls = true) (hlen : (lg_sl as).length ≤ M.2.2.1) (hent : (ent as M.2.2.1).length ≤ M.2.2.1)
    (h : Rn g l M (rmA d mc ms) Q 0 0 0 (ent as M.2.2.1) [] Γ iv rv lv) : Ct g l M d mc ms as Γ iv rv lv Q := by
  intro hG
  refine Met.ofW (cc := M.2.1) (maxL := M.2.2.1) (ret := M.2.2.2) hy rfl ?_
  intro p e s m args below meth c s₁ B hml hv
  obtain ⟨rfl, hw, hrep⟩ := hv
  have hts := atoms_spec (ws := Cond.code M.1 M.2.1 M.2.2.1 M.2.2.2 :: gtb) B.pre
  have hl := lv_entry (as.map (cv g)) (n := M.2.2.1) (by rw [lg_sl_len]; exact hlen)
  rw [lg_entry_eq]
  refine h p e s m _ below meth c s.heap [] _ hG ⟨B.exec, B.bytes, B.returns, hml, findClass_of_methodNamed B.named, (name_of_methodNamed B.named B.method).1, fun w hw => hts w (List.mem_cons_of_mem _ hw), B.notSynchronized, hw⟩ hrep (fun _ h => by cases h) ⟨hl.1, hl.2.1, hent, fun i v hi hd => ?_⟩
  have := hl.2.2 (0 + i, cv g v) (ent_args as _ 0 i v hi hd)
  simpa using this
theorem Ct.mono {g : GS} {l : Launch} {M : MI} {d mc ms : Nat} {as : List Value} {Γ : Sh} {iv : IV} {rv : RV} {lv : LV} {Q Q' : Qt} (h : Ct g l M d mc ms as Γ iv rv lv Q) (hq : ∀ r Γ iv rv lv, Q r Γ iv rv lv → Q' r Γ iv rv lv) : Ct g l M d mc ms as Γ iv rv lv Q' := by
  intro hG p e ha hc hk s m args below hf hpre hP hK
  obtain ⟨t, o, h1, h2, h3, ⟨r, Γ', iv', rv', lv', e1, e2, e3⟩, h4⟩ := h hG p e ha hc hk s m args below hf hpre hP hK
  exact ⟨t, o, h1, h2, h3, ⟨r, Γ', iv', rv', lv', e1, hq _ _ _ _ _ e2, e3⟩, h4⟩
end
section
/-! RULES: goal first, an instruction a rule -/
section RULES
variable {g : GS} {l : Launch} {M : MI} {R : Room} {Q : Qt} {k n pc : Nat} {ls st : List Value} {Γ : Sh} {iv : IV} {rv : RV} {lv : LV}
theorem rn_iadd {x y : Int32} (hd : decode M.2.1 pc = .ok (.iadd, 1)) (kk : Rn g l M R Q k n (pc + 1) ls (.int (x + y) :: st) Γ iv rv lv) : Rn g l M R Q k n pc ls (.int y :: .int x :: st) Γ iv rv lv := by
  intro p e s m args below meth c H locs lsC hG cx hR hlo hls
  have kk := kk p e s m args below meth c H locs lsC hG cx hR hlo hls
  obtain ⟨hx, hb, hr, hml, hown, hnm, hts, hlk, hwm⟩ := id cx
  exact lv_iadd hx hb hd kk
theorem rn_isub {x y : Int32} (hd : decode M.2.1 pc = .ok (.isub, 1)) (kk : Rn g l M R Q k n (pc + 1) ls (.int (x - y) :: st) Γ iv rv lv) : Rn g l M R Q k n pc ls (.int y :: .int x :: st) Γ iv rv lv := by
  intro p e s m args below meth c H locs lsC hG cx hR hlo hls
  have kk := kk p e s m args below meth c H locs lsC hG cx hR hlo hls
  obtain ⟨hx, hb, hr, hml, hown, hnm, hts, hlk, hwm⟩ := id cx
  exact lv_isub hx hb hd kk
theorem rn_imul {x y : Int32} (hd : decode M.2.1 pc = .ok (.imul, 1)) (kk : Rn g l M R Q k n (pc + 1) ls (.int (x * y) :: st) Γ iv rv lv) : Rn g l M R Q k n pc ls (.int y :: .int x :: st) Γ iv rv lv := by
  intro p e s m args below meth c H locs lsC hG cx hR hlo hls
  have kk := kk p e s m args below meth c H locs lsC hG cx hR hlo hls
  obtain ⟨hx, hb, hr, hml, hown, hnm, hts, hlk, hwm⟩ := id cx
  exact lv_imul hx hb hd kk
theorem rn_iand {x y : Int32} (hd : decode M.2.1 pc = .ok (.iand, 1)) (kk : Rn g l M R Q k n (pc + 1) ls (.int (x &&& y) :: st) Γ iv rv lv) : Rn g l M R Q k n pc ls (.int y :: .int x :: st) Γ iv rv lv := by
  intro p e s m args below meth c H locs lsC hG cx hR hlo hls
  have kk := kk p e s m args below meth c H locs lsC hG cx hR hlo hls
  obtain ⟨hx, hb, hr, hml, hown, hnm, hts, hlk, hwm⟩ := id cx
  exact lv_iand hx hb hd kk
theorem rn_ior {x y : Int32} (hd : decode M.2.1 pc = .ok (.ior, 1)) (kk : Rn g l M R Q k n (pc + 1) ls (.int (x ||| y) :: st) Γ iv rv lv) : Rn g l M R Q k n pc ls (.int y :: .int x :: st) Γ iv rv lv := by
  intro p e s m args below meth c H locs lsC hG cx hR hlo hls
  have kk := kk p e s m args below meth c H locs lsC hG cx hR hlo hls
  obtain ⟨hx, hb, hr, hml, hown, hnm, hts, hlk, hwm⟩ := id cx
  exact lv_ior hx hb hd kk
theorem rn_idiv {x y : Int32} (hd : decode M.2.1 pc = .ok (.idiv, 1)) (hne : ¬ y = 0) (kk : Rn g l M R Q k n (pc + 1) ls (.int (x / y) :: st) Γ iv rv lv) : Rn g l M R Q k n pc ls (.int y :: .int x :: st) Γ iv rv lv := by
  intro p e s m args below meth c H locs lsC hG cx hR hlo hls
  have kk := kk p e s m args below meth c H locs lsC hG cx hR hlo hls
  obtain ⟨hx, hb, hr, hml, hown, hnm, hts, hlk, hwm⟩ := id cx
  exact lv_idiv hx hb hd hne kk
theorem rn_irem {x y : Int32} (hd : decode M.2.1 pc = .ok (.irem, 1)) (hne : ¬ y = 0) (kk : Rn g l M R Q k n (pc + 1) ls (.int (x - x / y * y) :: st) Γ iv rv lv) : Rn g l M R Q k n pc ls (.int y :: .int x :: st) Γ iv rv lv := by
  intro p e s m args below meth c H locs lsC hG cx hR hlo hls
  have kk := kk p e s m args below meth c H locs lsC hG cx hR hlo hls
  obtain ⟨hx, hb, hr, hml, hown, hnm, hts, hlk, hwm⟩ := id cx
  exact lv_irem hx hb hd hne kk
theorem rn_ineg {x : Int32} (hd : decode M.2.1 pc = .ok (.ineg, 1)) (kk : Rn g l M R Q k n (pc + 1) ls (.int (-x) :: st) Γ iv rv lv) : Rn g l M R Q k n pc ls (.int x :: st) Γ iv rv lv := by
  intro p e s m args below meth c H locs lsC hG cx hR hlo hls
  have kk := kk p e s m args below meth c H locs lsC hG cx hR hlo hls
  obtain ⟨hx, hb, hr, hml, hown, hnm, hts, hlk, hwm⟩ := id cx
  exact lv_ineg hx hb hd kk
theorem rn_ishl {x y : Int32} (hd : decode M.2.1 pc = .ok (.ishl, 1)) (kk : Rn g l M R Q k n (pc + 1) ls (.int (x <<< (y &&& 31)) :: st) Γ iv rv lv) : Rn g l M R Q k n pc ls (.int y :: .int x :: st) Γ iv rv lv := by
  intro p e s m args below meth c H locs lsC hG cx hR hlo hls
  have kk := kk p e s m args below meth c H locs lsC hG cx hR hlo hls
  obtain ⟨hx, hb, hr, hml, hown, hnm, hts, hlk, hwm⟩ := id cx
  exact lv_ishl hx hb hd kk
theorem rn_iushr {x y : Int32} (hd : decode M.2.1 pc = .ok (.iushr, 1)) (kk : Rn g l M R Q k n (pc + 1) ls (.int ((x.toUInt32 >>> (y.toUInt32 &&& Int32.toUInt32 31)).toInt32) :: st) Γ iv rv lv) : Rn g l M R Q k n pc ls (.int y :: .int x :: st) Γ iv rv lv := by
  intro p e s m args below meth c H locs lsC hG cx hR hlo hls
  have kk := kk p e s m args below meth c H locs lsC hG cx hR hlo hls
  obtain ⟨hx, hb, hr, hml, hown, hnm, hts, hlk, hwm⟩ := id cx
  exact lv_iushr hx hb hd rfl kk
theorem rn_ishr {x y : Int32} (hd : decode M.2.1 pc = .ok (.ishr, 1)) (kk : Rn g l M R Q k n (pc + 1) ls (.int (x >>> (y &&& 31)) :: st) Γ iv rv lv) : Rn g l M R Q k n pc ls (.int y :: .int x :: st) Γ iv rv lv := by
  intro p e s m args below meth c H locs lsC hG cx hR hlo hls
  have kk := kk p e s m args below meth c H locs lsC hG cx hR hlo hls
  obtain ⟨hx, hb, hr, hml, hown, hnm, hts, hlk, hwm⟩ := id cx
  exact lv_ishr hx hb hd kk
theorem rn_ladd {x y : Int64} (hd : decode M.2.1 pc = .ok (.ladd, 1)) (kk : Rn g l M R Q k n (pc + 1) ls (.long (x + y) :: st) Γ iv rv lv) : Rn g l M R Q k n pc ls (.long y :: .long x :: st) Γ iv rv lv := by
  intro p e s m args below meth c H locs lsC hG cx hR hlo hls
  have kk := kk p e s m args below meth c H locs lsC hG cx hR hlo hls
  obtain ⟨hx, hb, hr, hml, hown, hnm, hts, hlk, hwm⟩ := id cx
  exact lv_ladd hx hb hd kk
theorem rn_lsub {x y : Int64} (hd : decode M.2.1 pc = .ok (.lsub, 1)) (kk : Rn g l M R Q k n (pc + 1) ls (.long (x - y) :: st) Γ iv rv lv) : Rn g l M R Q k n pc ls (.long y :: .long x :: st) Γ iv rv lv := by
  intro p e s m args below meth c H locs lsC hG cx hR hlo hls
  have kk := kk p e s m args below meth c H locs lsC hG cx hR hlo hls
  obtain ⟨hx, hb, hr, hml, hown, hnm, hts, hlk, hwm⟩ := id cx
  exact lv_lsub hx hb hd kk
theorem rn_lmul {x y : Int64} (hd : decode M.2.1 pc = .ok (.lmul, 1)) (kk : Rn g l M R Q k n (pc + 1) ls (.long (x * y) :: st) Γ iv rv lv) : Rn g l M R Q k n pc ls (.long y :: .long x :: st) Γ iv rv lv := by
  intro p e s m args below meth c H locs lsC hG cx hR hlo hls
  have kk := kk p e s m args below meth c H locs lsC hG cx hR hlo hls
  obtain ⟨hx, hb, hr, hml, hown, hnm, hts, hlk, hwm⟩ := id cx
  exact lv_lmul hx hb hd kk
theorem rn_ldiv {x y : Int64} (hd : decode M.2.1 pc = .ok (.ldiv, 1)) (hne : ¬ y = 0) (kk : Rn g l M R Q k n (pc + 1) ls (.long (x / y) :: st) Γ iv rv lv) : Rn g l M R Q k n pc ls (.long y :: .long x :: st) Γ iv rv lv := by
  intro p e s m args below meth c H locs lsC hG cx hR hlo hls
  have kk := kk p e s m args below meth c H locs lsC hG cx hR hlo hls
  obtain ⟨hx, hb, hr, hml, hown, hnm, hts, hlk, hwm⟩ := id cx
  exact lv_ldiv hx hb hd hne kk
theorem rn_lrem {x y : Int64} (hd : decode M.2.1 pc = .ok (.lrem, 1)) (hne : ¬ y = 0) (kk : Rn g l M R Q k n (pc + 1) ls (.long (x - x / y * y) :: st) Γ iv rv lv) : Rn g l M R Q k n pc ls (.long y :: .long x :: st) Γ iv rv lv := by
  intro p e s m args below meth c H locs lsC hG cx hR hlo hls
  have kk := kk p e s m args below meth c H locs lsC hG cx hR hlo hls
  obtain ⟨hx, hb, hr, hml, hown, hnm, hts, hlk, hwm⟩ := id cx
  exact lv_lrem hx hb hd hne kk
theorem rn_lcmp {x y : Int64} (hd : decode M.2.1 pc = .ok (.lcmp, 1)) (kk : Rn g l M R Q k n (pc + 1) ls (.int (lg_cmp x y) :: st) Γ iv rv lv) : Rn g l M R Q k n pc ls (.long y :: .long x :: st) Γ iv rv lv := by
  intro p e s m args below meth c H locs lsC hG cx hR hlo hls
  have kk := kk p e s m args below meth c H locs lsC hG cx hR hlo hls
  obtain ⟨hx, hb, hr, hml, hown, hnm, hts, hlk, hwm⟩ := id cx
  exact W.lcmp hx hb hd kk
theorem rn_i2l {x : Int32} (hd : decode M.2.1 pc = .ok (.i2l, 1)) (kk : Rn g l M R Q k n (pc + 1) ls (.long x.toInt64 :: st) Γ iv rv lv) : Rn g l M R Q k n pc ls (.int x :: st) Γ iv rv lv := by
  intro p e s m args below meth c H locs lsC hG cx hR hlo hls
  have kk := kk p e s m args below meth c H locs lsC hG cx hR hlo hls
  obtain ⟨hx, hb, hr, hml, hown, hnm, hts, hlk, hwm⟩ := id cx
  exact lv_i2l hx hb hd rfl kk
theorem rn_l2i {x : Int64} (hd : decode M.2.1 pc = .ok (.l2i, 1)) (kk : Rn g l M R Q k n (pc + 1) ls (.int x.toInt32 :: st) Γ iv rv lv) : Rn g l M R Q k n pc ls (.long x :: st) Γ iv rv lv := by
  intro p e s m args below meth c H locs lsC hG cx hR hlo hls
  have kk := kk p e s m args below meth c H locs lsC hG cx hR hlo hls
  obtain ⟨hx, hb, hr, hml, hown, hnm, hts, hlk, hwm⟩ := id cx
  exact lv_l2i hx hb hd rfl kk
theorem rn_i2b {x : Int32} (hd : decode M.2.1 pc = .ok (.i2b, 1)) (kk : Rn g l M R Q k n (pc + 1) ls (.int x.toInt8.toInt32 :: st) Γ iv rv lv) : Rn g l M R Q k n pc ls (.int x :: st) Γ iv rv lv := by
  intro p e s m args below meth c H locs lsC hG cx hR hlo hls
  have kk := kk p e s m args below meth c H locs lsC hG cx hR hlo hls
  obtain ⟨hx, hb, hr, hml, hown, hnm, hts, hlk, hwm⟩ := id cx
  exact lv_i2b hx hb hd rfl kk
theorem rn_i2s {x : Int32} (hd : decode M.2.1 pc = .ok (.i2s, 1)) (kk : Rn g l M R Q k n (pc + 1) ls (.int x.toInt16.toInt32 :: st) Γ iv rv lv) : Rn g l M R Q k n pc ls (.int x :: st) Γ iv rv lv := by
  intro p e s m args below meth c H locs lsC hG cx hR hlo hls
  have kk := kk p e s m args below meth c H locs lsC hG cx hR hlo hls
  obtain ⟨hx, hb, hr, hml, hown, hnm, hts, hlk, hwm⟩ := id cx
  exact lv_i2s hx hb hd rfl kk
theorem rn_i2c {x : Int32} (hd : decode M.2.1 pc = .ok (.i2c, 1)) (kk : Rn g l M R Q k n (pc + 1) ls (.int (x.toUInt32 % 65536).toInt32 :: st) Γ iv rv lv) : Rn g l M R Q k n pc ls (.int x :: st) Γ iv rv lv := by
  intro p e s m args below meth c H locs lsC hG cx hR hlo hls
  have kk := kk p e s m args below meth c H locs lsC hG cx hR hlo hls
  obtain ⟨hx, hb, hr, hml, hown, hnm, hts, hlk, hwm⟩ := id cx
  exact lv_i2c hx hb hd rfl kk
theorem rn_iconst {z : Int} (v : Int32) (hd : decode M.2.1 pc = .ok (.iconst z, 1)) (hv : Int32.ofInt z = v) (kk : Rn g l M R Q k n (pc + 1) ls (.int v :: st) Γ iv rv lv) : Rn g l M R Q k n pc ls (st) Γ iv rv lv := by
  intro p e s m args below meth c H locs lsC hG cx hR hlo hls
  have kk := kk p e s m args below meth c H locs lsC hG cx hR hlo hls
  obtain ⟨hx, hb, hr, hml, hown, hnm, hts, hlk, hwm⟩ := id cx
  exact lv_iconst hx hb hd hv kk
theorem rn_bipush {z : Int} (v : Int32) (hd : decode M.2.1 pc = .ok (.bipush z, 2)) (hv : (Int8.ofInt z).toInt32 = v) (kk : Rn g l M R Q k n (pc + 2) ls (.int v :: st) Γ iv rv lv) : Rn g l M R Q k n pc ls (st) Γ iv rv lv := by
  intro p e s m args below meth c H locs lsC hG cx hR hlo hls
  have kk := kk p e s m args below meth c H locs lsC hG cx hR hlo hls
  obtain ⟨hx, hb, hr, hml, hown, hnm, hts, hlk, hwm⟩ := id cx
  exact lv_bipush hx hb hd hv kk
theorem rn_sipush {z : Int} (v : Int32) (hd : decode M.2.1 pc = .ok (.sipush z, 3)) (hv : (Int16.ofInt z).toInt32 = v) (kk : Rn g l M R Q k n (pc + 3) ls (.int v :: st) Γ iv rv lv) : Rn g l M R Q k n pc ls (st) Γ iv rv lv := by
  intro p e s m args below meth c H locs lsC hG cx hR hlo hls
  have kk := kk p e s m args below meth c H locs lsC hG cx hR hlo hls
  obtain ⟨hx, hb, hr, hml, hown, hnm, hts, hlk, hwm⟩ := id cx
  exact lv_sipush hx hb hd hv kk
theorem rn_lconst {z : Fin 2} (v : Int64) (hd : decode M.2.1 pc = .ok (.lconst z, 1)) (hv : Int64.ofNat (z : Nat) = v) (kk : Rn g l M R Q k n (pc + 1) ls (.long v :: st) Γ iv rv lv) : Rn g l M R Q k n pc ls (st) Γ iv rv lv := by
  intro p e s m args below meth c H locs lsC hG cx hR hlo hls
  have kk := kk p e s m args below meth c H locs lsC hG cx hR hlo hls
  obtain ⟨hx, hb, hr, hml, hown, hnm, hts, hlk, hwm⟩ := id cx
  exact lv_lconst hx hb hd hv kk
theorem rn_null  (hd : decode M.2.1 pc = .ok (.aconst_null, 1)) (kk : Rn g l M R Q k n (pc + 1) ls (.ref 0 :: st) Γ iv rv lv) : Rn g l M R Q k n pc ls (st) Γ iv rv lv := by
  intro p e s m args below meth c H locs lsC hG cx hR hlo hls
  have kk := kk p e s m args below meth c H locs lsC hG cx hR hlo hls
  obtain ⟨hx, hb, hr, hml, hown, hnm, hts, hlk, hwm⟩ := id cx
  exact lv_null hx hb hd kk
theorem rn_dup {v : Value} (hd : decode M.2.1 pc = .ok (.dup, 1)) (hc : v.category = 1) (kk : Rn g l M R Q k n (pc + 1) ls (v :: v :: st) Γ iv rv lv) : Rn g l M R Q k n pc ls (v :: st) Γ iv rv lv := by
  intro p e s m args below meth c H locs lsC hG cx hR hlo hls
  have kk := kk p e s m args below meth c H locs lsC hG cx hR hlo hls
  obtain ⟨hx, hb, hr, hml, hown, hnm, hts, hlk, hwm⟩ := id cx
  exact lv_dup hx hb hd (by rw [cv_cat]; exact hc) kk
theorem rn_pop {v : Value} (hd : decode M.2.1 pc = .ok (.pop, 1)) (hc : v.category = 1) (kk : Rn g l M R Q k n (pc + 1) ls (st) Γ iv rv lv) : Rn g l M R Q k n pc ls (v :: st) Γ iv rv lv := by
  intro p e s m args below meth c H locs lsC hG cx hR hlo hls
  have kk := kk p e s m args below meth c H locs lsC hG cx hR hlo hls
  obtain ⟨hx, hb, hr, hml, hown, hnm, hts, hlk, hwm⟩ := id cx
  exact lv_pop hx hb hd (by rw [cv_cat]; exact hc) kk
theorem rn_dup2 {v w : Value} (hd : decode M.2.1 pc = .ok (.dup2, 1)) (hc : v.category = 1) (hc2 : w.category = 1) (kk : Rn g l M R Q k n (pc + 1) ls (v :: w :: v :: w :: st) Γ iv rv lv) : Rn g l M R Q k n pc ls (v :: w :: st) Γ iv rv lv := by
  intro p e s m args below meth c H locs lsC hG cx hR hlo hls
  have kk := kk p e s m args below meth c H locs lsC hG cx hR hlo hls
  obtain ⟨hx, hb, hr, hml, hown, hnm, hts, hlk, hwm⟩ := id cx
  exact lv_dup2_11 hx hb hd (by rw [cv_cat]; exact hc) (by rw [cv_cat]; exact hc2) kk
theorem rn_ldc {index : Nat} {v : Int32} (hd : decode M.2.1 pc = .ok (.ldc index, 2)) (hw : Cond.constant M.1.cls index v ∈ gtb) (kk : Rn g l M R Q k n (pc + 2) ls (.int v :: st) Γ iv rv lv) : Rn g l M R Q k n pc ls (st) Γ iv rv lv := by
  intro p e s m args below meth c H locs lsC hG cx hR hlo hls
  have kk := kk p e s m args below meth c H locs lsC hG cx hR hlo hls
  obtain ⟨hx, hb, hr, hml, hown, hnm, hts, hlk, hwm⟩ := id cx
  exact lv_ldc hx hb hown (hts _ hw) hd kk
theorem rn_ldcw {index : Nat} {v : Int32} (hd : decode M.2.1 pc = .ok (.ldc_w index, 3)) (hw : Cond.constant M.1.cls index v ∈ gtb) (kk : Rn g l M R Q k n (pc + 3) ls (.int v :: st) Γ iv rv lv) : Rn g l M R Q k n pc ls (st) Γ iv rv lv := by
  intro p e s m args below meth c H locs lsC hG cx hR hlo hls
  have kk := kk p e s m args below meth c H locs lsC hG cx hR hlo hls
  obtain ⟨hx, hb, hr, hml, hown, hnm, hts, hlk, hwm⟩ := id cx
  exact lv_ldcw hx hb hown (hts _ hw) hd kk
theorem rn_ldc2 {index : Nat} {v : Int64} (hd : decode M.2.1 pc = .ok (.ldc2_w index, 3)) (hw : Cond.constantLong M.1.cls index v ∈ gtb) (kk : Rn g l M R Q k n (pc + 3) ls (.long v :: st) Γ iv rv lv) : Rn g l M R Q k n pc ls (st) Γ iv rv lv := by
  intro p e s m args below meth c H locs lsC hG cx hR hlo hls
  have kk := kk p e s m args below meth c H locs lsC hG cx hR hlo hls
  obtain ⟨hx, hb, hr, hml, hown, hnm, hts, hlk, hwm⟩ := id cx
  exact lv_ldc2 hx hb hown (hts _ hw) hd kk
theorem rn_if_eq {x : Int32} {off : Int} (tgt : Nat) (hd : decode M.2.1 pc = .ok (.ifCond .eq off, 3)) (ht : (pc : Int) + off = (tgt : Int)) (kt : x = 0 → Rn g l M R Q k n tgt ls st Γ iv rv lv) (kf : ¬ (x = 0) → Rn g l M R Q k n (pc + 3) ls st Γ iv rv lv) : Rn g l M R Q k n pc ls (.int x :: st) Γ iv rv lv := by
  intro p e s m args below meth c H locs lsC hG cx hR hlo hls
  obtain ⟨hx, hb, hr, hml, hown, hnm, hts, hlk, hwm⟩ := id cx
  refine lv_if_eq hx hb hd ht (fun h => kt ?_ p e s m args below meth c H locs lsC hG cx hR hlo hls) (fun h => kf ?_ p e s m args below meth c H locs lsC hG cx hR hlo hls) <;> first | exact h | exact Decidable.not_not.mp h
theorem rn_icmp_eq {x y : Int32} {off : Int} (tgt : Nat) (hd : decode M.2.1 pc = .ok (.if_icmp .eq off, 3)) (ht : (pc : Int) + off = (tgt : Int)) (kt : x = y → Rn g l M R Q k n tgt ls st Γ iv rv lv) (kf : ¬ (x = y) → Rn g l M R Q k n (pc + 3) ls st Γ iv rv lv) : Rn g l M R Q k n pc ls (.int y :: .int x :: st) Γ iv rv lv := by
  intro p e s m args below meth c H locs lsC hG cx hR hlo hls
  obtain ⟨hx, hb, hr, hml, hown, hnm, hts, hlk, hwm⟩ := id cx
  refine lv_icmp_eq hx hb hd ht (fun h => kt ?_ p e s m args below meth c H locs lsC hG cx hR hlo hls) (fun h => kf ?_ p e s m args below meth c H locs lsC hG cx hR hlo hls) <;> first | exact h | exact Decidable.not_not.mp h
theorem rn_if_ne {x : Int32} {off : Int} (tgt : Nat) (hd : decode M.2.1 pc = .ok (.ifCond .ne off, 3)) (ht : (pc : Int) + off = (tgt : Int)) (kt : ¬ x = 0 → Rn g l M R Q k n tgt ls st Γ iv rv lv) (kf : x = 0 → Rn g l M R Q k n (pc + 3) ls st Γ iv rv lv) : Rn g l M R Q k n pc ls (.int x :: st) Γ iv rv lv := by
  intro p e s m args below meth c H locs lsC hG cx hR hlo hls
  obtain ⟨hx, hb, hr, hml, hown, hnm, hts, hlk, hwm⟩ := id cx
  refine lv_if_ne hx hb hd ht (fun h => kt ?_ p e s m args below meth c H locs lsC hG cx hR hlo hls) (fun h => kf ?_ p e s m args below meth c H locs lsC hG cx hR hlo hls) <;> first | exact h | exact Decidable.not_not.mp h
theorem rn_icmp_ne {x y : Int32} {off : Int} (tgt : Nat) (hd : decode M.2.1 pc = .ok (.if_icmp .ne off, 3)) (ht : (pc : Int) + off = (tgt : Int)) (kt : ¬ x = y → Rn g l M R Q k n tgt ls st Γ iv rv lv) (kf : x = y → Rn g l M R Q k n (pc + 3) ls st Γ iv rv lv) : Rn g l M R Q k n pc ls (.int y :: .int x :: st) Γ iv rv lv := by
  intro p e s m args below meth c H locs lsC hG cx hR hlo hls
  obtain ⟨hx, hb, hr, hml, hown, hnm, hts, hlk, hwm⟩ := id cx
  refine lv_icmp_ne hx hb hd ht (fun h => kt ?_ p e s m args below meth c H locs lsC hG cx hR hlo hls) (fun h => kf ?_ p e s m args below meth c H locs lsC hG cx hR hlo hls) <;> first | exact h | exact Decidable.not_not.mp h
theorem rn_if_lt {x : Int32} {off : Int} (tgt : Nat) (hd : decode M.2.1 pc = .ok (.ifCond .lt off, 3)) (ht : (pc : Int) + off = (tgt : Int)) (kt : x < 0 → Rn g l M R Q k n tgt ls st Γ iv rv lv) (kf : ¬ (x < 0) → Rn g l M R Q k n (pc + 3) ls st Γ iv rv lv) : Rn g l M R Q k n pc ls (.int x :: st) Γ iv rv lv := by
  intro p e s m args below meth c H locs lsC hG cx hR hlo hls
  obtain ⟨hx, hb, hr, hml, hown, hnm, hts, hlk, hwm⟩ := id cx
  refine lv_if_lt hx hb hd ht (fun h => kt ?_ p e s m args below meth c H locs lsC hG cx hR hlo hls) (fun h => kf ?_ p e s m args below meth c H locs lsC hG cx hR hlo hls) <;> first | exact h | exact Decidable.not_not.mp h
theorem rn_icmp_lt {x y : Int32} {off : Int} (tgt : Nat) (hd : decode M.2.1 pc = .ok (.if_icmp .lt off, 3)) (ht : (pc : Int) + off = (tgt : Int)) (kt : x < y → Rn g l M R Q k n tgt ls st Γ iv rv lv) (kf : ¬ (x < y) → Rn g l M R Q k n (pc + 3) ls st Γ iv rv lv) : Rn g l M R Q k n pc ls (.int y :: .int x :: st) Γ iv rv lv := by
  intro p e s m args below meth c H locs lsC hG cx hR hlo hls
  obtain ⟨hx, hb, hr, hml, hown, hnm, hts, hlk, hwm⟩ := id cx
  refine lv_icmp_lt hx hb hd ht (fun h => kt ?_ p e s m args below meth c H locs lsC hG cx hR hlo hls) (fun h => kf ?_ p e s m args below meth c H locs lsC hG cx hR hlo hls) <;> first | exact h | exact Decidable.not_not.mp h
theorem rn_if_ge {x : Int32} {off : Int} (tgt : Nat) (hd : decode M.2.1 pc = .ok (.ifCond .ge off, 3)) (ht : (pc : Int) + off = (tgt : Int)) (kt : 0 ≤ x → Rn g l M R Q k n tgt ls st Γ iv rv lv) (kf : ¬ (0 ≤ x) → Rn g l M R Q k n (pc + 3) ls st Γ iv rv lv) : Rn g l M R Q k n pc ls (.int x :: st) Γ iv rv lv := by
  intro p e s m args below meth c H locs lsC hG cx hR hlo hls
  obtain ⟨hx, hb, hr, hml, hown, hnm, hts, hlk, hwm⟩ := id cx
  refine lv_if_ge hx hb hd ht (fun h => kt ?_ p e s m args below meth c H locs lsC hG cx hR hlo hls) (fun h => kf ?_ p e s m args below meth c H locs lsC hG cx hR hlo hls) <;> first | exact h | exact Decidable.not_not.mp h
theorem rn_icmp_ge {x y : Int32} {off : Int} (tgt : Nat) (hd : decode M.2.1 pc = .ok (.if_icmp .ge off, 3)) (ht : (pc : Int) + off = (tgt : Int)) (kt : y ≤ x → Rn g l M R Q k n tgt ls st Γ iv rv lv) (kf : ¬ (y ≤ x) → Rn g l M R Q k n (pc + 3) ls st Γ iv rv lv) : Rn g l M R Q k n pc ls (.int y :: .int x :: st) Γ iv rv lv := by
  intro p e s m args below meth c H locs lsC hG cx hR hlo hls
  obtain ⟨hx, hb, hr, hml, hown, hnm, hts, hlk, hwm⟩ := id cx
  refine lv_icmp_ge hx hb hd ht (fun h => kt ?_ p e s m args below meth c H locs lsC hG cx hR hlo hls) (fun h => kf ?_ p e s m args below meth c H locs lsC hG cx hR hlo hls) <;> first | exact h | exact Decidable.not_not.mp h
theorem rn_if_gt {x : Int32} {off : Int} (tgt : Nat) (hd : decode M.2.1 pc = .ok (.ifCond .gt off, 3)) (ht : (pc : Int) + off = (tgt : Int)) (kt : 0 < x → Rn g l M R Q k n tgt ls st Γ iv rv lv) (kf : ¬ (0 < x) → Rn g l M R Q k n (pc + 3) ls st Γ iv rv lv) : Rn g l M R Q k n pc ls (.int x :: st) Γ iv rv lv := by
  intro p e s m args below meth c H locs lsC hG cx hR hlo hls
  obtain ⟨hx, hb, hr, hml, hown, hnm, hts, hlk, hwm⟩ := id cx
  refine lv_if_gt hx hb hd ht (fun h => kt ?_ p e s m args below meth c H locs lsC hG cx hR hlo hls) (fun h => kf ?_ p e s m args below meth c H locs lsC hG cx hR hlo hls) <;> first | exact h | exact Decidable.not_not.mp h
theorem rn_icmp_gt {x y : Int32} {off : Int} (tgt : Nat) (hd : decode M.2.1 pc = .ok (.if_icmp .gt off, 3)) (ht : (pc : Int) + off = (tgt : Int)) (kt : y < x → Rn g l M R Q k n tgt ls st Γ iv rv lv) (kf : ¬ (y < x) → Rn g l M R Q k n (pc + 3) ls st Γ iv rv lv) : Rn g l M R Q k n pc ls (.int y :: .int x :: st) Γ iv rv lv := by
  intro p e s m args below meth c H locs lsC hG cx hR hlo hls
  obtain ⟨hx, hb, hr, hml, hown, hnm, hts, hlk, hwm⟩ := id cx
  refine lv_icmp_gt hx hb hd ht (fun h => kt ?_ p e s m args below meth c H locs lsC hG cx hR hlo hls) (fun h => kf ?_ p e s m args below meth c H locs lsC hG cx hR hlo hls) <;> first | exact h | exact Decidable.not_not.mp h
theorem rn_if_le {x : Int32} {off : Int} (tgt : Nat) (hd : decode M.2.1 pc = .ok (.ifCond .le off, 3)) (ht : (pc : Int) + off = (tgt : Int)) (kt : x ≤ 0 → Rn g l M R Q k n tgt ls st Γ iv rv lv) (kf : ¬ (x ≤ 0) → Rn g l M R Q k n (pc + 3) ls st Γ iv rv lv) : Rn g l M R Q k n pc ls (.int x :: st) Γ iv rv lv := by
  intro p e s m args below meth c H locs lsC hG cx hR hlo hls
  obtain ⟨hx, hb, hr, hml, hown, hnm, hts, hlk, hwm⟩ := id cx
  refine lv_if_le hx hb hd ht (fun h => kt ?_ p e s m args below meth c H locs lsC hG cx hR hlo hls) (fun h => kf ?_ p e s m args below meth c H locs lsC hG cx hR hlo hls) <;> first | exact h | exact Decidable.not_not.mp h
theorem rn_icmp_le {x y : Int32} {off : Int} (tgt : Nat) (hd : decode M.2.1 pc = .ok (.if_icmp .le off, 3)) (ht : (pc : Int) + off = (tgt : Int)) (kt : x ≤ y → Rn g l M R Q k n tgt ls st Γ iv rv lv) (kf : ¬ (x ≤ y) → Rn g l M R Q k n (pc + 3) ls st Γ iv rv lv) : Rn g l M R Q k n pc ls (.int y :: .int x :: st) Γ iv rv lv := by
  intro p e s m args below meth c H locs lsC hG cx hR hlo hls
  obtain ⟨hx, hb, hr, hml, hown, hnm, hts, hlk, hwm⟩ := id cx
  refine lv_icmp_le hx hb hd ht (fun h => kt ?_ p e s m args below meth c H locs lsC hG cx hR hlo hls) (fun h => kf ?_ p e s m args below meth c H locs lsC hG cx hR hlo hls) <;> first | exact h | exact Decidable.not_not.mp h
theorem rn_goto {off : Int} (tgt : Nat) (hd : decode M.2.1 pc = .ok (.goto off, 3)) (ht : (pc : Int) + off = (tgt : Int)) (kk : Rn g l M R Q k n tgt ls st Γ iv rv lv) : Rn g l M R Q k n pc ls st Γ iv rv lv := by
  intro p e s m args below meth c H locs lsC hG cx hR hlo hls
  have kk := kk p e s m args below meth c H locs lsC hG cx hR hlo hls
  obtain ⟨hx, hb, hr, hml, hown, hnm, hts, hlk, hwm⟩ := id cx
  exact lv_goto hx hb hd ht kk
theorem rn_ifnull {i : Nat} {off : Int} (tgt : Nat) (hd : decode M.2.1 pc = .ok (.ifnull off, 3)) (ht : (pc : Int) + off = (tgt : Int)) (kt : i = 0 → Rn g l M R Q k n tgt ls st Γ iv rv lv) (kf : ¬ (i = 0) → Rn g l M R Q k n (pc + 3) ls st Γ iv rv lv) : Rn g l M R Q k n pc ls (.ref i :: st) Γ iv rv lv := by
  intro p e s m args below meth c H locs lsC hG cx hR hlo hls
  obtain ⟨hx, hb, hr, hml, hown, hnm, hts, hlk, hwm⟩ := id cx
  by_cases hz : i = 0
  · subst hz
    exact lv_ifnullN hx hb hd ht (kt rfl p e s m args below meth c H locs lsC hG cx hR hlo hls)
  · rw [List.map_cons, cv_ref g (by omega)]
    exact lv_ifnull hx hb hd (kf hz p e s m args below meth c H locs lsC hG cx hR hlo hls)
theorem rn_ifnonnull {i : Nat} {off : Int} (tgt : Nat) (hd : decode M.2.1 pc = .ok (.ifnonnull off, 3)) (ht : (pc : Int) + off = (tgt : Int)) (kt : ¬ i = 0 → Rn g l M R Q k n tgt ls st Γ iv rv lv) (kf : ¬ (¬ i = 0) → Rn g l M R Q k n (pc + 3) ls st Γ iv rv lv) : Rn g l M R Q k n pc ls (.ref i :: st) Γ iv rv lv := by
  intro p e s m args below meth c H locs lsC hG cx hR hlo hls
  obtain ⟨hx, hb, hr, hml, hown, hnm, hts, hlk, hwm⟩ := id cx
  by_cases hz : i = 0
  · subst hz
    exact lv_ifnonnullN hx hb hd (kf (fun h => h rfl) p e s m args below meth c H locs lsC hG cx hR hlo hls)
  · rw [List.map_cons, cv_ref g (by omega)]
    exact lv_ifnonnull hx hb hd ht (kt hz p e s m args below meth c H locs lsC hG cx hR hlo hls)
theorem rn_tableOut {dflt lo hi : Int} {offs : Array Int} {len : Nat} {x : Int32} (tgt : Nat) (hd : decode M.2.1 pc = .ok (.tableswitch dflt lo hi offs, len)) (h : x.toInt < lo ∨ hi < x.toInt) (ht : (pc : Int) + dflt = (tgt : Int)) (kk : Rn g l M R Q k n tgt ls st Γ iv rv lv) : Rn g l M R Q k n pc ls (.int x :: st) Γ iv rv lv := by
  intro p e s m args below meth c H locs lsC hG cx hR hlo hls
  have kk := kk p e s m args below meth c H locs lsC hG cx hR hlo hls
  obtain ⟨hx, hb, hr, hml, hown, hnm, hts, hlk, hwm⟩ := id cx
  exact lv_tableOut hx hb hd h ht kk
theorem rn_tableIn {dflt lo hi : Int} {offs : Array Int} {len : Nat} {x : Int32} {off : Int} (tgt : Nat) (hd : decode M.2.1 pc = .ok (.tableswitch dflt lo hi offs, len)) (h1 : ¬ x.toInt < lo) (h2 : ¬ hi < x.toInt) (ho : offs[(x.toInt - lo).toNat]? = some off) (ht : (pc : Int) + off = (tgt : Int)) (kk : Rn g l M R Q k n tgt ls st Γ iv rv lv) : Rn g l M R Q k n pc ls (.int x :: st) Γ iv rv lv := by
  intro p e s m args below meth c H locs lsC hG cx hR hlo hls
  have kk := kk p e s m args below meth c H locs lsC hG cx hR hlo hls
  obtain ⟨hx, hb, hr, hml, hown, hnm, hts, hlk, hwm⟩ := id cx
  exact lv_tableIn hx hb hd h1 h2 ho ht kk
theorem rn_iload_n {i : Nat} {q : Fin 4} {x : Int32} (hd : decode M.2.1 pc = .ok (.iload_n q, 1)) (hi : (q : Nat) = i) (hv : ls[i]? = some (.int x)) (kk : Rn g l M R Q k n (pc + 1) ls (.int x :: st) Γ iv rv lv) : Rn g l M R Q k n pc ls st Γ iv rv lv := by
  intro p e s m args below meth c H locs lsC hG cx hR hlo hls
  have kk := kk p e s m args below meth c H locs lsC hG cx hR hlo hls
  obtain ⟨hx, hb, hr, hml, hown, hnm, hts, hlk, hwm⟩ := id cx
  exact lv_iload_n hx hb hd hi (hls.at hv rfl) kk
theorem rn_iload {i : Nat}  {x : Int32} (hd : decode M.2.1 pc = .ok (.iload i, 2)) (hv : ls[i]? = some (.int x)) (kk : Rn g l M R Q k n (pc + 2) ls (.int x :: st) Γ iv rv lv) : Rn g l M R Q k n pc ls st Γ iv rv lv := by
  intro p e s m args below meth c H locs lsC hG cx hR hlo hls
  have kk := kk p e s m args below meth c H locs lsC hG cx hR hlo hls
  obtain ⟨hx, hb, hr, hml, hown, hnm, hts, hlk, hwm⟩ := id cx
  exact lv_iload hx hb hd (hls.at hv rfl) kk
theorem rn_istore_n {i : Nat} {q : Fin 4} {x : Int32} (hd : decode M.2.1 pc = .ok (.istore_n q, 1)) (hi : (q : Nat) = i) (hn : i < ls.length) (hp : ∀ w, ls[i - 1]? = some w → 0 < i → w.category = 1) (kk : Rn g l M R Q k n (pc + 1) (ls.set i (.int x)) st Γ iv rv lv) : Rn g l M R Q k n pc ls (.int x :: st) Γ iv rv lv := by
  intro p e s m args below meth c H locs lsC hG cx hR hlo hls
  obtain ⟨hx, hb, hr, hml, hown, hnm, hts, hlk, hwm⟩ := id cx
  exact lv_istore_n hx hb hd hi hls.has (Nat.lt_of_lt_of_le hn hls.2.2.1) rfl (fun ls2 h => kk p e s m args below meth c H locs ls2 hG cx hR hlo (hls.store (v := .int x) hp h))
theorem rn_istore {i : Nat}  {x : Int32} (hd : decode M.2.1 pc = .ok (.istore i, 2)) (hn : i < ls.length) (hp : ∀ w, ls[i - 1]? = some w → 0 < i → w.category = 1) (kk : Rn g l M R Q k n (pc + 2) (ls.set i (.int x)) st Γ iv rv lv) : Rn g l M R Q k n pc ls (.int x :: st) Γ iv rv lv := by
  intro p e s m args below meth c H locs lsC hG cx hR hlo hls
  obtain ⟨hx, hb, hr, hml, hown, hnm, hts, hlk, hwm⟩ := id cx
  exact lv_istore hx hb hd hls.has (Nat.lt_of_lt_of_le hn hls.2.2.1) rfl (fun ls2 h => kk p e s m args below meth c H locs ls2 hG cx hR hlo (hls.store (v := .int x) hp h))
theorem rn_lload_n {i : Nat} {q : Fin 4} {x : Int64} (hd : decode M.2.1 pc = .ok (.lload_n q, 1)) (hi : (q : Nat) = i) (hv : ls[i]? = some (.long x)) (kk : Rn g l M R Q k n (pc + 1) ls (.long x :: st) Γ iv rv lv) : Rn g l M R Q k n pc ls st Γ iv rv lv := by
  intro p e s m args below meth c H locs lsC hG cx hR hlo hls
  have kk := kk p e s m args below meth c H locs lsC hG cx hR hlo hls
  obtain ⟨hx, hb, hr, hml, hown, hnm, hts, hlk, hwm⟩ := id cx
  exact lv_lload_n hx hb hd hi (hls.at hv rfl) kk
theorem rn_lload {i : Nat}  {x : Int64} (hd : decode M.2.1 pc = .ok (.lload i, 2)) (hv : ls[i]? = some (.long x)) (kk : Rn g l M R Q k n (pc + 2) ls (.long x :: st) Γ iv rv lv) : Rn g l M R Q k n pc ls st Γ iv rv lv := by
  intro p e s m args below meth c H locs lsC hG cx hR hlo hls
  have kk := kk p e s m args below meth c H locs lsC hG cx hR hlo hls
  obtain ⟨hx, hb, hr, hml, hown, hnm, hts, hlk, hwm⟩ := id cx
  exact lv_lload hx hb hd (hls.at hv rfl) kk
theorem rn_lstore_n {i : Nat} {q : Fin 4} {x : Int64} (hd : decode M.2.1 pc = .ok (.lstore_n q, 1)) (hi : (q : Nat) = i) (hn : i + 1 < ls.length) (hp : ∀ w, ls[i - 1]? = some w → 0 < i → w.category = 1) (kk : Rn g l M R Q k n (pc + 1) ((ls.set i (.long x)).set (i + 1) (.retAddr 0)) st Γ iv rv lv) : Rn g l M R Q k n pc ls (.long x :: st) Γ iv rv lv := by
  intro p e s m args below meth c H locs lsC hG cx hR hlo hls
  obtain ⟨hx, hb, hr, hml, hown, hnm, hts, hlk, hwm⟩ := id cx
  exact lv_lstore_n hx hb hd hi hls.has (Nat.lt_of_lt_of_le hn hls.2.2.1) rfl (fun ls2 h => kk p e s m args below meth c H locs ls2 hG cx hR hlo (hls.store2 (v := .long x) (z := 0) hp h))
theorem rn_lstore {i : Nat}  {x : Int64} (hd : decode M.2.1 pc = .ok (.lstore i, 2)) (hn : i + 1 < ls.length) (hp : ∀ w, ls[i - 1]? = some w → 0 < i → w.category = 1) (kk : Rn g l M R Q k n (pc + 2) ((ls.set i (.long x)).set (i + 1) (.retAddr 0)) st Γ iv rv lv) : Rn g l M R Q k n pc ls (.long x :: st) Γ iv rv lv := by
  intro p e s m args below meth c H locs lsC hG cx hR hlo hls
  obtain ⟨hx, hb, hr, hml, hown, hnm, hts, hlk, hwm⟩ := id cx
  exact lv_lstore hx hb hd hls.has (Nat.lt_of_lt_of_le hn hls.2.2.1) rfl (fun ls2 h => kk p e s m args below meth c H locs ls2 hG cx hR hlo (hls.store2 (v := .long x) (z := 0) hp h))
theorem rn_aload_n {i : Nat} {q : Fin 4} {x : Nat} (hd : decode M.2.1 pc = .ok (.aload_n q, 1)) (hi : (q : Nat) = i) (hv : ls[i]? = some (.ref x)) (kk : Rn g l M R Q k n (pc + 1) ls (.ref x :: st) Γ iv rv lv) : Rn g l M R Q k n pc ls st Γ iv rv lv := by
  intro p e s m args below meth c H locs lsC hG cx hR hlo hls
  have kk := kk p e s m args below meth c H locs lsC hG cx hR hlo hls
  obtain ⟨hx, hb, hr, hml, hown, hnm, hts, hlk, hwm⟩ := id cx
  by_cases hz : x = 0
  · subst hz
    exact lv_aload_nN hx hb hd hi (hls.at hv rfl) kk
  · have h1 := hls.at hv rfl
    rw [List.map_cons, cv_ref g (by omega)] at kk
    rw [cv_ref g (by omega)] at h1
    exact lv_aload_n hx hb hd hi h1 kk
theorem rn_aload {i : Nat}  {x : Nat} (hd : decode M.2.1 pc = .ok (.aload i, 2)) (hv : ls[i]? = some (.ref x)) (kk : Rn g l M R Q k n (pc + 2) ls (.ref x :: st) Γ iv rv lv) : Rn g l M R Q k n pc ls st Γ iv rv lv := by
  intro p e s m args below meth c H locs lsC hG cx hR hlo hls
  have kk := kk p e s m args below meth c H locs lsC hG cx hR hlo hls
  obtain ⟨hx, hb, hr, hml, hown, hnm, hts, hlk, hwm⟩ := id cx
  by_cases hz : x = 0
  · subst hz
    exact lv_aloadN hx hb hd (hls.at hv rfl) kk
  · have h1 := hls.at hv rfl
    rw [List.map_cons, cv_ref g (by omega)] at kk
    rw [cv_ref g (by omega)] at h1
    exact lv_aload hx hb hd h1 kk
theorem rn_astore_n {i : Nat} {q : Fin 4} {x : Nat} (hd : decode M.2.1 pc = .ok (.astore_n q, 1)) (hi : (q : Nat) = i) (hn : i < ls.length) (hp : ∀ w, ls[i - 1]? = some w → 0 < i → w.category = 1) (kk : Rn g l M R Q k n (pc + 1) (ls.set i (.ref x)) st Γ iv rv lv) : Rn g l M R Q k n pc ls (.ref x :: st) Γ iv rv lv := by
  intro p e s m args below meth c H locs lsC hG cx hR hlo hls
  obtain ⟨hx, hb, hr, hml, hown, hnm, hts, hlk, hwm⟩ := id cx
  by_cases hz : x = 0
  · subst hz
    exact lv_astore_nN hx hb hd hi hls.has (Nat.lt_of_lt_of_le hn hls.2.2.1) rfl (fun ls2 h => kk p e s m args below meth c H locs ls2 hG cx hR hlo (hls.store (v := .ref 0) hp h))
  · rw [List.map_cons, cv_ref g (by omega)]
    refine lv_astore_n hx hb hd hi hls.has (Nat.lt_of_lt_of_le hn hls.2.2.1) rfl (fun ls2 h => ?_)
    rw [← cv_ref g (by omega)] at h
    exact kk p e s m args below meth c H locs ls2 hG cx hR hlo (hls.store (v := .ref x) hp h)
theorem rn_astore {i : Nat}  {x : Nat} (hd : decode M.2.1 pc = .ok (.astore i, 2)) (hn : i < ls.length) (hp : ∀ w, ls[i - 1]? = some w → 0 < i → w.category = 1) (kk : Rn g l M R Q k n (pc + 2) (ls.set i (.ref x)) st Γ iv rv lv) : Rn g l M R Q k n pc ls (.ref x :: st) Γ iv rv lv := by
  intro p e s m args below meth c H locs lsC hG cx hR hlo hls
  obtain ⟨hx, hb, hr, hml, hown, hnm, hts, hlk, hwm⟩ := id cx
  by_cases hz : x = 0
  · subst hz
    exact lv_astoreN hx hb hd hls.has (Nat.lt_of_lt_of_le hn hls.2.2.1) rfl (fun ls2 h => kk p e s m args below meth c H locs ls2 hG cx hR hlo (hls.store (v := .ref 0) hp h))
  · rw [List.map_cons, cv_ref g (by omega)]
    refine lv_astore hx hb hd hls.has (Nat.lt_of_lt_of_le hn hls.2.2.1) rfl (fun ls2 h => ?_)
    rw [← cv_ref g (by omega)] at h
    exact kk p e s m args below meth c H locs ls2 hG cx hR hlo (hls.store (v := .ref x) hp h)
theorem prs_get {ls : List Value} {i : Nat} {x : Int32} (hv : ls[i]? = some (.int x)) : ∃ q : Nat, (prs g 0 ls)[q]? = some (i, Value.int x) := by
  have h : ((i, Value.int x) : Nat × Value) ∈ prs g 0 ls := mem_prs.mpr ⟨i, Value.int x, hv, rfl, by simp [cv]⟩
  exact List.getElem?_of_mem h
theorem rn_iinc {i : Nat} {z : Int} {x : Int32} (v : Int32) (hd : decode M.2.1 pc = .ok (.iinc i z, 3)) (hx' : ls[i]? = some (.int x)) (hv : x + Int32.ofInt z = v) (hp : ∀ w, ls[i - 1]? = some w → 0 < i → w.category = 1) (kk : Rn g l M R Q k n (pc + 3) (ls.set i (.int v)) st Γ iv rv lv) : Rn g l M R Q k n pc ls st Γ iv rv lv := by
  intro p e s m args below meth c H locs lsC hG cx hR hlo hls
  obtain ⟨hx, hb, hr, hml, hown, hnm, hts, hlk, hwm⟩ := id cx
  obtain ⟨q, hq⟩ := prs_get (g := g) hx'
  exact lv_iinc hx hb hd hls.has hq hv (Nat.lt_of_lt_of_le (List.getElem?_eq_some_iff.mp hx').1 hls.2.2.1) rfl (fun ls2 h => kk p e s m args below meth c H locs ls2 hG cx hR hlo (hls.store (v := .int v) hp h))
theorem r_iload0 {r : List Value} {x : Int32} (hd : decode M.2.1 pc = .ok (.iload_n 0, 1)) (kk : Rn g l M R Q k n (pc + 1) (.int x :: r) (.int x :: st) Γ iv rv lv) : Rn g l M R Q k n pc (.int x :: r) st Γ iv rv lv := rn_iload_n (i := 0) hd rfl rfl kk
theorem r_istore0 {b0 : Value} {r : List Value} {x : Int32} (hd : decode M.2.1 pc = .ok (.istore_n 0, 1)) (kk : Rn g l M R Q k n (pc + 1) (.int x :: r) st Γ iv rv lv) : Rn g l M R Q k n pc (b0 :: r) (.int x :: st) Γ iv rv lv := rn_istore_n (i := 0) hd rfl (by simp) (fun w _ h => by cases h) kk
theorem r_lload0 {r : List Value} {x : Int64} (hd : decode M.2.1 pc = .ok (.lload_n 0, 1)) (kk : Rn g l M R Q k n (pc + 1) (.long x :: r) (.long x :: st) Γ iv rv lv) : Rn g l M R Q k n pc (.long x :: r) st Γ iv rv lv := rn_lload_n (i := 0) hd rfl rfl kk
theorem r_lstore0 {b0 b1 : Value} {r : List Value} {x : Int64} (hd : decode M.2.1 pc = .ok (.lstore_n 0, 1)) (kk : Rn g l M R Q k n (pc + 1) (.long x :: .retAddr 0 :: r) st Γ iv rv lv) : Rn g l M R Q k n pc (b0 :: b1 :: r) (.long x :: st) Γ iv rv lv := rn_lstore_n (i := 0) hd rfl (by simp) (fun w _ h => by cases h) kk
theorem r_aload0 {r : List Value} {x : Nat} (hd : decode M.2.1 pc = .ok (.aload_n 0, 1)) (kk : Rn g l M R Q k n (pc + 1) (.ref x :: r) (.ref x :: st) Γ iv rv lv) : Rn g l M R Q k n pc (.ref x :: r) st Γ iv rv lv := rn_aload_n (i := 0) hd rfl rfl kk
theorem r_astore0 {b0 : Value} {r : List Value} {x : Nat} (hd : decode M.2.1 pc = .ok (.astore_n 0, 1)) (kk : Rn g l M R Q k n (pc + 1) (.ref x :: r) st Γ iv rv lv) : Rn g l M R Q k n pc (b0 :: r) (.ref x :: st) Γ iv rv lv := rn_astore_n (i := 0) hd rfl (by simp) (fun w _ h => by cases h) kk
theorem r_iinc0 {r : List Value} {x : Int32} {z : Int} (v : Int32) (hd : decode M.2.1 pc = .ok (.iinc 0 z, 3)) (hv : x + Int32.ofInt z = v) (kk : Rn g l M R Q k n (pc + 3) (.int v :: r) st Γ iv rv lv) : Rn g l M R Q k n pc (.int x :: r) st Γ iv rv lv := rn_iinc (i := 0) v hd rfl hv (fun w _ h => by cases h) kk
theorem r_iload1 {a0 : Value} {r : List Value} {x : Int32} (hd : decode M.2.1 pc = .ok (.iload_n 1, 1)) (kk : Rn g l M R Q k n (pc + 1) (a0 :: .int x :: r) (.int x :: st) Γ iv rv lv) : Rn g l M R Q k n pc (a0 :: .int x :: r) st Γ iv rv lv := rn_iload_n (i := 1) hd rfl rfl kk
theorem r_istore1 {a0 : Value} {b0 : Value} {r : List Value} {x : Int32} (hd : decode M.2.1 pc = .ok (.istore_n 1, 1)) (hc : a0.category = 1) (kk : Rn g l M R Q k n (pc + 1) (a0 :: .int x :: r) st Γ iv rv lv) : Rn g l M R Q k n pc (a0 :: b0 :: r) (.int x :: st) Γ iv rv lv := rn_istore_n (i := 1) hd rfl (by simp) (fun w h _ => by cases h; exact hc) kk
theorem r_lload1 {a0 : Value} {r : List Value} {x : Int64} (hd : decode M.2.1 pc = .ok (.lload_n 1, 1)) (kk : Rn g l M R Q k n (pc + 1) (a0 :: .long x :: r) (.long x :: st) Γ iv rv lv) : Rn g l M R Q k n pc (a0 :: .long x :: r) st Γ iv rv lv := rn_lload_n (i := 1) hd rfl rfl kk
theorem r_lstore1 {a0 : Value} {b0 b1 : Value} {r : List Value} {x : Int64} (hd : decode M.2.1 pc = .ok (.lstore_n 1, 1)) (hc : a0.category = 1) (kk : Rn g l M R Q k n (pc + 1) (a0 :: .long x :: .retAddr 0 :: r) st Γ iv rv lv) : Rn g l M R Q k n pc (a0 :: b0 :: b1 :: r) (.long x :: st) Γ iv rv lv := rn_lstore_n (i := 1) hd rfl (by simp) (fun w h _ => by cases h; exact hc) kk
theorem r_aload1 {a0 : Value} {r : List Value} {x : Nat} (hd : decode M.2.1 pc = .ok (.aload_n 1, 1)) (kk : Rn g l M R Q k n (pc + 1) (a0 :: .ref x :: r) (.ref x :: st) Γ iv rv lv) : Rn g l M R Q k n pc (a0 :: .ref x :: r) st Γ iv rv lv := rn_aload_n (i := 1) hd rfl rfl kk
theorem r_astore1 {a0 : Value} {b0 : Value} {r : List Value} {x : Nat} (hd : decode M.2.1 pc = .ok (.astore_n 1, 1)) (hc : a0.category = 1) (kk : Rn g l M R Q k n (pc + 1) (a0 :: .ref x :: r) st Γ iv rv lv) : Rn g l M R Q k n pc (a0 :: b0 :: r) (.ref x :: st) Γ iv rv lv := rn_astore_n (i := 1) hd rfl (by simp) (fun w h _ => by cases h; exact hc) kk
theorem r_iinc1 {a0 : Value} {r : List Value} {x : Int32} {z : Int} (v : Int32) (hd : decode M.2.1 pc = .ok (.iinc 1 z, 3)) (hv : x + Int32.ofInt z = v) (hc : a0.category = 1) (kk : Rn g l M R Q k n (pc + 3) (a0 :: .int v :: r) st Γ iv rv lv) : Rn g l M R Q k n pc (a0 :: .int x :: r) st Γ iv rv lv := rn_iinc (i := 1) v hd rfl hv (fun w h _ => by cases h; exact hc) kk
theorem r_iload2 {a0 a1 : Value} {r : List Value} {x : Int32} (hd : decode M.2.1 pc = .ok (.iload_n 2, 1)) (kk : Rn g l M R Q k n (pc + 1) (a0 :: a1 :: .int x :: r) (.int x :: st) Γ iv rv lv) : Rn g l M R Q k n pc (a0 :: a1 :: .int x :: r) st Γ iv rv lv := rn_iload_n (i := 2) hd rfl rfl kk
theorem r_istore2 {a0 a1 : Value} {b0 : Value} {r : List Value} {x : Int32} (hd : decode M.2.1 pc = .ok (.istore_n 2, 1)) (hc : a1.category = 1) (kk : Rn g l M R Q k n (pc + 1) (a0 :: a1 :: .int x :: r) st Γ iv rv lv) : Rn g l M R Q k n pc (a0 :: a1 :: b0 :: r) (.int x :: st) Γ iv rv lv := rn_istore_n (i := 2) hd rfl (by simp) (fun w h _ => by cases h; exact hc) kk
theorem r_lload2 {a0 a1 : Value} {r : List Value} {x : Int64} (hd : decode M.2.1 pc = .ok (.lload_n 2, 1)) (kk : Rn g l M R Q k n (pc + 1) (a0 :: a1 :: .long x :: r) (.long x :: st) Γ iv rv lv) : Rn g l M R Q k n pc (a0 :: a1 :: .long x :: r) st Γ iv rv lv := rn_lload_n (i := 2) hd rfl rfl kk
theorem r_lstore2 {a0 a1 : Value} {b0 b1 : Value} {r : List Value} {x : Int64} (hd : decode M.2.1 pc = .ok (.lstore_n 2, 1)) (hc : a1.category = 1) (kk : Rn g l M R Q k n (pc + 1) (a0 :: a1 :: .long x :: .retAddr 0 :: r) st Γ iv rv lv) : Rn g l M R Q k n pc (a0 :: a1 :: b0 :: b1 :: r) (.long x :: st) Γ iv rv lv := rn_lstore_n (i := 2) hd rfl (by simp) (fun w h _ => by cases h; exact hc) kk
theorem r_aload2 {a0 a1 : Value} {r : List Value} {x : Nat} (hd : decode M.2.1 pc = .ok (.aload_n 2, 1)) (kk : Rn g l M R Q k n (pc + 1) (a0 :: a1 :: .ref x :: r) (.ref x :: st) Γ iv rv lv) : Rn g l M R Q k n pc (a0 :: a1 :: .ref x :: r) st Γ iv rv lv := rn_aload_n (i := 2) hd rfl rfl kk
theorem r_astore2 {a0 a1 : Value} {b0 : Value} {r : List Value} {x : Nat} (hd : decode M.2.1 pc = .ok (.astore_n 2, 1)) (hc : a1.category = 1) (kk : Rn g l M R Q k n (pc + 1) (a0 :: a1 :: .ref x :: r) st Γ iv rv lv) : Rn g l M R Q k n pc (a0 :: a1 :: b0 :: r) (.ref x :: st) Γ iv rv lv := rn_astore_n (i := 2) hd rfl (by simp) (fun w h _ => by cases h; exact hc) kk
theorem r_iinc2 {a0 a1 : Value} {r : List Value} {x : Int32} {z : Int} (v : Int32) (hd : decode M.2.1 pc = .ok (.iinc 2 z, 3)) (hv : x + Int32.ofInt z = v) (hc : a1.category = 1) (kk : Rn g l M R Q k n (pc + 3) (a0 :: a1 :: .int v :: r) st Γ iv rv lv) : Rn g l M R Q k n pc (a0 :: a1 :: .int x :: r) st Γ iv rv lv := rn_iinc (i := 2) v hd rfl hv (fun w h _ => by cases h; exact hc) kk
theorem r_iload3 {a0 a1 a2 : Value} {r : List Value} {x : Int32} (hd : decode M.2.1 pc = .ok (.iload_n 3, 1)) (kk : Rn g l M R Q k n (pc + 1) (a0 :: a1 :: a2 :: .int x :: r) (.int x :: st) Γ iv rv lv) : Rn g l M R Q k n pc (a0 :: a1 :: a2 :: .int x :: r) st Γ iv rv lv := rn_iload_n (i := 3) hd rfl rfl kk
theorem r_istore3 {a0 a1 a2 : Value} {b0 : Value} {r : List Value} {x : Int32} (hd : decode M.2.1 pc = .ok (.istore_n 3, 1)) (hc : a2.category = 1) (kk : Rn g l M R Q k n (pc + 1) (a0 :: a1 :: a2 :: .int x :: r) st Γ iv rv lv) : Rn g l M R Q k n pc (a0 :: a1 :: a2 :: b0 :: r) (.int x :: st) Γ iv rv lv := rn_istore_n (i := 3) hd rfl (by simp) (fun w h _ => by cases h; exact hc) kk
theorem r_lload3 {a0 a1 a2 : Value} {r : List Value} {x : Int64} (hd : decode M.2.1 pc = .ok (.lload_n 3, 1)) (kk : Rn g l M R Q k n (pc + 1) (a0 :: a1 :: a2 :: .long x :: r) (.long x :: st) Γ iv rv lv) : Rn g l M R Q k n pc (a0 :: a1 :: a2 :: .long x :: r) st Γ iv rv lv := rn_lload_n (i := 3) hd rfl rfl kk
theorem r_lstore3 {a0 a1 a2 : Value} {b0 b1 : Value} {r : List Value} {x : Int64} (hd : decode M.2.1 pc = .ok (.lstore_n 3, 1)) (hc : a2.category = 1) (kk : Rn g l M R Q k n (pc + 1) (a0 :: a1 :: a2 :: .long x :: .retAddr 0 :: r) st Γ iv rv lv) : Rn g l M R Q k n pc (a0 :: a1 :: a2 :: b0 :: b1 :: r) (.long x :: st) Γ iv rv lv := rn_lstore_n (i := 3) hd rfl (by simp) (fun w h _ => by cases h; exact hc) kk
theorem r_aload3 {a0 a1 a2 : Value} {r : List Value} {x : Nat} (hd : decode M.2.1 pc = .ok (.aload_n 3, 1)) (kk : Rn g l M R Q k n (pc + 1) (a0 :: a1 :: a2 :: .ref x :: r) (.ref x :: st) Γ iv rv lv) : Rn g l M R Q k n pc (a0 :: a1 :: a2 :: .ref x :: r) st Γ iv rv lv := rn_aload_n (i := 3) hd rfl rfl kk
theorem r_astore3 {a0 a1 a2 : Value} {b0 : Value} {r : List Value} {x : Nat} (hd : decode M.2.1 pc = .ok (.astore_n 3, 1)) (hc : a2.category = 1) (kk : Rn g l M R Q k n (pc + 1) (a0 :: a1 :: a2 :: .ref x :: r) st Γ iv rv lv) : Rn g l M R Q k n pc (a0 :: a1 :: a2 :: b0 :: r) (.ref x :: st) Γ iv rv lv := rn_astore_n (i := 3) hd rfl (by simp) (fun w h _ => by cases h; exact hc) kk
theorem r_iinc3 {a0 a1 a2 : Value} {r : List Value} {x : Int32} {z : Int} (v : Int32) (hd : decode M.2.1 pc = .ok (.iinc 3 z, 3)) (hv : x + Int32.ofInt z = v) (hc : a2.category = 1) (kk : Rn g l M R Q k n (pc + 3) (a0 :: a1 :: a2 :: .int v :: r) st Γ iv rv lv) : Rn g l M R Q k n pc (a0 :: a1 :: a2 :: .int x :: r) st Γ iv rv lv := rn_iinc (i := 3) v hd rfl hv (fun w h _ => by cases h; exact hc) kk
theorem r_iload4 {a0 a1 a2 a3 : Value} {r : List Value} {x : Int32} (hd : decode M.2.1 pc = .ok (.iload 4, 2)) (kk : Rn g l M R Q k n (pc + 2) (a0 :: a1 :: a2 :: a3 :: .int x :: r) (.int x :: st) Γ iv rv lv) : Rn g l M R Q k n pc (a0 :: a1 :: a2 :: a3 :: .int x :: r) st Γ iv rv lv := rn_iload (i := 4) hd rfl kk
theorem r_istore4 {a0 a1 a2 a3 : Value} {b0 : Value} {r : List Value} {x : Int32} (hd : decode M.2.1 pc = .ok (.istore 4, 2)) (hc : a3.category = 1) (kk : Rn g l M R Q k n (pc + 2) (a0 :: a1 :: a2 :: a3 :: .int x :: r) st Γ iv rv lv) : Rn g l M R Q k n pc (a0 :: a1 :: a2 :: a3 :: b0 :: r) (.int x :: st) Γ iv rv lv := rn_istore (i := 4) hd (by simp) (fun w h _ => by cases h; exact hc) kk
theorem r_lload4 {a0 a1 a2 a3 : Value} {r : List Value} {x : Int64} (hd : decode M.2.1 pc = .ok (.lload 4, 2)) (kk : Rn g l M R Q k n (pc + 2) (a0 :: a1 :: a2 :: a3 :: .long x :: r) (.long x :: st) Γ iv rv lv) : Rn g l M R Q k n pc (a0 :: a1 :: a2 :: a3 :: .long x :: r) st Γ iv rv lv := rn_lload (i := 4) hd rfl kk
theorem r_lstore4 {a0 a1 a2 a3 : Value} {b0 b1 : Value} {r : List Value} {x : Int64} (hd : decode M.2.1 pc = .ok (.lstore 4, 2)) (hc : a3.category = 1) (kk : Rn g l M R Q k n (pc + 2) (a0 :: a1 :: a2 :: a3 :: .long x :: .retAddr 0 :: r) st Γ iv rv lv) : Rn g l M R Q k n pc (a0 :: a1 :: a2 :: a3 :: b0 :: b1 :: r) (.long x :: st) Γ iv rv lv := rn_lstore (i := 4) hd (by simp) (fun w h _ => by cases h; exact hc) kk
theorem r_aload4 {a0 a1 a2 a3 : Value} {r : List Value} {x : Nat} (hd : decode M.2.1 pc = .ok (.aload 4, 2)) (kk : Rn g l M R Q k n (pc + 2) (a0 :: a1 :: a2 :: a3 :: .ref x :: r) (.ref x :: st) Γ iv rv lv) : Rn g l M R Q k n pc (a0 :: a1 :: a2 :: a3 :: .ref x :: r) st Γ iv rv lv := rn_aload (i := 4) hd rfl kk
theorem r_astore4 {a0 a1 a2 a3 : Value} {b0 : Value} {r : List Value} {x : Nat} (hd : decode M.2.1 pc = .ok (.astore 4, 2)) (hc : a3.category = 1) (kk : Rn g l M R Q k n (pc + 2) (a0 :: a1 :: a2 :: a3 :: .ref x :: r) st Γ iv rv lv) : Rn g l M R Q k n pc (a0 :: a1 :: a2 :: a3 :: b0 :: r) (.ref x :: st) Γ iv rv lv := rn_astore (i := 4) hd (by simp) (fun w h _ => by cases h; exact hc) kk
theorem r_iinc4 {a0 a1 a2 a3 : Value} {r : List Value} {x : Int32} {z : Int} (v : Int32) (hd : decode M.2.1 pc = .ok (.iinc 4 z, 3)) (hv : x + Int32.ofInt z = v) (hc : a3.category = 1) (kk : Rn g l M R Q k n (pc + 3) (a0 :: a1 :: a2 :: a3 :: .int v :: r) st Γ iv rv lv) : Rn g l M R Q k n pc (a0 :: a1 :: a2 :: a3 :: .int x :: r) st Γ iv rv lv := rn_iinc (i := 4) v hd rfl hv (fun w h _ => by cases h; exact hc) kk
theorem r_iload5 {a0 a1 a2 a3 a4 : Value} {r : List Value} {x : Int32} (hd : decode M.2.1 pc = .ok (.iload 5, 2)) (kk : Rn g l M R Q k n (pc + 2) (a0 :: a1 :: a2 :: a3 :: a4 :: .int x :: r) (.int x :: st) Γ iv rv lv) : Rn g l M R Q k n pc (a0 :: a1 :: a2 :: a3 :: a4 :: .int x :: r) st Γ iv rv lv := rn_iload (i := 5) hd rfl kk
theorem r_istore5 {a0 a1 a2 a3 a4 : Value} {b0 : Value} {r : List Value} {x : Int32} (hd : decode M.2.1 pc = .ok (.istore 5, 2)) (hc : a4.category = 1) (kk : Rn g l M R Q k n (pc + 2) (a0 :: a1 :: a2 :: a3 :: a4 :: .int x :: r) st Γ iv rv lv) : Rn g l M R Q k n pc (a0 :: a1 :: a2 :: a3 :: a4 :: b0 :: r) (.int x :: st) Γ iv rv lv := rn_istore (i := 5) hd (by simp) (fun w h _ => by cases h; exact hc) kk
theorem r_lload5 {a0 a1 a2 a3 a4 : Value} {r : List Value} {x : Int64} (hd : decode M.2.1 pc = .ok (.lload 5, 2)) (kk : Rn g l M R Q k n (pc + 2) (a0 :: a1 :: a2 :: a3 :: a4 :: .long x :: r) (.long x :: st) Γ iv rv lv) : Rn g l M R Q k n pc (a0 :: a1 :: a2 :: a3 :: a4 :: .long x :: r) st Γ iv rv lv := rn_lload (i := 5) hd rfl kk
theorem r_lstore5 {a0 a1 a2 a3 a4 : Value} {b0 b1 : Value} {r : List Value} {x : Int64} (hd : decode M.2.1 pc = .ok (.lstore 5, 2)) (hc : a4.category = 1) (kk : Rn g l M R Q k n (pc + 2) (a0 :: a1 :: a2 :: a3 :: a4 :: .long x :: .retAddr 0 :: r) st Γ iv rv lv) : Rn g l M R Q k n pc (a0 :: a1 :: a2 :: a3 :: a4 :: b0 :: b1 :: r) (.long x :: st) Γ iv rv lv := rn_lstore (i := 5) hd (by simp) (fun w h _ => by cases h; exact hc) kk
theorem r_aload5 {a0 a1 a2 a3 a4 : Value} {r : List Value} {x : Nat} (hd : decode M.2.1 pc = .ok (.aload 5, 2)) (kk : Rn g l M R Q k n (pc + 2) (a0 :: a1 :: a2 :: a3 :: a4 :: .ref x :: r) (.ref x :: st) Γ iv rv lv) : Rn g l M R Q k n pc (a0 :: a1 :: a2 :: a3 :: a4 :: .ref x :: r) st Γ iv rv lv := rn_aload (i := 5) hd rfl kk
theorem r_astore5 {a0 a1 a2 a3 a4 : Value} {b0 : Value} {r : List Value} {x : Nat} (hd : decode M.2.1 pc = .ok (.astore 5, 2)) (hc : a4.category = 1) (kk : Rn g l M R Q k n (pc + 2) (a0 :: a1 :: a2 :: a3 :: a4 :: .ref x :: r) st Γ iv rv lv) : Rn g l M R Q k n pc (a0 :: a1 :: a2 :: a3 :: a4 :: b0 :: r) (.ref x :: st) Γ iv rv lv := rn_astore (i := 5) hd (by simp) (fun w h _ => by cases h; exact hc) kk
theorem r_iinc5 {a0 a1 a2 a3 a4 : Value} {r : List Value} {x : Int32} {z : Int} (v : Int32) (hd : decode M.2.1 pc = .ok (.iinc 5 z, 3)) (hv : x + Int32.ofInt z = v) (hc : a4.category = 1) (kk : Rn g l M R Q k n (pc + 3) (a0 :: a1 :: a2 :: a3 :: a4 :: .int v :: r) st Γ iv rv lv) : Rn g l M R Q k n pc (a0 :: a1 :: a2 :: a3 :: a4 :: .int x :: r) st Γ iv rv lv := rn_iinc (i := 5) v hd rfl hv (fun w h _ => by cases h; exact hc) kk
theorem r_iload6 {a0 a1 a2 a3 a4 a5 : Value} {r : List Value} {x : Int32} (hd : decode M.2.1 pc = .ok (.iload 6, 2)) (kk : Rn g l M R Q k n (pc + 2) (a0 :: a1 :: a2 :: a3 :: a4 :: a5 :: .int x :: r) (.int x :: st) Γ iv rv lv) : Rn g l M R Q k n pc (a0 :: a1 :: a2 :: a3 :: a4 :: a5 :: .int x :: r) st Γ iv rv lv := rn_iload (i := 6) hd rfl kk
theorem r_istore6 {a0 a1 a2 a3 a4 a5 : Value} {b0 : Value} {r : List Value} {x : Int32} (hd : decode M.2.1 pc = .ok (.istore 6, 2)) (hc : a5.category = 1) (kk : Rn g l M R Q k n (pc + 2) (a0 :: a1 :: a2 :: a3 :: a4 :: a5 :: .int x :: r) st Γ iv rv lv) : Rn g l M R Q k n pc (a0 :: a1 :: a2 :: a3 :: a4 :: a5 :: b0 :: r) (.int x :: st) Γ iv rv lv := rn_istore (i := 6) hd (by simp) (fun w h _ => by cases h; exact hc) kk
theorem r_lload6 {a0 a1 a2 a3 a4 a5 : Value} {r : List Value} {x : Int64} (hd : decode M.2.1 pc = .ok (.lload 6, 2)) (kk : Rn g l M R Q k n (pc + 2) (a0 :: a1 :: a2 :: a3 :: a4 :: a5 :: .long x :: r) (.long x :: st) Γ iv rv lv) : Rn g l M R Q k n pc (a0 :: a1 :: a2 :: a3 :: a4 :: a5 :: .long x :: r) st Γ iv rv lv := rn_lload (i := 6) hd rfl kk
theorem r_lstore6 {a0 a1 a2 a3 a4 a5 : Value} {b0 b1 : Value} {r : List Value} {x : Int64} (hd : decode M.2.1 pc = .ok (.lstore 6, 2)) (hc : a5.category = 1) (kk : Rn g l M R Q k n (pc + 2) (a0 :: a1 :: a2 :: a3 :: a4 :: a5 :: .long x :: .retAddr 0 :: r) st Γ iv rv lv) : Rn g l M R Q k n pc (a0 :: a1 :: a2 :: a3 :: a4 :: a5 :: b0 :: b1 :: r) (.long x :: st) Γ iv rv lv := rn_lstore (i := 6) hd (by simp) (fun w h _ => by cases h; exact hc) kk
theorem r_aload6 {a0 a1 a2 a3 a4 a5 : Value} {r : List Value} {x : Nat} (hd : decode M.2.1 pc = .ok (.aload 6, 2)) (kk : Rn g l M R Q k n (pc + 2) (a0 :: a1 :: a2 :: a3 :: a4 :: a5 :: .ref x :: r) (.ref x :: st) Γ iv rv lv) : Rn g l M R Q k n pc (a0 :: a1 :: a2 :: a3 :: a4 :: a5 :: .ref x :: r) st Γ iv rv lv := rn_aload (i := 6) hd rfl kk
theorem r_astore6 {a0 a1 a2 a3 a4 a5 : Value} {b0 : Value} {r : List Value} {x : Nat} (hd : decode M.2.1 pc = .ok (.astore 6, 2)) (hc : a5.category = 1) (kk : Rn g l M R Q k n (pc + 2) (a0 :: a1 :: a2 :: a3 :: a4 :: a5 :: .ref x :: r) st Γ iv rv lv) : Rn g l M R Q k n pc (a0 :: a1 :: a2 :: a3 :: a4 :: a5 :: b0 :: r) (.ref x :: st) Γ iv rv lv := rn_astore (i := 6) hd (by simp) (fun w h _ => by cases h; exact hc) kk
theorem r_iinc6 {a0 a1 a2 a3 a4 a5 : Value} {r : List Value} {x : Int32} {z : Int} (v : Int32) (hd : decode M.2.1 pc = .ok (.iinc 6 z, 3)) (hv : x + Int32.ofInt z = v) (hc : a5.category = 1) (kk : Rn g l M R Q k n (pc + 3) (a0 :: a1 :: a2 :: a3 :: a4 :: a5 :: .int v :: r) st Γ iv rv lv) : Rn g l M R Q k n pc (a0 :: a1 :: a2 :: a3 :: a4 :: a5 :: .int x :: r) st Γ iv rv lv := rn_iinc (i := 6) v hd rfl hv (fun w h _ => by cases h; exact hc) kk
theorem r_iload7 {a0 a1 a2 a3 a4 a5 a6 : Value} {r : List Value} {x : Int32} (hd : decode M.2.1 pc = .ok (.iload 7, 2)) (kk : Rn g l M R Q k n (pc + 2) (a0 :: a1 :: a2 :: a3 :: a4 :: a5 :: a6 :: .int x :: r) (.int x :: st) Γ iv rv lv) : Rn g l M R Q k n pc (a0 :: a1 :: a2 :: a3 :: a4 :: a5 :: a6 :: .int x :: r) st Γ iv rv lv := rn_iload (i := 7) hd rfl kk
theorem r_istore7 {a0 a1 a2 a3 a4 a5 a6 : Value} {b0 : Value} {r : List Value} {x : Int32} (hd : decode M.2.1 pc = .ok (.istore 7, 2)) (hc : a6.category = 1) (kk : Rn g l M R Q k n (pc + 2) (a0 :: a1 :: a2 :: a3 :: a4 :: a5 :: a6 :: .int x :: r) st Γ iv rv lv) : Rn g l M R Q k n pc (a0 :: a1 :: a2 :: a3 :: a4 :: a5 :: a6 :: b0 :: r) (.int x :: st) Γ iv rv lv := rn_istore (i := 7) hd (by simp) (fun w h _ => by cases h; exact hc) kk
theorem r_lload7 {a0 a1 a2 a3 a4 a5 a6 : Value} {r : List Value} {x : Int64} (hd : decode M.2.1 pc = .ok (.lload 7, 2)) (kk : Rn g l M R Q k n (pc + 2) (a0 :: a1 :: a2 :: a3 :: a4 :: a5 :: a6 :: .long x :: r) (.long x :: st) Γ iv rv lv) : Rn g l M R Q k n pc (a0 :: a1 :: a2 :: a3 :: a4 :: a5 :: a6 :: .long x :: r) st Γ iv rv lv := rn_lload (i := 7) hd rfl kk
theorem r_lstore7 {a0 a1 a2 a3 a4 a5 a6 : Value} {b0 b1 : Value} {r : List Value} {x : Int64} (hd : decode M.2.1 pc = .ok (.lstore 7, 2)) (hc : a6.category = 1) (kk : Rn g l M R Q k n (pc + 2) (a0 :: a1 :: a2 :: a3 :: a4 :: a5 :: a6 :: .long x :: .retAddr 0 :: r) st Γ iv rv lv) : Rn g l M R Q k n pc (a0 :: a1 :: a2 :: a3 :: a4 :: a5 :: a6 :: b0 :: b1 :: r) (.long x :: st) Γ iv rv lv := rn_lstore (i := 7) hd (by simp) (fun w h _ => by cases h; exact hc) kk
theorem r_aload7 {a0 a1 a2 a3 a4 a5 a6 : Value} {r : List Value} {x : Nat} (hd : decode M.2.1 pc = .ok (.aload 7, 2)) (kk : Rn g l M R Q k n (pc + 2) (a0 :: a1 :: a2 :: a3 :: a4 :: a5 :: a6 :: .ref x :: r) (.ref x :: st) Γ iv rv lv) : Rn g l M R Q k n pc (a0 :: a1 :: a2 :: a3 :: a4 :: a5 :: a6 :: .ref x :: r) st Γ iv rv lv := rn_aload (i := 7) hd rfl kk
theorem r_astore7 {a0 a1 a2 a3 a4 a5 a6 : Value} {b0 : Value} {r : List Value} {x : Nat} (hd : decode M.2.1 pc = .ok (.astore 7, 2)) (hc : a6.category = 1) (kk : Rn g l M R Q k n (pc + 2) (a0 :: a1 :: a2 :: a3 :: a4 :: a5 :: a6 :: .ref x :: r) st Γ iv rv lv) : Rn g l M R Q k n pc (a0 :: a1 :: a2 :: a3 :: a4 :: a5 :: a6 :: b0 :: r) (.ref x :: st) Γ iv rv lv := rn_astore (i := 7) hd (by simp) (fun w h _ => by cases h; exact hc) kk
theorem r_iinc7 {a0 a1 a2 a3 a4 a5 a6 : Value} {r : List Value} {x : Int32} {z : Int} (v : Int32) (hd : decode M.2.1 pc = .ok (.iinc 7 z, 3)) (hv : x + Int32.ofInt z = v) (hc : a6.category = 1) (kk : Rn g l M R Q k n (pc + 3) (a0 :: a1 :: a2 :: a3 :: a4 :: a5 :: a6 :: .int v :: r) st Γ iv rv lv) : Rn g l M R Q k n pc (a0 :: a1 :: a2 :: a3 :: a4 :: a5 :: a6 :: .int x :: r) st Γ iv rv lv := rn_iinc (i := 7) v hd rfl hv (fun w h _ => by cases h; exact hc) kk
theorem r_iload8 {a0 a1 a2 a3 a4 a5 a6 a7 : Value} {r : List Value} {x : Int32} (hd : decode M.2.1 pc = .ok (.iload 8, 2)) (kk : Rn g l M R Q k n (pc + 2) (a0 :: a1 :: a2 :: a3 :: a4 :: a5 :: a6 :: a7 :: .int x :: r) (.int x :: st) Γ iv rv lv) : Rn g l M R Q k n pc (a0 :: a1 :: a2 :: a3 :: a4 :: a5 :: a6 :: a7 :: .int x :: r) st Γ iv rv lv := rn_iload (i := 8) hd rfl kk
theorem r_istore8 {a0 a1 a2 a3 a4 a5 a6 a7 : Value} {b0 : Value} {r : List Value} {x : Int32} (hd : decode M.2.1 pc = .ok (.istore 8, 2)) (hc : a7.category = 1) (kk : Rn g l M R Q k n (pc + 2) (a0 :: a1 :: a2 :: a3 :: a4 :: a5 :: a6 :: a7 :: .int x :: r) st Γ iv rv lv) : Rn g l M R Q k n pc (a0 :: a1 :: a2 :: a3 :: a4 :: a5 :: a6 :: a7 :: b0 :: r) (.int x :: st) Γ iv rv lv := rn_istore (i := 8) hd (by simp) (fun w h _ => by cases h; exact hc) kk
theorem r_lload8 {a0 a1 a2 a3 a4 a5 a6 a7 : Value} {r : List Value} {x : Int64} (hd : decode M.2.1 pc = .ok (.lload 8, 2)) (kk : Rn g l M R Q k n (pc + 2) (a0 :: a1 :: a2 :: a3 :: a4 :: a5 :: a6 :: a7 :: .long x :: r) (.long x :: st) Γ iv rv lv) : Rn g l M R Q k n pc (a0 :: a1 :: a2 :: a3 :: a4 :: a5 :: a6 :: a7 :: .long x :: r) st Γ iv rv lv := rn_lload (i := 8) hd rfl kk
theorem r_lstore8 {a0 a1 a2 a3 a4 a5 a6 a7 : Value} {b0 b1 : Value} {r : List Value} {x : Int64} (hd : decode M.2.1 pc = .ok (.lstore 8, 2)) (hc : a7.category = 1) (kk : Rn g l M R Q k n (pc + 2) (a0 :: a1 :: a2 :: a3 :: a4 :: a5 :: a6 :: a7 :: .long x :: .retAddr 0 :: r) st Γ iv rv lv) : Rn g l M R Q k n pc (a0 :: a1 :: a2 :: a3 :: a4 :: a5 :: a6 :: a7 :: b0 :: b1 :: r) (.long x :: st) Γ iv rv lv := rn_lstore (i := 8) hd (by simp) (fun w h _ => by cases h; exact hc) kk
theorem r_aload8 {a0 a1 a2 a3 a4 a5 a6 a7 : Value} {r : List Value} {x : Nat} (hd : decode M.2.1 pc = .ok (.aload 8, 2)) (kk : Rn g l M R Q k n (pc + 2) (a0 :: a1 :: a2 :: a3 :: a4 :: a5 :: a6 :: a7 :: .ref x :: r) (.ref x :: st) Γ iv rv lv) : Rn g l M R Q k n pc (a0 :: a1 :: a2 :: a3 :: a4 :: a5 :: a6 :: a7 :: .ref x :: r) st Γ iv rv lv := rn_aload (i := 8) hd rfl kk
theorem r_astore8 {a0 a1 a2 a3 a4 a5 a6 a7 : Value} {b0 : Value} {r : List Value} {x : Nat} (hd : decode M.2.1 pc = .ok (.astore 8, 2)) (hc : a7.category = 1) (kk : Rn g l M R Q k n (pc + 2) (a0 :: a1 :: a2 :: a3 :: a4 :: a5 :: a6 :: a7 :: .ref x :: r) st Γ iv rv lv) : Rn g l M R Q k n pc (a0 :: a1 :: a2 :: a3 :: a4 :: a5 :: a6 :: a7 :: b0 :: r) (.ref x :: st) Γ iv rv lv := rn_astore (i := 8) hd (by simp) (fun w h _ => by cases h; exact hc) kk
theorem r_iinc8 {a0 a1 a2 a3 a4 a5 a6 a7 : Value} {r : List Value} {x : Int32} {z : Int} (v : Int32) (hd : decode M.2.1 pc = .ok (.iinc 8 z, 3)) (hv : x + Int32.ofInt z = v) (hc : a7.category = 1) (kk : Rn g l M R Q k n (pc + 3) (a0 :: a1 :: a2 :: a3 :: a4 :: a5 :: a6 :: a7 :: .int v :: r) st Γ iv rv lv) : Rn g l M R Q k n pc (a0 :: a1 :: a2 :: a3 :: a4 :: a5 :: a6 :: a7 :: .int x :: r) st Γ iv rv lv := rn_iinc (i := 8) v hd rfl hv (fun w h _ => by cases h; exact hc) kk
theorem r_iload9 {a0 a1 a2 a3 a4 a5 a6 a7 a8 : Value} {r : List Value} {x : Int32} (hd : decode M.2.1 pc = .ok (.iload 9, 2)) (kk : Rn g l M R Q k n (pc + 2) (a0 :: a1 :: a2 :: a3 :: a4 :: a5 :: a6 :: a7 :: a8 :: .int x :: r) (.int x :: st) Γ iv rv lv) : Rn g l M R Q k n pc (a0 :: a1 :: a2 :: a3 :: a4 :: a5 :: a6 :: a7 :: a8 :: .int x :: r) st Γ iv rv lv := rn_iload (i := 9) hd rfl kk
theorem r_istore9 {a0 a1 a2 a3 a4 a5 a6 a7 a8 : Value} {b0 : Value} {r : List Value} {x : Int32} (hd : decode M.2.1 pc = .ok (.istore 9, 2)) (hc : a8.category = 1) (kk : Rn g l M R Q k n (pc + 2) (a0 :: a1 :: a2 :: a3 :: a4 :: a5 :: a6 :: a7 :: a8 :: .int x :: r) st Γ iv rv lv) : Rn g l M R Q k n pc (a0 :: a1 :: a2 :: a3 :: a4 :: a5 :: a6 :: a7 :: a8 :: b0 :: r) (.int x :: st) Γ iv rv lv := rn_istore (i := 9) hd (by simp) (fun w h _ => by cases h; exact hc) kk
theorem r_aload9 {a0 a1 a2 a3 a4 a5 a6 a7 a8 : Value} {r : List Value} {x : Nat} (hd : decode M.2.1 pc = .ok (.aload 9, 2)) (kk : Rn g l M R Q k n (pc + 2) (a0 :: a1 :: a2 :: a3 :: a4 :: a5 :: a6 :: a7 :: a8 :: .ref x :: r) (.ref x :: st) Γ iv rv lv) : Rn g l M R Q k n pc (a0 :: a1 :: a2 :: a3 :: a4 :: a5 :: a6 :: a7 :: a8 :: .ref x :: r) st Γ iv rv lv := rn_aload (i := 9) hd rfl kk
theorem r_astore9 {a0 a1 a2 a3 a4 a5 a6 a7 a8 : Value} {b0 : Value} {r : List Value} {x : Nat} (hd : decode M.2.1 pc = .ok (.astore 9, 2)) (hc : a8.category = 1) (kk : Rn g l M R Q k n (pc + 2) (a0 :: a1 :: a2 :: a3 :: a4 :: a5 :: a6 :: a7 :: a8 :: .ref x :: r) st Γ iv rv lv) : Rn g l M R Q k n pc (a0 :: a1 :: a2 :: a3 :: a4 :: a5 :: a6 :: a7 :: a8 :: b0 :: r) (.ref x :: st) Γ iv rv lv := rn_astore (i := 9) hd (by simp) (fun w h _ => by cases h; exact hc) kk
theorem r_iinc9 {a0 a1 a2 a3 a4 a5 a6 a7 a8 : Value} {r : List Value} {x : Int32} {z : Int} (v : Int32) (hd : decode M.2.1 pc = .ok (.iinc 9 z, 3)) (hv : x + Int32.ofInt z = v) (hc : a8.category = 1) (kk : Rn g l M R Q k n (pc + 3) (a0 :: a1 :: a2 :: a3 :: a4 :: a5 :: a6 :: a7 :: a8 :: .int v :: r) st Γ iv rv lv) : Rn g l M R Q k n pc (a0 :: a1 :: a2 :: a3 :: a4 :: a5 :: a6 :: a7 :: a8 :: .int x :: r) st Γ iv rv lv := rn_iinc (i := 9) v hd rfl hv (fun w h _ => by cases h; exact hc) kk
theorem r_iload10 {a0 a1 a2 a3 a4 a5 a6 a7 a8 a9 : Value} {r : List Value} {x : Int32} (hd : decode M.2.1 pc = .ok (.iload 10, 2)) (kk : Rn g l M R Q k n (pc + 2) (a0 :: a1 :: a2 :: a3 :: a4 :: a5 :: a6 :: a7 :: a8 :: a9 :: .int x :: r) (.int x :: st) Γ iv rv lv) : Rn g l M R Q k n pc (a0 :: a1 :: a2 :: a3 :: a4 :: a5 :: a6 :: a7 :: a8 :: a9 :: .int x :: r) st Γ iv rv lv := rn_iload (i := 10) hd rfl kk
theorem r_istore10 {a0 a1 a2 a3 a4 a5 a6 a7 a8 a9 : Value} {b0 : Value} {r : List Value} {x : Int32} (hd : decode M.2.1 pc = .ok (.istore 10, 2)) (hc : a9.category = 1) (kk : Rn g l M R Q k n (pc + 2) (a0 :: a1 :: a2 :: a3 :: a4 :: a5 :: a6 :: a7 :: a8 :: a9 :: .int x :: r) st Γ iv rv lv) : Rn g l M R Q k n pc (a0 :: a1 :: a2 :: a3 :: a4 :: a5 :: a6 :: a7 :: a8 :: a9 :: b0 :: r) (.int x :: st) Γ iv rv lv := rn_istore (i := 10) hd (by simp) (fun w h _ => by cases h; exact hc) kk
theorem r_aload10 {a0 a1 a2 a3 a4 a5 a6 a7 a8 a9 : Value} {r : List Value} {x : Nat} (hd : decode M.2.1 pc = .ok (.aload 10, 2)) (kk : Rn g l M R Q k n (pc + 2) (a0 :: a1 :: a2 :: a3 :: a4 :: a5 :: a6 :: a7 :: a8 :: a9 :: .ref x :: r) (.ref x :: st) Γ iv rv lv) : Rn g l M R Q k n pc (a0 :: a1 :: a2 :: a3 :: a4 :: a5 :: a6 :: a7 :: a8 :: a9 :: .ref x :: r) st Γ iv rv lv := rn_aload (i := 10) hd rfl kk
theorem r_astore10 {a0 a1 a2 a3 a4 a5 a6 a7 a8 a9 : Value} {b0 : Value} {r : List Value} {x : Nat} (hd : decode M.2.1 pc = .ok (.astore 10, 2)) (hc : a9.category = 1) (kk : Rn g l M R Q k n (pc + 2) (a0 :: a1 :: a2 :: a3 :: a4 :: a5 :: a6 :: a7 :: a8 :: a9 :: .ref x :: r) st Γ iv rv lv) : Rn g l M R Q k n pc (a0 :: a1 :: a2 :: a3 :: a4 :: a5 :: a6 :: a7 :: a8 :: a9 :: b0 :: r) (.ref x :: st) Γ iv rv lv := rn_astore (i := 10) hd (by simp) (fun w h _ => by cases h; exact hc) kk
theorem r_iinc10 {a0 a1 a2 a3 a4 a5 a6 a7 a8 a9 : Value} {r : List Value} {x : Int32} {z : Int} (v : Int32) (hd : decode M.2.1 pc = .ok (.iinc 10 z, 3)) (hv : x + Int32.ofInt z = v) (hc : a9.category = 1) (kk : Rn g l M R Q k n (pc + 3) (a0 :: a1 :: a2 :: a3 :: a4 :: a5 :: a6 :: a7 :: a8 :: a9 :: .int v :: r) st Γ iv rv lv) : Rn g l M R Q k n pc (a0 :: a1 :: a2 :: a3 :: a4 :: a5 :: a6 :: a7 :: a8 :: a9 :: .int x :: r) st Γ iv rv lv := rn_iinc (i := 10) v hd rfl hv (fun w h _ => by cases h; exact hc) kk
theorem r_iload11 {a0 a1 a2 a3 a4 a5 a6 a7 a8 a9 a10 : Value} {r : List Value} {x : Int32} (hd : decode M.2.1 pc = .ok (.iload 11, 2)) (kk : Rn g l M R Q k n (pc + 2) (a0 :: a1 :: a2 :: a3 :: a4 :: a5 :: a6 :: a7 :: a8 :: a9 :: a10 :: .int x :: r) (.int x :: st) Γ iv rv lv) : Rn g l M R Q k n pc (a0 :: a1 :: a2 :: a3 :: a4 :: a5 :: a6 :: a7 :: a8 :: a9 :: a10 :: .int x :: r) st Γ iv rv lv := rn_iload (i := 11) hd rfl kk
theorem r_istore11 {a0 a1 a2 a3 a4 a5 a6 a7 a8 a9 a10 : Value} {b0 : Value} {r : List Value} {x : Int32} (hd : decode M.2.1 pc = .ok (.istore 11, 2)) (hc : a10.category = 1) (kk : Rn g l M R Q k n (pc + 2) (a0 :: a1 :: a2 :: a3 :: a4 :: a5 :: a6 :: a7 :: a8 :: a9 :: a10 :: .int x :: r) st Γ iv rv lv) : Rn g l M R Q k n pc (a0 :: a1 :: a2 :: a3 :: a4 :: a5 :: a6 :: a7 :: a8 :: a9 :: a10 :: b0 :: r) (.int x :: st) Γ iv rv lv := rn_istore (i := 11) hd (by simp) (fun w h _ => by cases h; exact hc) kk
theorem r_aload11 {a0 a1 a2 a3 a4 a5 a6 a7 a8 a9 a10 : Value} {r : List Value} {x : Nat} (hd : decode M.2.1 pc = .ok (.aload 11, 2)) (kk : Rn g l M R Q k n (pc + 2) (a0 :: a1 :: a2 :: a3 :: a4 :: a5 :: a6 :: a7 :: a8 :: a9 :: a10 :: .ref x :: r) (.ref x :: st) Γ iv rv lv) : Rn g l M R Q k n pc (a0 :: a1 :: a2 :: a3 :: a4 :: a5 :: a6 :: a7 :: a8 :: a9 :: a10 :: .ref x :: r) st Γ iv rv lv := rn_aload (i := 11) hd rfl kk
theorem r_astore11 {a0 a1 a2 a3 a4 a5 a6 a7 a8 a9 a10 : Value} {b0 : Value} {r : List Value} {x : Nat} (hd : decode M.2.1 pc = .ok (.astore 11, 2)) (hc : a10.category = 1) (kk : Rn g l M R Q k n (pc + 2) (a0 :: a1 :: a2 :: a3 :: a4 :: a5 :: a6 :: a7 :: a8 :: a9 :: a10 :: .ref x :: r) st Γ iv rv lv) : Rn g l M R Q k n pc (a0 :: a1 :: a2 :: a3 :: a4 :: a5 :: a6 :: a7 :: a8 :: a9 :: a10 :: b0 :: r) (.ref x :: st) Γ iv rv lv := rn_astore (i := 11) hd (by simp) (fun w h _ => by cases h; exact hc) kk
theorem r_iinc11 {a0 a1 a2 a3 a4 a5 a6 a7 a8 a9 a10 : Value} {r : List Value} {x : Int32} {z : Int} (v : Int32) (hd : decode M.2.1 pc = .ok (.iinc 11 z, 3)) (hv : x + Int32.ofInt z = v) (hc : a10.category = 1) (kk : Rn g l M R Q k n (pc + 3) (a0 :: a1 :: a2 :: a3 :: a4 :: a5 :: a6 :: a7 :: a8 :: a9 :: a10 :: .int v :: r) st Γ iv rv lv) : Rn g l M R Q k n pc (a0 :: a1 :: a2 :: a3 :: a4 :: a5 :: a6 :: a7 :: a8 :: a9 :: a10 :: .int x :: r) st Γ iv rv lv := rn_iinc (i := 11) v hd rfl hv (fun w h _ => by cases h; exact hc) kk
end RULES
end
section
/-! RULES of the heap: fields, arrays, ends -/
section HEAPR
variable {g : GS} {l : Launch} {M : MI} {R : Room} {Q : Qt} {k n pc : Nat} {ls st : List Value} {Γ : Sh} {iv : IV} {rv : RV} {lv : LV}
theorem kS {s : State} (hG : GoodG g) (hw : g.s0.WarmedH s.vm) : va_K g.dd vwCl [] s := va_K.moved hw.alike hG.1
theorem cl_lt {ci : Nat} {q : vw_C} (h : vwCl[ci]? = some q) : ci < 8 := (List.getElem?_eq_some_iff.mp h).1
/-- the object's cell -/
theorem obj_at {H : Heap} {i ci : Nat} {q : vw_C} (hR : RepH g Γ iv rv lv H) (hK : IsK Γ i ci) (hc : vwCl[ci]? = some q) : t_OB (rho g i) (g.dd.1 ci) q.2.2 (g.dd.2 ci) H (fun k => cv g (sv (tyc ci k) iv rv lv i k)) := by
  obtain ⟨h1, h2, h3⟩ := hK
  rcases hR.2.2.2 i h1 h2 with ⟨r, a, b⟩ | ⟨a, b, c⟩
  · rw [h3] at a b
    cases hc.symm.trans a
    exact b
  · have := cl_lt hc
    rw [h3] at a
    omega
theorem arr_at {H : Heap} {i c m : Nat} (hR : RepH g Γ iv rv lv H) (hA : IsA Γ i c m) (hc : 20 ≤ c) : H[rho g i]? = some (arrV (g.ac c) m (fun j => cv g (sv (aty c) iv rv lv i j))) ∧ c < 25 := by
  obtain ⟨h1, h2, h3, h4⟩ := hA
  rcases hR.2.2.2 i h1 h2 with ⟨r, a, b⟩ | ⟨a, b, c⟩
  · have := cl_lt a
    rw [h3] at this
    omega
  · rw [h3, h4] at c
    exact ⟨c, h3 ▸ b⟩
theorem rn_iret {v : Int32} (hd : decode M.2.1 pc = .ok (.ireturn, 1)) (hret : M.2.2.2 = some .int) (hk : k ≤ R.cells) (hn : n ≤ R.slots) (hq : Q (some (.int v)) Γ iv rv lv) : Rn g l M R Q k n pc ls [.int v] Γ iv rv lv := by
  intro p e s m args below meth c H locs lsC hG cx hR hlo hls
  obtain ⟨hx, hb, hr, hml, hown, hnm, hts, hlk, hwm⟩ := id cx
  exact W.widen hk hn (W.iret hx hb (hr.trans hret) (fun t ht hW => ⟨some (.int v), Γ, iv, rv, lv, rfl, hq, by rw [ht]; exact hR⟩) hlo hd)
theorem rn_zret {v : Int32} {ty : FieldType} (hd : decode M.2.1 pc = .ok (.ireturn, 1)) (hret : M.2.2.2 = some ty) (hv : narrow ty (.int v) = .int v) (hk : k ≤ R.cells) (hn : n ≤ R.slots) (hq : Q (some (.int v)) Γ iv rv lv) : Rn g l M R Q k n pc ls [.int v] Γ iv rv lv := by
  intro p e s m args below meth c H locs lsC hG cx hR hlo hls
  obtain ⟨hx, hb, hr, hml, hown, hnm, hts, hlk, hwm⟩ := id cx
  exact W.widen hk hn (W.zret hx hb (hr.trans hret) hv (fun t ht hW => ⟨some (.int v), Γ, iv, rv, lv, rfl, hq, by rw [ht]; exact hR⟩) hlo hd)
theorem rn_lret {v : Int64} (hd : decode M.2.1 pc = .ok (.lreturn, 1)) (hret : M.2.2.2 = some .long) (hk : k ≤ R.cells) (hn : n ≤ R.slots) (hq : Q (some (.long v)) Γ iv rv lv) : Rn g l M R Q k n pc ls [.long v] Γ iv rv lv := by
  intro p e s m args below meth c H locs lsC hG cx hR hlo hls
  obtain ⟨hx, hb, hr, hml, hown, hnm, hts, hlk, hwm⟩ := id cx
  exact W.widen hk hn (W.lret hx hb (hr.trans hret) (fun t ht hW => ⟨some (.long v), Γ, iv, rv, lv, rfl, hq, by rw [ht]; exact hR⟩) hlo hd)
theorem rn_vret (hd : decode M.2.1 pc = .ok (.return_, 1)) (hret : M.2.2.2 = none) (hk : k ≤ R.cells) (hn : n ≤ R.slots) (hq : Q none Γ iv rv lv) : Rn g l M R Q k n pc ls [] Γ iv rv lv := by
  intro p e s m args below meth c H locs lsC hG cx hR hlo hls
  obtain ⟨hx, hb, hr, hml, hown, hnm, hts, hlk, hwm⟩ := id cx
  exact W.widen hk hn (W.vret hx hb (hr.trans hret) (fun t ht hW => ⟨none, Γ, iv, rv, lv, rfl, hq, by rw [ht]; exact hR⟩) hlo hd)
theorem rn_aret {i : Nat} {rt : FieldType} (hd : decode M.2.1 pc = .ok (.areturn, 1)) (hret : M.2.2.2 = some rt) (hrt : (∃ n, rt = .object n) ∨ ∃ t, rt = .array t) (hk : k ≤ R.cells) (hn : n ≤ R.slots) (hq : Q (some (.ref i)) Γ iv rv lv) : Rn g l M R Q k n pc ls [.ref i] Γ iv rv lv := by
  intro p e s m args below meth c H locs lsC hG cx hR hlo hls
  obtain ⟨hx, hb, hr, hml, hown, hnm, hts, hlk, hwm⟩ := id cx
  have hv : cv g (.ref i) = .null ∨ ∃ a, cv g (.ref i) = .ref a := by
    by_cases h : i = 0
    · subst h; exact Or.inl rfl
    · exact Or.inr ⟨_, cv_ref g (by omega)⟩
  exact W.widen hk hn (W.aret hx hb (hr.trans hret) hrt hv (fun t ht hW => ⟨some (.ref i), Γ, iv, rv, lv, rfl, hq, by rw [ht]; exact hR⟩) hlo hd)
theorem rn_get {i ci fk index : Nat} {C : String} {T : u_T} {N : Nat} (hd : decode M.2.1 pc = .ok (.getfield index, 3)) (hK : IsK Γ i ci) (hc : vwCl[ci]? = some (C, T, N)) (hin : ∀ w ∈ u_ws C T N, w ∈ gtb) (hkN : fk < N) (hl : Cond.fieldLink M.1.cls index (T fk).1 (T fk).2.1 (T fk).2.2.1 ∈ gtb)
    (kk : Rn g l M R Q k n (pc + 3) ls (sv (tyc ci fk) iv rv lv i fk :: st) Γ iv rv lv) : Rn g l M R Q k n pc ls (.ref i :: st) Γ iv rv lv := by
  intro p e s m args below meth c H locs lsC hG cx hR hlo hls
  have kk := kk p e s m args below meth c H locs lsC hG cx hR hlo hls
  obtain ⟨hx, hb, hr, hml, hown, hnm, hts, hlk, hwm⟩ := id cx
  obtain ⟨cell, q1, q2, q3, q4⟩ := obj_at hR hK hc
  obtain ⟨hS, hfc, kC, hkC, hkind⟩ := (kS hG hwm).1 ci _ hc
  obtain ⟨cf, kf, fi, f, hi, hsl⟩ := hS fk hkN
  rw [List.map_cons, cv_new hK.1]
  refine W.getf hx hb hown (hts _ hl) hi (u_facts hfc hkC (u_lays hts hin hkN) hi).1 q1 (by rw [q3]; exact fun h => by cases h) (v := cv g (sv (tyc ci fk) iv rv lv i fk)) ?_ rfl rfl hd kk
  rw [hsl, q4 fk hkN]
theorem rn_put {i ci fk index : Nat} {C : String} {T : u_T} {N : Nat} {v : Value} {iv' : IV} {rv' : RV} {lv' : LV} {ty0 : Nat → FieldType} (hd : decode M.2.1 pc = .ok (.putfield index, 3)) (hK : IsK Γ i ci) (hc : vwCl[ci]? = some (C, T, N)) (hin : ∀ w ∈ u_ws C T N, w ∈ gtb) (hkN : fk < N) (hl : Cond.fieldLink M.1.cls index (T fk).1 (T fk).2.1 (T fk).2.2.1 ∈ gtb)
    (hty : ∀ k, k < N → parseFieldDescriptor (T k).2.2.1 = some (ty0 k)) (hnm' : ∀ a, a < N → ∀ b, b < N → a ≠ b → (T a).2.1 ≠ (T b).2.1)
    (hfin : (T fk).2.2.2 = false ∨ (M.1.name = "<init>" ∧ (T fk).2.2.2 = true ∧ (T fk).1 = M.1.cls)) (hnar : narrow (ty0 fk) (cv g v) = cv g v) (hfit : fits (ty0 fk) (cv g v) = true)
    (hs : ∀ k, sv (tyc ci k) iv' rv' lv' i k = if k = fk then v else sv (tyc ci k) iv rv lv i k) (h1 : ∀ j k, j ≠ i → iv' j k = iv j k) (h2 : ∀ j k, j ≠ i → rv' j k = rv j k) (h3 : ∀ j k, j ≠ i → lv' j k = lv j k)
    (kk : Rn g l M R Q k n (pc + 3) ls st Γ iv' rv' lv') : Rn g l M R Q k n pc ls (v :: .ref i :: st) Γ iv rv lv := by
  intro p e s m args below meth c H locs lsC hG cx hR hlo hls
  obtain ⟨hx, hb, hr, hml, hown, hnm, hts, hlk, hwm⟩ := id cx
  have hKs := kS hG hwm
  have hap := va_apart (own := M.1.cls) hts hin ty0 hty hnm' hKs hc
  obtain ⟨cell, q1, q2, q3, q4⟩ := obj_at hR hK hc
  obtain ⟨hS, hfc, kC, hkC, hkind⟩ := hKs.1 ci _ hc
  obtain ⟨cf, kf, fi, f, hi, hsl⟩ := hS fk hkN
  have hlay := hts _ (hin _ (u_in_lay hkN))
  have hst := (u_facts hfc hkC (u_lays hts hin hkN) hi).1
  rw [List.map_cons, List.map_cons, cv_new hK.1]
  have fin : ∀ H' : Heap, H'[rho g i]? = some (cell.setSlot f.slot (cv g v)) → H'.size = H.size → (∀ q, q ≠ rho g i → H'[q]? = H[q]?) → W p l e R s m args below meth c H' (locs ++ [⟨rho g i, f.slot⟩]) k n (MQ below (QcA g Q) args s R.cells R.slots (oldA g)) (F0 m (pc + 3) lsC (st.map (cv g))) := by
    intro H' e1 e2 e3
    rw [hsl] at e1
    refine kk p e s m args below meth c H' _ lsC hG cx (hR.put hK.1 e2 e3 ?_ h1 h2 h3) (t_lc hlo (rho_base hK.1)) hls
    refine Or.inl ⟨(C, T, N), by rw [hK.2.2]; exact hc, ?_⟩
    rw [hK.2.2]
    refine t_OB.to (V := updV (fun k => cv g (sv (tyc ci k) iv rv lv i k)) fk (cv g v)) ⟨_, e1, q2, q3, t_set q4 hap hkN _⟩ (fun j _ => ?_)
    rw [hs j]
    unfold updV
    split <;> rfl
  rcases hfin with hfin | ⟨hin2, hfin, hdecl⟩
  · unfold u_lay at hlay
    rw [if_neg (by rw [hfin]; decide)] at hlay
    have h6 := u_store hfc hkC hkind hlay hi (hty fk hkN) hnar hfit
    exact W.putK hx hb (f := f) ⟨hown, hts _ hl, ⟨_, _, _, hi⟩, hst⟩ (by rw [q2]; exact h6) q1 q3 (by rw [hsl]; exact k2_hasslot (q4 fk hkN)) rfl rfl hd fin
  · unfold u_lay at hlay
    rw [if_pos hfin] at hlay
    have hcf : m.cls = cf := by
      obtain ⟨_, _, c', _, _, _, -, -, hf', -, -, -, hown2, -⟩ := Cond.laysFinal_spec hlay
      have e1 : c' = cf := by have := hi.symm.trans hf'; simp at this; exact this.1.symm
      rw [hdecl] at hown2
      rw [← e1]; exact Option.some.inj (hown.symm.trans hown2)
    have h6 := u_fits hfc hkC hkind (Or.inr hlay) hi (hty fk hkN) hnar hfit
    exact W.putFinK hx hb hown (hts _ hl) hi hst hcf (hnm.trans hin2) (by rw [q2]; exact h6) q1 q3 (by rw [hsl]; exact k2_hasslot (q4 fk hkN)) rfl rfl hd fin
/-- arrays: a place by its number -/
theorem in_of {x : Int32} {q len : Nat} (hj : x = nI q) (hq : q < len) (hl : len < 2 ^ 31) : ¬ (x < 0 ∨ len ≤ x.toNatClampNeg) ∧ x.toNatClampNeg = q := by
  subst hj
  exact ⟨nI_in hq hl, nI_clamp (by omega)⟩
theorem arrOf {s : State} (hG : GoodG g) (hw : g.s0.WarmedH s.vm) {c m : Nat} (h1 : 20 ≤ c) (h2 : c < 25) (z : Nat → Value) : s.isArrayOf (arrV (g.ac c) m z) (aty c) := arrOfT_moved hw.alike (hG.2.1 c h1 h2).1 m z
theorem rn_iald {a len : Nat} {x : Int32} (q : Nat) (hd : decode M.2.1 pc = .ok (.iaload, 1)) (hA : IsA Γ a 20 len) (hj : x = nI q) (hq : q < len) (hl : len < 2 ^ 31) (kk : Rn g l M R Q k n (pc + 1) ls (.int (iv a q) :: st) Γ iv rv lv) : Rn g l M R Q k n pc ls (.int x :: .ref a :: st) Γ iv rv lv := by
  intro p e s m args below meth c H locs lsC hG cx hR hlo hls
  have kk := kk p e s m args below meth c H locs lsC hG cx hR hlo hls
  obtain ⟨hx, hb, hr, hml, hown, hnm, hts, hlk, hwm⟩ := id cx
  obtain ⟨hcell, -⟩ := arr_at hR hA (by omega)
  obtain ⟨hin, hcl⟩ := in_of hj hq hl
  rw [List.map_cons, List.map_cons, cv_new hA.1]
  exact W.iald (v := .int (iv a q)) hx hb hcell (arrOf hG hwm (by omega) (by omega) _) (fun h => by cases h) (by rw [arrV_size]; exact hin) (by rw [hcl]; exact arrV_read _ _ hq) rfl rfl hd kk
theorem rn_zald {a len : Nat} {x : Int32} (q : Nat) (hd : decode M.2.1 pc = .ok (.baload, 1)) (hA : IsA Γ a 21 len) (hj : x = nI q) (hq : q < len) (hl : len < 2 ^ 31) (kk : Rn g l M R Q k n (pc + 1) ls (.int (iv a q) :: st) Γ iv rv lv) : Rn g l M R Q k n pc ls (.int x :: .ref a :: st) Γ iv rv lv := by
  intro p e s m args below meth c H locs lsC hG cx hR hlo hls
  have kk := kk p e s m args below meth c H locs lsC hG cx hR hlo hls
  obtain ⟨hx, hb, hr, hml, hown, hnm, hts, hlk, hwm⟩ := id cx
  obtain ⟨hcell, -⟩ := arr_at hR hA (by omega)
  obtain ⟨hin, hcl⟩ := in_of hj hq hl
  rw [List.map_cons, List.map_cons, cv_new hA.1]
  exact W.zald (v := .int (iv a q)) hx hb hcell (arrOf hG hwm (by omega) (by omega) _) (fun h => by cases h) (by rw [arrV_size]; exact hin) (by rw [hcl]; exact arrV_read _ _ hq) rfl rfl hd kk
theorem rn_aald {a c len : Nat} {x : Int32} (q : Nat) (hd : decode M.2.1 pc = .ok (.aaload, 1)) (hA : IsA Γ a c len) (h23 : c = 23 ∨ c = 24) (hj : x = nI q) (hq : q < len) (hl : len < 2 ^ 31) (kk : Rn g l M R Q k n (pc + 1) ls (.ref (rv a q) :: st) Γ iv rv lv) : Rn g l M R Q k n pc ls (.int x :: .ref a :: st) Γ iv rv lv := by
  intro p e s m args below meth c H locs lsC hG cx hR hlo hls
  have kk := kk p e s m args below meth c H locs lsC hG cx hR hlo hls
  obtain ⟨hx, hb, hr, hml, hown, hnm, hts, hlk, hwm⟩ := id cx
  obtain ⟨hcell, -⟩ := arr_at hR hA (by omega)
  obtain ⟨hin, hcl⟩ := in_of hj hq hl
  rw [List.map_cons, List.map_cons, cv_new hA.1]
  refine W.aald (v := cv g (.ref (rv a q))) hx hb hcell (arrOf hG hwm (by omega) (by omega) _) ?_ (fun h => by cases h) (by rw [arrV_size]; exact hin) (by rw [hcl, arrV_read _ _ hq]; rcases h23 with rfl | rfl <;> rfl) rfl rfl hd kk
  rcases h23 with rfl | rfl <;> rfl
theorem rn_alen {a c len : Nat} (v : Int32) (hd : decode M.2.1 pc = .ok (.arraylength, 1)) (hA : IsA Γ a c len) (hc : 20 ≤ c) (hv : nI len = v) (kk : Rn g l M R Q k n (pc + 1) ls (.int v :: st) Γ iv rv lv) : Rn g l M R Q k n pc ls (.ref a :: st) Γ iv rv lv := by
  intro p e s m args below meth cc H locs lsC hG cx hR hlo hls
  have kk := kk p e s m args below meth cc H locs lsC hG cx hR hlo hls
  obtain ⟨hx, hb, hr, hml, hown, hnm, hts, hlk, hwm⟩ := id cx
  obtain ⟨hcell, h25⟩ := arr_at hR hA hc
  rw [List.map_cons, cv_new hA.1]
  exact W.alen (n := v) hx hb hcell (arrOf hG hwm hc h25 _) (by rw [arrV_size, ← hv]; rfl) rfl rfl hd kk
/-- a store into an array -/
theorem rep_ast {H H' : Heap} {a c len q : Nat} {v : Value} {iv' : IV} {rv' : RV} {lv' : LV} (hR : RepH g Γ iv rv lv H) (hA : IsA Γ a c len) (hc : 20 ≤ c) (h25 : c < 25) (e1 : H'[rho g a]? = some ((arrV (g.ac c) len (fun j => cv g (sv (aty c) iv rv lv a j))).setSlot q (cv g v))) (e2 : H'.size = H.size) (e3 : ∀ z, z ≠ rho g a → H'[z]? = H[z]?)
    (hs : ∀ j, sv (aty c) iv' rv' lv' a j = if j = q then v else sv (aty c) iv rv lv a j) (h1 : ∀ j k, j ≠ a → iv' j k = iv j k) (h2 : ∀ j k, j ≠ a → rv' j k = rv j k) (h3 : ∀ j k, j ≠ a → lv' j k = lv j k) : RepH g Γ iv' rv' lv' H' := by
  refine hR.put hA.1 e2 e3 ?_ h1 h2 h3
  refine Or.inr ⟨by rw [hA.2.2.1]; exact hc, by rw [hA.2.2.1]; exact h25, ?_⟩
  rw [hA.2.2.1, hA.2.2.2, e1, arrV_store]
  congr 2
  funext j
  rw [hs j]
  unfold updV
  split <;> rfl
theorem rn_iast {a len : Nat} {x w : Int32} (q : Nat) (hd : decode M.2.1 pc = .ok (.iastore, 1)) (hA : IsA Γ a 20 len) (hj : x = nI q) (hq : q < len) (hl : len < 2 ^ 31) (kk : Rn g l M R Q k n (pc + 1) ls st Γ (up iv a q w) rv lv) : Rn g l M R Q k n pc ls (.int w :: .int x :: .ref a :: st) Γ iv rv lv := by
  intro p e s m args below meth c H locs lsC hG cx hR hlo hls
  obtain ⟨hx, hb, hr, hml, hown, hnm, hts, hlk, hwm⟩ := id cx
  obtain ⟨hcell, -⟩ := arr_at hR hA (by omega)
  obtain ⟨hin, hcl⟩ := in_of hj hq hl
  rw [List.map_cons, List.map_cons, List.map_cons, cv_new hA.1]
  refine W.iast hx hb hcell (arrOf hG hwm (by omega) (by omega) _) (fun h => by cases h) (by rw [arrV_size]; exact hin) rfl rfl hd (fun H' e1 e2 e3 => ?_)
  rw [hcl] at e1
  refine kk p e s m args below meth c H' _ lsC hG cx (rep_ast (v := .int w) hR hA (by omega) (by omega) e1 e2 e3 (fun j => ?_) (fun j k h => up_ne1 h) (fun _ _ _ => rfl) (fun _ _ _ => rfl)) (t_lc hlo (rho_base hA.1)) hls
  show Value.int (up iv a q w a j) = _
  by_cases h : j = q
  · subst h; rw [up_same, if_pos rfl]
  · rw [up_ne2 h, if_neg h]; rfl
theorem rn_zast {a len : Nat} {x w : Int32} (q : Nat) (hd : decode M.2.1 pc = .ok (.bastore, 1)) (hA : IsA Γ a 21 len) (hj : x = nI q) (hq : q < len) (hl : len < 2 ^ 31) (hw : narrow .boolean (.int w) = .int w) (kk : Rn g l M R Q k n (pc + 1) ls st Γ (up iv a q w) rv lv) : Rn g l M R Q k n pc ls (.int w :: .int x :: .ref a :: st) Γ iv rv lv := by
  intro p e s m args below meth c H locs lsC hG cx hR hlo hls
  obtain ⟨hx, hb, hr, hml, hown, hnm, hts, hlk, hwm⟩ := id cx
  obtain ⟨hcell, -⟩ := arr_at hR hA (by omega)
  obtain ⟨hin, hcl⟩ := in_of hj hq hl
  rw [List.map_cons, List.map_cons, List.map_cons, cv_new hA.1]
  refine W.zast hx hb hcell (arrOf hG hwm (by omega) (by omega) _) (fun h => by cases h) (by rw [arrV_size]; exact hin) rfl rfl hd (fun H' e1 e2 e3 => ?_)
  rw [hcl, hw] at e1
  refine kk p e s m args below meth c H' _ lsC hG cx (rep_ast (v := .int w) hR hA (by omega) (by omega) e1 e2 e3 (fun j => ?_) (fun j k h => up_ne1 h) (fun _ _ _ => rfl) (fun _ _ _ => rfl)) (t_lc hlo (rho_base hA.1)) hls
  show Value.int (up iv a q w a j) = _
  by_cases h : j = q
  · subst h; rw [up_same, if_pos rfl]
  · rw [up_ne2 h, if_neg h]; rfl
end HEAPR
end
section
/-! RULES of calls, statics, texts, new cells, natives -/
section CALLR
variable {g : GS} {l : Launch} {M M' : MI} {R : Room} {Q Qc : Qt} {k n pc : Nat} {ls st : List Value} {Γ : Sh} {iv : IV} {rv : RV} {lv : LV}
theorem pcA_blind {as : List Value} : FrameBlind (PcA g as Γ iv rv lv) := fun _ _ _ _ q => ⟨q.1, q.2.1, q.2.2⟩
theorem pcA_at {as : List Value} {s : State} {H : Heap} (hw : g.s0.WarmedH s.vm) (hR : RepH g Γ iv rv lv H) : ∀ U : State, U.heap = H → s.WarmedH U.vm → PcA g as Γ iv rv lv (as.map (cv g)).toArray U := fun U hU hW => ⟨rfl, State.WarmedH.trans hw hW, by rw [hU]; exact hR⟩
theorem good_sub {ws : List Cond} (h : ∀ w ∈ ws, w ∈ gtb) : GoodIn gtb ws := fun w hw => gtb_good w (h w hw)
/-- what a callee's name must bring -/
def OkM (M : MI) (np : Nat) : Prop := Cond.code M.1 M.2.1 M.2.2.1 M.2.2.2 ∈ gtb ∧ Cond.initialized M.1.cls ∈ gtb ∧ M.1.cls ≠ "java/lang/invoke/MethodHandle" ∧ M.1.cls ≠ "java/lang/invoke/VarHandle" ∧ (parseMethodDescriptor M.1.desc).map (fun d => d.parameters.length) = some np ∧ M.2.2.1 ≤ 80
def OkV (M : MI) (np : Nat) : Prop := OkM M np ∧ Cond.instanceMethod M.1 ∈ gtb ∧ Cond.selects M.1.cls M.1 M.1 ∈ gtb
def OkS (M : MI) (np : Nat) : Prop := OkM M np ∧ Cond.static M.1 ∈ gtb
def OkI (M : MI) (np : Nat) : Prop := OkM M np ∧ Cond.instanceMethod M.1 ∈ gtb ∧ M.1.name = "<init>" ∧ M.2.2.2 = none
theorem codes_in (h : Cond.code M'.1 M'.2.1 M'.2.2.1 M'.2.2.2 ∈ gtb) : ∀ w ∈ (Cond.code M'.1 M'.2.1 M'.2.2.1 M'.2.2.2 :: gtb), w ∈ gtb := fun w hw => by
  rcases List.mem_cons.mp hw with rfl | h1
  · exact h
  · exact h1
theorem callB_A {np d' mc ms index : Nat} {s : State} {args : Array Value} (hts : ∀ w ∈ gtb, w.before args s = true) (ok : OkM M' np) (hl : (Cond.methodLink M.1.cls index M'.1) ∈ gtb) (hf : d' + 1 ≤ R.frames) (hlo : 100 * d' + 100 ≤ R.locals) :
    CallB R s args M.1.cls index M'.1 M'.2.1 M'.2.2.1 M'.2.2.2 (Cond.code M'.1 M'.2.1 M'.2.2.1 M'.2.2.2 :: gtb) (rmA d' mc ms) mc ms np := by
  obtain ⟨h1, h2, h3, h4, h5, h6⟩ := ok
  exact callB_of np hts (good_sub (codes_in h1)) rfl rfl rfl (hts _ h2) (hts _ hl) ⟨h3, h4, h5⟩ ⟨hf, by show 8 + (M'.2.2.1 + 11) + 100 * d' ≤ _; omega⟩
theorem ofRun {p : Program} {e : Env} {s : State} {m : MethodId} {args : Array Value} {below : List Frame} {meth : Method} {c : Code} {H : Heap} {locs : List Loc} {lsC : Array Slot} {mc ms : Nat} {st0 : List Value} {a : Array Value}
    (hr : va_Run p l e R s m args below meth c H locs k n mc ms (F0 m pc lsC st0) (st.map (cv g)) (QcA g Qc a) (oldA g)) (hG : GoodG g) (cx : Cx g M p s m args meth c) (hlo : ∀ q ∈ locs, gbase g ≤ q.base) (hls : lsOK g M.2.2.1 ls lsC)
    (kk : ∀ r Γ' iv' rv' lv', Qc r Γ' iv' rv' lv' → Rn g l M R Q (k + mc) (n + ms) (pc + 3) ls (r.toList ++ st) Γ' iv' rv' lv') :
    W p l e R s m args below meth c H locs k n (MQ below (QcA g Q) args s R.cells R.slots (oldA g)) (F0 m pc lsC st0) := by
  intro T hT X
  obtain ⟨v, st₀, t, T', L, h0, X', hL, e1, e2, ⟨r, Γ', iv', rv', lv', hv, hq, hrep⟩, sp⟩ := hr T hT X
  cases hv
  obtain ⟨t2, a1, b1⟩ := kk r Γ' iv' rv' lv' hq p e s m args below meth c T'.heap (locs ++ L) lsC hG cx (by rw [e1]; exact hrep) (t_lL hlo hL) hls T' rfl X'
  refine ⟨t2, sp t2 ?_, b1⟩
  have : (r.map (cv g)).toList ++ st.map (cv g) = (r.toList ++ st).map (cv g) := by cases r <;> rfl
  rw [this]
  exact a1
theorem cat_map (st : List Value) : ((st.map (cv g)).map fun v => v.category).sum = (st.map fun v => v.category).sum := by
  rw [List.map_map]
  congr 1
  exact List.map_congr_left (fun v _ => cv_cat g v)
theorem rn_callV {b ci np d' mc ms index : Nat} {As : List Value} {T : u_T} {N : Nat} (hd : decode M.2.1 pc = .ok (.invokevirtual index, 3)) (ok : OkV M' np) (hl : (Cond.methodLink M.1.cls index M'.1) ∈ gtb) (hK : IsK Γ b ci) (hc : vwCl[ci]? = some (M'.1.cls, T, N)) (hn : As.length = np) (hst : (st.map fun v => v.category).sum ≤ 8)
    (hf : d' + 1 ≤ R.frames) (hlo : 100 * d' + 100 ≤ R.locals) (hk : k + mc ≤ R.cells) (hs : n + ms ≤ R.slots) (hct : Ct g l M' d' mc ms (.ref b :: As) Γ iv rv lv Qc)
    (kk : ∀ r Γ' iv' rv' lv', Qc r Γ' iv' rv' lv' → Rn g l M R Q (k + mc) (n + ms) (pc + 3) ls (r.toList ++ st) Γ' iv' rv' lv') : Rn g l M R Q k n pc ls (As.reverse ++ .ref b :: st) Γ iv rv lv := by
  intro p e s m args below meth c H locs lsC hG cx hR hlo' hls
  obtain ⟨hx, hb, hr, hml, hown, hnm, hts, hlk, hwm⟩ := id cx
  obtain ⟨cell, q1, q2, q3, q4⟩ := obj_at hR hK hc
  obtain ⟨-, hfc, -⟩ := (kS hG hwm).1 ci _ hc
  have h2 := pcA_at (as := .ref b :: As) hwm hR
  have e1 : (Value.ref b :: As).map (cv g) = .ref (rho g b) :: As.map (cv g) := by rw [List.map_cons, cv_new hK.1]
  rw [e1] at h2
  refine ofRun (a := (Value.ref (rho g b) :: As.map (cv g)).toArray) (mc := mc) (ms := ms) (va_runV (As := As.map (cv g)) (b := rho g b) (C := M'.1.cls) (n := np) (bytes := M'.2.1) (maxL := M'.2.2.1) (ret := M'.2.2.2) ⟨hx, hb, hml, hown, hts⟩ (hct hG) ⟨callB_A hts ok.1 hl hf hlo, hts _ ok.2.1, hts _ ok.2.2⟩ ⟨pcA_blind, ⟨cell, q1, by rw [q3]; rfl, by rw [q2]; exact hfc⟩, h2⟩ rfl (by rw [List.length_map]; exact hn) hls.1 ?_ ?_ hd ⟨hk, hs⟩) hG cx hlo' hls kk
  · show List.map (cv g) _ = _
    rw [List.map_append, List.map_reverse, List.map_cons, cv_new hK.1]
  · exact lv_room (by rw [cat_map]; exact hst)
theorem rn_callS {np d' mc ms index : Nat} {As : List Value} (hd : decode M.2.1 pc = .ok (.invokestatic index, 3)) (ok : OkS M' np) (hl : (Cond.methodLink M.1.cls index M'.1) ∈ gtb) (hn : As.length = np) (hst : (st.map fun v => v.category).sum ≤ 8)
    (hf : d' + 1 ≤ R.frames) (hlo : 100 * d' + 100 ≤ R.locals) (hk : k + mc ≤ R.cells) (hs : n + ms ≤ R.slots) (hct : Ct g l M' d' mc ms As Γ iv rv lv Qc)
    (kk : ∀ r Γ' iv' rv' lv', Qc r Γ' iv' rv' lv' → Rn g l M R Q (k + mc) (n + ms) (pc + 3) ls (r.toList ++ st) Γ' iv' rv' lv') : Rn g l M R Q k n pc ls (As.reverse ++ st) Γ iv rv lv := by
  intro p e s m args below meth c H locs lsC hG cx hR hlo' hls
  obtain ⟨hx, hb, hr, hml, hown, hnm, hts, hlk, hwm⟩ := id cx
  refine ofRun (a := (As.map (cv g)).toArray) (mc := mc) (ms := ms) (va_runS (As := As.map (cv g)) (n := np) (bytes := M'.2.1) (maxL := M'.2.2.1) (ret := M'.2.2.2) ⟨hx, hb, hml, hown, hts⟩ (hct hG) ⟨callB_A hts ok.1 hl hf hlo, hts _ ok.2⟩ ⟨pcA_blind, pcA_at hwm hR⟩ rfl (by rw [List.length_map]; exact hn) hls.1 ?_ ?_ hd ⟨hk, hs⟩) hG cx hlo' hls kk
  · show List.map (cv g) _ = _
    rw [List.map_append, List.map_reverse]
  · exact lv_room (by rw [cat_map]; exact hst)
theorem rn_callI {b ci np d' mc ms index : Nat} {As : List Value} (hd : decode M.2.1 pc = .ok (.invokespecial index, 3)) (ok : OkI M' np) (hl : (Cond.methodLink M.1.cls index M'.1) ∈ gtb) (hK : IsK Γ b ci) (hn : As.length = np) (hst : (st.map fun v => v.category).sum ≤ 8)
    (hf : d' + 1 ≤ R.frames) (hlo : 100 * d' + 100 ≤ R.locals) (hk : k + mc ≤ R.cells) (hs : n + ms ≤ R.slots) (hct : Ct g l M' d' mc ms (.ref b :: As) Γ iv rv lv Qc)
    (kk : ∀ r Γ' iv' rv' lv', Qc r Γ' iv' rv' lv' → Rn g l M R Q (k + mc) (n + ms) (pc + 3) ls (r.toList ++ st) Γ' iv' rv' lv') : Rn g l M R Q k n pc ls (As.reverse ++ .ref b :: st) Γ iv rv lv := by
  intro p e s m args below meth c H locs lsC hG cx hR hlo' hls
  obtain ⟨hx, hb, hr, hml, hown, hnm, hts, hlk, hwm⟩ := id cx
  have h2 := pcA_at (as := .ref b :: As) hwm hR
  have e1 : (Value.ref b :: As).map (cv g) = .ref (rho g b) :: As.map (cv g) := by rw [List.map_cons, cv_new hK.1]
  rw [e1] at h2
  have hcb := callB_A (R := R) (M := M) (M' := M') (mc := mc) (ms := ms) hts ok.1 hl hf hlo
  have hm := hct hG
  rw [ok.2.2.2] at hcb hm
  refine ofRun (a := (Value.ref (rho g b) :: As.map (cv g)).toArray) (mc := mc) (ms := ms) (va_runI (As := As.map (cv g)) (b := rho g b) (n := np) (bytes := M'.2.1) (maxL := M'.2.2.1) ⟨hx, hb, hml, hown, hts⟩ hm ⟨hcb, ok.2.2.1, hts _ ok.2.1⟩ ⟨pcA_blind, h2⟩ rfl (by rw [List.length_map]; exact hn) hls.1 ?_ ?_ hd ⟨hk, hs⟩) hG cx hlo' hls kk
  · show List.map (cv g) _ = _
    rw [List.map_append, List.map_reverse, List.map_cons, cv_new hK.1]
  · exact lv_room (by rw [cat_map]; exact hst)
theorem callN_A {np d' mc ms index : Nat} {host : String} {s : State} {args : Array Value} (hG : GoodG g) (hw : g.s0.WarmedH s.vm) (hts : ∀ w ∈ gtb, w.before args s = true) (ok : OkM M' np) (hl : (Cond.methodLinkNest M.1.cls index M'.1 host) ∈ lw_tbl) (hf : d' + 1 ≤ R.frames) (hlo : 100 * d' + 100 ≤ R.locals) :
    va_CN R s args M.1.cls index M'.1 host M'.2.1 M'.2.2.1 M'.2.2.2 (Cond.code M'.1 M'.2.1 M'.2.2.1 M'.2.2.2 :: gtb) (rmA d' mc ms) mc ms np := by
  obtain ⟨h1, h2, h3, h4, h5, h6⟩ := ok
  exact va_cnB np hts (good_sub (codes_in h1)) rfl rfl rfl ((hG.2.2.2.2.2.2.2.1 _ hl ⟨_, _, _, _, rfl⟩).warmM hw) (hts _ h2) ⟨h3, h4, h5⟩ ⟨hf, by show 8 + (M'.2.2.1 + 11) + 100 * d' ≤ _; omega⟩
theorem rn_callSN {np d' mc ms index : Nat} {host : String} {As : List Value} (hd : decode M.2.1 pc = .ok (.invokestatic index, 3)) (ok : OkS M' np) (hl : (Cond.methodLinkNest M.1.cls index M'.1 host) ∈ lw_tbl) (hn : As.length = np) (hst : (st.map fun v => v.category).sum ≤ 8)
    (hf : d' + 1 ≤ R.frames) (hlo : 100 * d' + 100 ≤ R.locals) (hk : k + mc ≤ R.cells) (hs : n + ms ≤ R.slots) (hct : Ct g l M' d' mc ms As Γ iv rv lv Qc)
    (kk : ∀ r Γ' iv' rv' lv', Qc r Γ' iv' rv' lv' → Rn g l M R Q (k + mc) (n + ms) (pc + 3) ls (r.toList ++ st) Γ' iv' rv' lv') : Rn g l M R Q k n pc ls (As.reverse ++ st) Γ iv rv lv := by
  intro p e s m args below meth c H locs lsC hG cx hR hlo' hls
  obtain ⟨hx, hb, hr, hml, hown, hnm, hts, hlk, hwm⟩ := id cx
  refine ofRun (a := (As.map (cv g)).toArray) (mc := mc) (ms := ms) (va_runSN (As := As.map (cv g)) (n := np) (bytes := M'.2.1) (maxL := M'.2.2.1) (ret := M'.2.2.2) ⟨hx, hb, hml, hown, hts⟩ (hct hG) ⟨callN_A hG hwm hts ok.1 hl hf hlo, hts _ ok.2, trivial⟩ ⟨pcA_blind, pcA_at hwm hR⟩ rfl (by rw [List.length_map]; exact hn) hls.1 ?_ ?_ hd ⟨hk, hs⟩) hG cx hlo' hls kk
  · show List.map (cv g) _ = _
    rw [List.map_append, List.map_reverse]
  · exact lv_room (by rw [cat_map]; exact hst)
theorem rn_callIN {b ci np d' mc ms index : Nat} {host : String} {As : List Value} (hd : decode M.2.1 pc = .ok (.invokespecial index, 3)) (ok : OkI M' np) (hl : (Cond.methodLinkNest M.1.cls index M'.1 host) ∈ lw_tbl) (hK : IsK Γ b ci) (hn : As.length = np) (hst : (st.map fun v => v.category).sum ≤ 8)
    (hf : d' + 1 ≤ R.frames) (hlo : 100 * d' + 100 ≤ R.locals) (hk : k + mc ≤ R.cells) (hs : n + ms ≤ R.slots) (hct : Ct g l M' d' mc ms (.ref b :: As) Γ iv rv lv Qc)
    (kk : ∀ r Γ' iv' rv' lv', Qc r Γ' iv' rv' lv' → Rn g l M R Q (k + mc) (n + ms) (pc + 3) ls (r.toList ++ st) Γ' iv' rv' lv') : Rn g l M R Q k n pc ls (As.reverse ++ .ref b :: st) Γ iv rv lv := by
  intro p e s m args below meth c H locs lsC hG cx hR hlo' hls
  obtain ⟨hx, hb, hr, hml, hown, hnm, hts, hlk, hwm⟩ := id cx
  have h2 := pcA_at (as := .ref b :: As) hwm hR
  have e1 : (Value.ref b :: As).map (cv g) = .ref (rho g b) :: As.map (cv g) := by rw [List.map_cons, cv_new hK.1]
  rw [e1] at h2
  have hcb := callN_A (R := R) (M := M) (M' := M') (mc := mc) (ms := ms) hG hwm hts ok.1 hl hf hlo
  have hm := hct hG
  rw [ok.2.2.2] at hcb hm
  refine ofRun (a := (Value.ref (rho g b) :: As.map (cv g)).toArray) (mc := mc) (ms := ms) (va_runIN (As := As.map (cv g)) (b := rho g b) (n := np) (bytes := M'.2.1) (maxL := M'.2.2.1) ⟨hx, hb, hml, hown, hts⟩ hm ⟨hcb, ok.2.2.1, hts _ ok.2.1⟩ ⟨pcA_blind, h2⟩ rfl (by rw [List.length_map]; exact hn) hls.1 ?_ ?_ hd ⟨hk, hs⟩) hG cx hlo' hls kk
  · show List.map (cv g) _ = _
    rw [List.map_append, List.map_reverse, List.map_cons, cv_new hK.1]
  · exact lv_room (by rw [cat_map]; exact hst)
/-- Object.<init> -/
theorem rn_objInit {b index : Nat} (hd : decode M.2.1 pc = .ok (.invokespecial index, 3)) (hl : (Cond.methodLink M.1.cls index Lib.objectInit) ∈ gtb) (hin : (Cond.instanceMethod Lib.objectInit) ∈ gtb) (hco : (Cond.code Lib.objectInit ⟨#[0xb1]⟩ 1 none) ∈ gtb) (hb0 : 0 < b) (hst : (st.map fun v => v.category).sum ≤ 8) (hf : 1 ≤ R.frames) (hlo : 20 ≤ R.locals)
    (kk : Rn g l M R Q k n (pc + 3) ls st Γ iv rv lv) : Rn g l M R Q k n pc ls (.ref b :: st) Γ iv rv lv := by
  intro p e s m args below meth c H locs lsC hG cx hR hlo' hls
  have kk := kk p e s m args below meth c H locs lsC hG cx hR hlo' hls
  obtain ⟨hx, hb, hr, hml, hown, hnm, hts, hlk, hwm⟩ := id cx
  rw [List.map_cons, cv_ref g hb0]
  refine W.objInit hx hb hown (hts _ hl) (hts _ hin) (hts _ hco) rfl (by rw [hml]; exact hls.1) rfl hd hf ?_ kk
  have := lv_room (m := m) (pc := pc) (ls := lsC) (rest := List.map (cv g) st) (st := st.map (cv g)) (by rw [cat_map]; exact hst)
  have h3 : 2 * (F0 m pc lsC (.ref (rho g b) :: st.map (cv g))).monitorRoom + ((st.map (cv g)).map fun v => v.category).sum ≤ 8 := this
  omega
/-- statics -/
theorem rn_getsI {index i : Nat} {C f : String} (hd : decode M.2.1 pc = .ok (.getstatic index, 3)) (hl : Cond.fieldLink M.1.cls index C f "[I" ∈ gtb) (hi : 0 < i ∧ i < K0) (hZ : ∀ g : GS, GoodG g → va_Z C f "[I" (.ref (g.ro i)) (oldA g) g.s0 g.s0.heap)
    (kk : Rn g l M R Q k n (pc + 3) ls (.ref i :: st) Γ iv rv lv) : Rn g l M R Q k n pc ls st Γ iv rv lv := by
  intro p e s m args below meth c H locs lsC hG cx hR hlo' hls
  have kk := kk p e s m args below meth c H locs lsC hG cx hR hlo' hls
  obtain ⟨hx, hb, hr, hml, hown, hnm, hts, hlk, hwm⟩ := id cx
  obtain ⟨cf, kf, fi, f', a, cell, h1, h2, h3, h4, h5, h6, h7, h8⟩ := (hZ g hG).moved hwm.alike
  rw [List.map_cons, cv_ref g hi.1, rho_old hi.2] at kk
  exact W.gets hx hb hown (hts _ hl) h1 h2 h3 h4 (by rw [hR.2.2.1 a (Nat.not_le.mp h8)]; exact h5) (fun e => by rw [e] at h6; cases h6) h7 rfl hd kk
theorem rn_getsC {index : Nat} (hd : decode M.2.1 pc = .ok (.getstatic index, 3)) (hl : Cond.fieldLink M.1.cls index "java/lang/String" "COMPACT_STRINGS" "Z" ∈ gtb)
    (kk : Rn g l M R Q k n (pc + 3) ls (.int 1 :: st) Γ iv rv lv) : Rn g l M R Q k n pc ls st Γ iv rv lv := by
  intro p e s m args below meth c H locs lsC hG cx hR hlo' hls
  have kk := kk p e s m args below meth c H locs lsC hG cx hR hlo' hls
  obtain ⟨hx, hb, hr, hml, hown, hnm, hts, hlk, hwm⟩ := id cx
  obtain ⟨cf, kf, fi, f', a, cell, h1, h2, h3, h4, h5, h6, h7, h8⟩ := hG.2.2.2.2.1.2.2.2.2.2.1.moved hwm.alike
  exact W.gets hx hb hown (hts _ hl) h1 h2 h3 h4 (by rw [hR.2.2.1 a (Nat.not_le.mp h8)]; exact h5) (fun e => by rw [e] at h6; cases h6) h7 rfl hd kk
theorem rn_getsF {index : Nat} (hd : decode M.2.1 pc = .ok (.getstatic index, 3)) (hl : Cond.fieldLink M.1.cls index "jdk/internal/util/Preconditions" "SIOOBE_FORMATTER" "Ljava/util/function/BiFunction;" ∈ gtb)
    (kk : ∀ z, Rn g l M R Q k n (pc + 3) ls (.ref z :: st) Γ iv rv lv) : Rn g l M R Q k n pc ls st Γ iv rv lv := by
  intro p e s m args below meth c H locs lsC hG cx hR hlo' hls
  obtain ⟨hx, hb, hr, hml, hown, hnm, hts, hlk, hwm⟩ := id cx
  rcases hG.2.2.2.2.1.2.2.2.2.2.2 with hz | hz
  · have kk := kk 0 p e s m args below meth c H locs lsC hG cx hR hlo' hls
    obtain ⟨cf, kf, fi, f', a, cell, h1, h2, h3, h4, h5, h6, h7, h8⟩ := hz.moved hwm.alike
    exact W.gets hx hb hown (hts _ hl) h1 h2 h3 h4 (by rw [hR.2.2.1 a (Nat.not_le.mp h8)]; exact h5) (fun e => by rw [e] at h6; cases h6) h7 rfl hd kk
  · have kk := kk 13 p e s m args below meth c H locs lsC hG cx hR hlo' hls
    obtain ⟨cf, kf, fi, f', a, cell, h1, h2, h3, h4, h5, h6, h7, h8⟩ := hz.moved hwm.alike
    exact W.gets hx hb hown (hts _ hl) h1 h2 h3 h4 (by rw [hR.2.2.1 a (Nat.not_le.mp h8)]; exact h5) (fun e => by rw [e] at h6; cases h6) h7 rfl hd kk
/-- old rows: 2 .. 6 -/
theorem rn_ialdO {i : Nat} {x : Int32} (q : Nat) (hd : decode M.2.1 pc = .ok (.iaload, 1)) (hi : 2 ≤ i ∧ i < 7) (hj : x = nI q) (hq : ∀ g : GS, GoodG g → q < g.oln i ∧ g.oln i < 2 ^ 31) (kk : Rn g l M R Q k n (pc + 1) ls (.int (g.oiv i q) :: st) Γ iv rv lv) : Rn g l M R Q k n pc ls (.int x :: .ref i :: st) Γ iv rv lv := by
  intro p e s m args below meth c H locs lsC hG cx hR hlo' hls
  have kk := kk p e s m args below meth c H locs lsC hG cx hR hlo' hls
  obtain ⟨hx, hb, hr, hml, hown, hnm, hts, hlk, hwm⟩ := id cx
  obtain ⟨cell, h1, h2, h3, h4, h5, h6, h7⟩ := hG.2.2.2.1 i hi.1 hi.2
  obtain ⟨hq1, hq2⟩ := hq g hG
  obtain ⟨hin, hcl⟩ := in_of hj hq1 hq2
  rw [List.map_cons, List.map_cons, cv_ref g (by omega), rho_old (by have : K0 = 14 := rfl; omega)]
  exact W.iald (v := .int (g.oiv i q)) hx hb (by rw [hR.2.2.1 _ (Nat.not_le.mp h7)]; exact h1) (State.isArrayOf_alike hwm.alike h2) h3 (fun h => hin (h.imp id (fun z => Nat.le_trans h4 z))) (by rw [hcl]; exact h6 q hq1) rfl rfl hd kk
theorem rn_alenO {i : Nat} (v : Int32) (hd : decode M.2.1 pc = .ok (.arraylength, 1)) (hi : 2 ≤ i ∧ i < 7) (hv : ∀ g : GS, GoodG g → nI (g.oln i) = v) (kk : Rn g l M R Q k n (pc + 1) ls (.int v :: st) Γ iv rv lv) : Rn g l M R Q k n pc ls (.ref i :: st) Γ iv rv lv := by
  intro p e s m args below meth c H locs lsC hG cx hR hlo' hls
  have kk := kk p e s m args below meth c H locs lsC hG cx hR hlo' hls
  obtain ⟨hx, hb, hr, hml, hown, hnm, hts, hlk, hwm⟩ := id cx
  obtain ⟨cell, h1, h2, h3, h4, h5, h6, h7⟩ := hG.2.2.2.1 i hi.1 hi.2
  rw [List.map_cons, cv_ref g (by omega), rho_old (by have : K0 = 14 := rfl; omega)]
  exact W.alen (n := v) hx hb (by rw [hR.2.2.1 _ (Nat.not_le.mp h7)]; exact h1) (State.isArrayOf_alike hwm.alike h2) (by rw [h5, ← hv g hG]; rfl) rfl rfl hd kk
/-- the script -/
theorem rn_sald {x : Int32} (q : Nat) (hd : decode M.2.1 pc = .ok (.iaload, 1)) (hj : x = nI q) (hq : q < g.oln 1) (hl : g.oln 1 < 2 ^ 31) (kk : Rn g l M R Q k n (pc + 1) ls (.int (g.oiv 1 q) :: st) Γ iv rv lv) : Rn g l M R Q k n pc ls (.int x :: .ref 1 :: st) Γ iv rv lv := by
  intro p e s m args below meth c H locs lsC hG cx hR hlo' hls
  have kk := kk p e s m args below meth c H locs lsC hG cx hR hlo' hls
  obtain ⟨hx, hb, hr, hml, hown, hnm, hts, hlk, hwm⟩ := id cx
  obtain ⟨⟨scr, h1, h2, h3, h4, h5⟩, h6⟩ := hG.2.2.1
  obtain ⟨hin, hcl⟩ := in_of hj hq hl
  rw [List.map_cons, List.map_cons, cv_ref g (by omega), rho_old (by decide)]
  exact W.iald (v := .int (g.oiv 1 q)) hx hb (by rw [hR.2.2.1 _ h6]; exact h1) (State.isArrayOf_alike hwm.alike h2) h3 (by rw [h4]; exact hin) (by rw [hcl]; exact h5 q hq) rfl rfl hd kk
theorem rn_slen (v : Int32) (hd : decode M.2.1 pc = .ok (.arraylength, 1)) (hv : nI (g.oln 1) = v) (kk : Rn g l M R Q k n (pc + 1) ls (.int v :: st) Γ iv rv lv) : Rn g l M R Q k n pc ls (.ref 1 :: st) Γ iv rv lv := by
  intro p e s m args below meth c H locs lsC hG cx hR hlo' hls
  have kk := kk p e s m args below meth c H locs lsC hG cx hR hlo' hls
  obtain ⟨hx, hb, hr, hml, hown, hnm, hts, hlk, hwm⟩ := id cx
  obtain ⟨⟨scr, h1, h2, h3, h4, h5⟩, h6⟩ := hG.2.2.1
  rw [List.map_cons, cv_ref g (by omega), rho_old (by decide)]
  exact W.alen (n := v) hx hb (by rw [hR.2.2.1 _ h6]; exact h1) (State.isArrayOf_alike hwm.alike h2) (by rw [h4, ← hv]; rfl) rfl rfl hd kk
/-- Math -/
theorem rn_max {index : Nat} {x y : Int32} (hd : decode M.2.1 pc = .ok (.invokestatic index, 3)) (hl : Cond.methodLink M.1.cls index Lib.Math.max.name ∈ gtb) (hw : Cond.static Lib.Math.max.name ∈ gtb ∧ Cond.initialized "java/lang/Math" ∈ gtb ∧ Cond.code Lib.Math.max.name Lib.Math.max.code 2 (some .int) ∈ gtb) (hst : (st.map fun v => v.category).sum ≤ 8) (hf : 1 ≤ R.frames) (hlo : 100 ≤ R.locals) (hk : k ≤ R.cells) (hs : n ≤ R.slots)
    (kk : Rn g l M R Q k n (pc + 3) ls (.int (if x < y then y else x) :: st) Γ iv rv lv) : Rn g l M R Q k n pc ls (.int y :: .int x :: st) Γ iv rv lv := by
  intro p e s m args below meth c H locs lsC hG cx hR hlo' hls
  have kk := kk p e s m args below meth c H locs lsC hG cx hR hlo' hls
  obtain ⟨hx, hb, hr, hml, hown, hnm, hts, hlk, hwm⟩ := id cx
  exact va_mmax hx hb (by rw [hml, hls.1]) hown (hts _ hl) (hts _ hw.1) (hts _ hw.2.1) (hts _ hw.2.2) hf (by rw [cat_map]; omega) hk hs hd kk
theorem rn_min {index : Nat} {x y : Int32} (hd : decode M.2.1 pc = .ok (.invokestatic index, 3)) (hl : Cond.methodLink M.1.cls index Lib.Math.min.name ∈ gtb) (hw : Cond.static Lib.Math.min.name ∈ gtb ∧ Cond.initialized "java/lang/Math" ∈ gtb ∧ Cond.code Lib.Math.min.name Lib.Math.min.code 2 (some .int) ∈ gtb) (hst : (st.map fun v => v.category).sum ≤ 8) (hf : 1 ≤ R.frames) (hlo : 100 ≤ R.locals) (hk : k ≤ R.cells) (hs : n ≤ R.slots)
    (kk : Rn g l M R Q k n (pc + 3) ls (.int (if y < x then y else x) :: st) Γ iv rv lv) : Rn g l M R Q k n pc ls (.int y :: .int x :: st) Γ iv rv lv := by
  intro p e s m args below meth c H locs lsC hG cx hR hlo' hls
  have kk := kk p e s m args below meth c H locs lsC hG cx hR hlo' hls
  obtain ⟨hx, hb, hr, hml, hown, hnm, hts, hlk, hwm⟩ := id cx
  exact va_mmin hx hb (by rw [hml, hls.1]) hown (hts _ hl) (hts _ hw.1) (hts _ hw.2.1) (hts _ hw.2.2) hf (by rw [cat_map]; omega) hk hs hd kk
theorem rn_abs {index : Nat} {x : Int32} (hd : decode M.2.1 pc = .ok (.invokestatic index, 3)) (hl : Cond.methodLink M.1.cls index Lib.Math.abs.name ∈ gtb) (hw : Cond.static Lib.Math.abs.name ∈ gtb ∧ Cond.initialized "java/lang/Math" ∈ gtb ∧ Cond.code Lib.Math.abs.name Lib.Math.abs.code 1 (some .int) ∈ gtb) (hst : (st.map fun v => v.category).sum ≤ 8) (hf : 1 ≤ R.frames) (hlo : 100 ≤ R.locals) (hk : k ≤ R.cells) (hs : n ≤ R.slots)
    (kk : Rn g l M R Q k n (pc + 3) ls (.int (if 0 ≤ x then x else 0 - x) :: st) Γ iv rv lv) : Rn g l M R Q k n pc ls (.int x :: st) Γ iv rv lv := by
  intro p e s m args below meth c H locs lsC hG cx hR hlo' hls
  have kk := kk p e s m args below meth c H locs lsC hG cx hR hlo' hls
  obtain ⟨hx, hb, hr, hml, hown, hnm, hts, hlk, hwm⟩ := id cx
  exact va_mabs hx hb (by rw [hml, hls.1]) hown (hts _ hl) (hts _ hw.1) (hts _ hw.2.1) (hts _ hw.2.2) hf (by rw [cat_map]; omega) hk hs hd kk
end CALLR
end
section
/-! RULES of new cells, copies, texts -/
def alo (Γ : Sh) (c len : Nat) : Sh := (Γ.1 + 1, up1 Γ.2.1 Γ.1 c, up1 Γ.2.2 Γ.1 len)
def cpy (iv : IV) (src sp dst dp n : Nat) : IV := fun a b => if a = dst ∧ dp ≤ b ∧ b < dp + n then iv src (sp + (b - dp)) else iv a b
section MAKER
variable {g : GS} {l : Launch} {M M' : MI} {R : Room} {Q Qc : Qt} {k n pc : Nat} {ls st : List Value} {Γ : Sh} {iv : IV} {rv : RV} {lv : LV}
theorem alo_k {c len i : Nat} (h : i ≠ Γ.1) : (alo Γ c len).2.1 i = Γ.2.1 i := if_neg h
theorem alo_l {c len i : Nat} (h : i ≠ Γ.1) : (alo Γ c len).2.2 i = Γ.2.2 i := if_neg h
theorem alo_kn {c len : Nat} : (alo Γ c len).2.1 Γ.1 = c := if_pos rfl
theorem alo_ln {c len : Nat} : (alo Γ c len).2.2 Γ.1 = len := if_pos rfl
theorem isK_alo {i c c' len : Nat} (h : IsK Γ i c) : IsK (alo Γ c' len) i c := ⟨h.1, Nat.lt_succ_of_lt h.2.1, by rw [alo_k (Nat.ne_of_lt h.2.1)]; exact h.2.2⟩
theorem isA_alo {i c m c' len : Nat} (h : IsA Γ i c m) : IsA (alo Γ c' len) i c m := ⟨h.1, Nat.lt_succ_of_lt h.2.1, by rw [alo_k (Nat.ne_of_lt h.2.1)]; exact h.2.2.1, by rw [alo_l (Nat.ne_of_lt h.2.1)]; exact h.2.2.2⟩
theorem isK_new {c len : Nat} (h : K0 ≤ Γ.1) : IsK (alo Γ c len) Γ.1 c := ⟨h, Nat.lt_succ_self _, alo_kn⟩
theorem isA_new {c len : Nat} (h : K0 ≤ Γ.1) : IsA (alo Γ c len) Γ.1 c len := ⟨h, Nat.lt_succ_self _, alo_kn, alo_ln⟩
theorem cellOK.sh {Γ' : Sh} {H : Heap} {j : Nat} (h : cellOK g Γ iv rv lv H j) (h1 : Γ'.2.1 j = Γ.2.1 j) (h2 : Γ'.2.2 j = Γ.2.2 j) : cellOK g Γ' iv rv lv H j := by
  unfold cellOK at h ⊢
  rw [h1, h2]
  exact h
theorem clr_ne {α : Type} {f : Nat → Nat → α} {i a b : Nat} {z : α} (h : a ≠ i) : clr f i z a b = f a b := if_neg h
theorem clr_same {α : Type} (f : Nat → Nat → α) (i b : Nat) (z : α) : clr f i z i b = z := if_pos rfl
theorem RepH.alloc {H H' : Heap} {c len : Nat} {iv' : IV} {rv' : RV} {lv' : LV} (h : RepH g Γ iv rv lv H) (hz : H'.size = H.size + 1) (ho : ∀ q : Nat, q < H.size → H'[q]? = H[q]?) (hc : cellOK g (alo Γ c len) iv' rv' lv' H' Γ.1)
    (h1 : ∀ j k, j ≠ Γ.1 → iv' j k = iv j k) (h2 : ∀ j k, j ≠ Γ.1 → rv' j k = rv j k) (h3 : ∀ j k, j ≠ Γ.1 → lv' j k = lv j k) : RepH g (alo Γ c len) iv' rv' lv' H' := by
  obtain ⟨a, b, c, d⟩ := h
  refine ⟨by show K0 ≤ Γ.1 + 1; omega, by rw [hz, b]; show _ = gbase g + (Γ.1 + 1 - K0); omega, fun q hq => by rw [ho q (by omega)]; exact c q hq, fun j hj hn => ?_⟩
  by_cases e : j = Γ.1
  · subst e; exact hc
  · have hlt : j < Γ.1 := by have : j < Γ.1 + 1 := hn; omega
    exact ((d j hj hlt).off (ho _ (by rw [rho_new hj, b]; omega)) (fun k => h1 j k e) (fun k => h2 j k e) (fun k => h3 j k e)).sh (alo_k e) (alo_l e)
theorem rep_size {H : Heap} (h : RepH g Γ iv rv lv H) : rho g Γ.1 = H.size := by rw [rho_new h.1, h.2.1]
theorem rep_k0 {H : Heap} (h : RepH g Γ iv rv lv H) : K0 ≤ Γ.1 := h.1
theorem sv_zero {ty : FieldType} {i k : Nat} : cv g (sv ty (clr iv i 0) (clr rv i 0) (clr lv i 0) i k) = defaultValue ty ∨ ty = .float ∨ ty = .double := by
  cases ty <;> first | (right; left; rfl) | (right; right; rfl) | (left; simp only [sv, clr_same]; rfl)
theorem rn_new {ci index : Nat} {C : String} {T : u_T} {N : Nat} {ty0 : Nat → FieldType} (hd : decode M.2.1 pc = .ok (.new index, 3)) (hc : vwCl[ci]? = some (C, T, N)) (hin : ∀ w ∈ u_ws C T N, w ∈ gtb) (hty : ∀ k, k < N → parseFieldDescriptor (T k).2.2.1 = some (ty0 k)) (hte : ∀ k, k < N → ty0 k = tyc ci k ∧ ty0 k ≠ .float ∧ ty0 k ≠ .double)
    (hcl : Cond.classLink M.1.cls index C ∈ gtb) (hins : Cond.instantiable C N ∈ gtb) (hini : Cond.initialized C ∈ gtb) (hk : k + 1 ≤ R.cells) (hs : n + N ≤ R.slots)
    (kk : K0 ≤ Γ.1 → Rn g l M R Q (k + 1) (n + N) (pc + 3) ls (.ref Γ.1 :: st) (alo Γ ci 0) (clr iv Γ.1 0) (clr rv Γ.1 0) (clr lv Γ.1 0)) : Rn g l M R Q k n pc ls st Γ iv rv lv := by
  intro p e s m args below meth c H locs lsC hG cx hR hlo hls
  obtain ⟨hx, hb, hr, hml, hown, hnm, hts, hlk, hwm⟩ := id cx
  have hKn := (kS hG hwm).1 ci _ hc
  refine W.newcK hx hb hown (hts _ hcl) (hts _ hins) (hts _ hini) rfl hd hk hs hKn.2.1 rfl fun H1 kC hkC e1 z1 o1 => ?_
  have kk := kk hR.1 p e s m args below meth c H1 locs lsC hG cx (hR.alloc z1 o1 ?_ (fun j k h => clr_ne h) (fun j k h => clr_ne h) (fun j k h => clr_ne h)) hlo hls
  · rw [List.map_cons, cv_new hR.1, rep_size hR] at kk
    exact kk
  · refine Or.inl ⟨(C, T, N), by rw [alo_kn]; exact hc, ?_⟩
    rw [alo_kn, rep_size hR]
    refine (u_born ty0 hts hin hKn hkC e1 hty).to (fun j hj => ?_)
    obtain ⟨a1, a2, a3⟩ := hte j hj
    rw [← a1]
    rcases sv_zero (g := g) (ty := ty0 j) (iv := iv) (rv := rv) (lv := lv) (i := Γ.1) (k := j) with h | h | h
    · exact h.symm
    · exact absurd h a2
    · exact absurd h a3
theorem rn_newa {x : Int32} {at_ : ArrayType} {c : Nat} (len : Nat) (hd : decode M.2.1 pc = .ok (.newarray at_, 2)) (hc : c = 20 ∨ c = 21) (hty : newarray.typeOf at_ = aty c) (hw : Cond.arrayClass (newarray.typeOf at_) ∈ gtb) (hx' : x = nI len) (hlen : len ≤ 100000) (hk : k + 1 ≤ R.cells) (hs : n + len ≤ R.slots)
    (kk : K0 ≤ Γ.1 → Rn g l M R Q (k + 1) (n + len) (pc + 2) ls (.ref Γ.1 :: st) (alo Γ c len) (clr iv Γ.1 0) (clr rv Γ.1 0) (clr lv Γ.1 0)) : Rn g l M R Q k n pc ls (.int x :: st) Γ iv rv lv := by
  intro p e s m args below meth cd H locs lsC hG cx hR hlo hls
  obtain ⟨hx, hb, hr, hml, hown, hnm, hts, hlk, hwm⟩ := id cx
  have h25 : 20 ≤ c ∧ c < 25 := by omega
  refine va_newaK hx hb (hts _ hw) rfl hd rfl (n := x) (N := len) (by rw [hx']; exact nI_pos (by omega)) (by rw [hx']; exact nI_clamp (by omega)) ?_ hk hs rfl fun H1 cA e1 z1 o1 hAr hNm => ?_
  · rw [hty]; rcases hc with rfl | rfl <;> (simp only [aty, componentBytes]; omega)
  have hcA : cA = g.ac c := by
    have h1 := (hG.2.1 c h25.1 h25.2).2.moved hwm.alike
    rw [hty] at hNm
    rcases hc with rfl | rfl <;> exact Option.some.inj (hNm.symm.trans h1)
  have kk := kk hR.1 p e s m args below meth cd H1 locs lsC hG cx (hR.alloc (c := c) (len := len) z1 o1 ?_ (fun j k h => clr_ne h) (fun j k h => clr_ne h) (fun j k h => clr_ne h)) hlo hls
  · rw [List.map_cons, cv_new hR.1, rep_size hR] at kk
    exact kk
  · refine Or.inr ⟨by rw [alo_kn]; exact h25.1, by rw [alo_kn]; exact h25.2, ?_⟩
    rw [alo_kn, alo_ln, rep_size hR, e1, hcA, hty]
    congr 2
    funext j
    rcases hc with rfl | rfl <;> (simp only [aty, sv, clr_same]; rfl)
theorem rn_anew {x : Int32} {index c : Nat} {C : String} (len : Nat) (hd : decode M.2.1 pc = .ok (.anewarray index, 3)) (hc : c = 23 ∨ c = 24) (hC : aty c = .object C) (hcl : Cond.classLink M.1.cls index C ∈ gtb) (hx' : x = nI len) (hlen : len ≤ 100000) (hk : k + 1 ≤ R.cells) (hs : n + len ≤ R.slots)
    (kk : K0 ≤ Γ.1 → Rn g l M R Q (k + 1) (n + len) (pc + 3) ls (.ref Γ.1 :: st) (alo Γ c len) (clr iv Γ.1 0) (clr rv Γ.1 0) (clr lv Γ.1 0)) : Rn g l M R Q k n pc ls (.int x :: st) Γ iv rv lv := by
  intro p e s m args below meth cd H locs lsC hG cx hR hlo hls
  obtain ⟨hx, hb, hr, hml, hown, hnm, hts, hlk, hwm⟩ := id cx
  have h25 : 20 ≤ c ∧ c < 25 := by omega
  have hao : va_AO C s := by
    have h := hG.2.2.2.2.2.2.2.2
    rcases hc with rfl | rfl
    · cases hC; exact (va_AO.of (C := "TillTheyMeet$Rule") h.1).moved hwm.alike
    · cases hC; exact (va_AO.of (C := "TillTheyMeet$Sheet") h.2.1).moved hwm.alike
  have hcn : x.toNatClampNeg = len := by rw [hx']; exact nI_clamp (by omega)
  refine W.anew hx hb hown (hts _ hcl) hao.use rfl hd (n := x) rfl (by rw [hx']; exact nI_pos (by omega)) (by rw [hcn]; omega) hk (by rw [hcn]; exact hs) fun cA kA comp h1 h2 h3 h4 => ?_
  rw [hcn, arrV_new]
  have hcA : cA = g.ac c := by
    have h5 := (hG.2.1 c h25.1 h25.2).2.moved hwm.alike
    rw [hC] at h5
    obtain ⟨_, _, _, _, _, h6⟩ := h5
    exact Option.some.inj (h1.symm.trans h6)
  have kk := kk hR.1 p e s m args below meth cd (H.push (arrV cA len fun _ => .null)) locs lsC hG cx (hR.alloc (c := c) (len := len) (by simp) (fun q hq => by rw [Array.getElem?_push, if_neg (Nat.ne_of_lt hq)]) ?_ (fun j k h => clr_ne h) (fun j k h => clr_ne h) (fun j k h => clr_ne h)) hlo hls
  · rw [List.map_cons, cv_new hR.1, rep_size hR] at kk
    exact kk
  · refine Or.inr ⟨by rw [alo_kn]; exact h25.1, by rw [alo_kn]; exact h25.2, ?_⟩
    rw [alo_kn, alo_ln, rep_size hR, Array.getElem?_push_size, hcA]
    congr 2
    funext j
    rw [hC]
    simp only [sv, clr_same]
    rfl
theorem rn_aast {a c len v ci : Nat} {x : Int32} {r : vw_C} (q : Nat) (hd : decode M.2.1 pc = .ok (.aastore, 1)) (hA : IsA Γ a c len) (h23 : c = 23 ∨ c = 24) (hK : IsK Γ v ci) (hc : vwCl[ci]? = some r) (hC : aty c = .object r.1) (hj : x = nI q) (hq : q < len) (hl : len < 2 ^ 31)
    (kk : Rn g l M R Q k n (pc + 1) ls st Γ iv (up rv a q v) lv) : Rn g l M R Q k n pc ls (.ref v :: .int x :: .ref a :: st) Γ iv rv lv := by
  intro p e s m args below meth cd H locs lsC hG cx hR hlo hls
  obtain ⟨hx, hb, hr, hml, hown, hnm, hts, hlk, hwm⟩ := id cx
  have h25 : 20 ≤ c ∧ c < 25 := by omega
  obtain ⟨hcell, -⟩ := arr_at hR hA h25.1
  obtain ⟨hin, hcn⟩ := in_of hj hq hl
  obtain ⟨cellV, g1, g2, g3, -⟩ := obj_at hR hK hc
  have hcls := ((kS hG hwm).1 ci r hc).2
  have h5 := (hG.2.1 c h25.1 h25.2).2.moved hwm.alike
  rw [hC] at h5
  obtain ⟨kA, comp, k1, k2, k3, -⟩ := h5
  have hcomp : comp = g.dd.1 ci := Option.some.inj (k3.symm.trans hcls.1)
  subst hcomp
  obtain ⟨kC, hkC, -⟩ := hcls.2
  rw [List.map_cons, List.map_cons, List.map_cons, cv_new hA.1, cv_new hK.1]
  refine W.aast hx hb hcell (fun q h => by cases h) (fun h => by cases h) k1 k2 rfl hkC ⟨fun z => hin (Or.inl z), by rw [arrV_size, hcn]; exact hq⟩ g1 (fun q h => by rw [g3] at h; cases h) (by rw [g2]; exact hkC) (by rw [g2]; exact va_assign hcls) rfl rfl hd fun H' e1 e2 e3 => ?_
  rw [hcn, ← cv_new hK.1] at e1
  refine kk p e s m args below meth cd H' _ lsC hG cx (rep_ast (v := .ref v) hR hA h25.1 h25.2 e1 e2 e3 (fun j => ?_) (fun _ _ _ => rfl) (fun j k h => up_ne1 h) (fun _ _ _ => rfl)) (t_lc hlo (rho_base hA.1)) hls
  rw [hC]
  show Value.ref (up rv a q v a j) = _
  by_cases h : j = q
  · subst h; rw [up_same, if_pos rfl]
  · rw [up_ne2 h, if_neg h]; rfl
theorem rn_acopy {a0 a n0 n1 index : Nat} {xs xd xn : Int32} (sp dp m0 : Nat) (hd : decode M.2.1 pc = .ok (.invokestatic index, 3)) (hl : Cond.methodLink M.1.cls index arraycopyName ∈ gtb) (hw : Cond.native arraycopyName ∈ gtb ∧ Cond.static arraycopyName ∈ gtb ∧ Cond.initialized "java/lang/System" ∈ gtb) (hA0 : IsA Γ a0 20 n0) (hA : IsA Γ a 20 n1)
    (e1 : xs = nI sp) (e2 : xd = nI dp) (e3 : xn = nI m0) (h4 : sp + m0 ≤ n0) (h5 : dp + m0 ≤ n1) (hb0 : n0 < 2 ^ 31) (hb1 : n1 < 2 ^ 31) (hst : (st.map fun v => v.category).sum ≤ 8) (hf : 1 ≤ R.frames) (hlo : 100 ≤ R.locals)
    (kk : Rn g l M R Q k n (pc + 3) ls st Γ (cpy iv a0 sp a dp m0) rv lv) : Rn g l M R Q k n pc ls (.int xn :: .int xd :: .ref a :: .int xs :: .ref a0 :: st) Γ iv rv lv := by
  intro p e s m args below meth c H locs lsC hG cx hR hlo' hls
  obtain ⟨hx, hb, hr, hml, hown, hnm, hts, hlk, hwm⟩ := id cx
  obtain ⟨hc0, -⟩ := arr_at hR hA0 (by omega)
  obtain ⟨hc1, -⟩ := arr_at hR hA (by omega)
  have hc0 : H[rho g a0]? = some (arrV (g.ac 20) n0 (fun j => .int (iv a0 j))) := hc0
  have hc1 : H[rho g a]? = some (arrV (g.ac 20) n1 (fun j => .int (iv a j))) := hc1
  obtain ⟨-, k0, hk0, cm0, hkk0⟩ := arrOf (s := s) hG hwm (c := 20) (m := n0) (by omega) (by omega) (fun j => .int (iv a0 j))
  obtain ⟨-, k1, hk1, cm1, hkk1⟩ := arrOf (s := s) hG hwm (c := 20) (m := n1) (by omega) (by omega) (fun j => .int (iv a j))
  have c1 : xs.toNatClampNeg = sp := by rw [e1]; exact nI_clamp (by omega)
  have c2 : xd.toNatClampNeg = dp := by rw [e2]; exact nI_clamp (by omega)
  have c3 : xn.toNatClampNeg = m0 := by rw [e3]; exact nI_clamp (by omega)
  have i1 : xs.toInt = (sp : Int) := by rw [e1]; exact nI_toInt (by omega)
  have i2 : xd.toInt = (dp : Int) := by rw [e2]; exact nI_toInt (by omega)
  have i3 : xn.toInt = (m0 : Int) := by rw [e3]; exact nI_toInt (by omega)
  simp only [List.map_cons]
  rw [cv_new hA0.1, cv_new hA.1]
  intro T hT X
  obtain ⟨vm', X', step⟩ := X.arraycopy hx hown (hts _ hl) (hts _ hw.1) (hts _ hw.2.1) (hts _ hw.2.2) (src := rho g a0) (dst := rho g a) (cs := arrV (g.ac 20) n0 (fun j => .int (iv a0 j))) (cd := arrV (g.ac 20) n1 (fun j => .int (iv a j))) (srcPos := xs) (destPos := xd) (n := xn) (by rw [hT]; exact hc0) (by rw [hT]; exact hc1)
    (fun _ h => by cases h) (fun _ h => by cases h) (fun h => by cases h) (fun h => by cases h) hk0 hk1 hkk0 hkk1 (by simp [aty, refKind]) (by rw [e1]; exact nI_pos (by omega)) (by rw [e2]; exact nI_pos (by omega)) (by rw [e3]; exact nI_pos (by omega))
    (by rw [i1, i3, arrV_size]; omega)
    (by rw [i2, i3, arrV_size]; omega)
    (fun vm₁ _ i hi => by
      have e : (arrV (g.ac 20) n0 (fun j => .int (iv a0 j))).slots.getD (xs.toNatClampNeg + i) .null = .int (iv a0 (xs.toNatClampNeg + i)) := by
        rw [Array.getD_eq_getD_getElem?, arrV_read _ _ (by rw [c3] at hi; rw [c1]; omega)]
        rfl
      refine ⟨?_, ?_⟩
      · rw [e]; rfl
      · rw [e]; exact trivial)
    (g := F0 m pc lsC (cv g (.int xn) :: cv g (.int xd) :: .ref (rho g a) :: cv g (.int xs) :: .ref (rho g a0) :: st.map (cv g))) rfl (by rw [hml]; exact hls.1) (rest := st.map (cv g)) rfl (by rw [hb]; exact hd) hf (by
      have h9 : nativeFrameWords "java/lang/System" "arraycopy" 5 ≤ 60 := by decide
      rw [cat_map]
      show 2 * 0 + _ + _ ≤ _; omega)
  have e9 : copied (arrV (g.ac 20) n0 (fun j => .int (iv a0 j))) (arrV (g.ac 20) n1 (fun j => .int (iv a j))) xs xd xn = arrV (g.ac 20) n1 (fun j => .int (va_cpy (iv a0) (iv a) xs.toNatClampNeg xd.toNatClampNeg xn.toNatClampNeg j)) := va_copied (fun z => .int z) _ _ (iv a0) (iv a) (by rw [c1, c3]; exact h4)
  rw [e9] at X' step
  have hlt : rho g a < H.size := (Array.getElem?_eq_some_iff.mp hc1).1
  obtain ⟨t, a1, b1⟩ := kk p e s m args below meth c (H.setIfInBounds (rho g a) (arrV (g.ac 20) n1 (fun j => .int (va_cpy (iv a0) (iv a) xs.toNatClampNeg xd.toNatClampNeg xn.toNatClampNeg j)))) _ lsC hG cx
    (hR.put (i := a) hA.1 (by simp) (fun q hq => by simp [Array.getElem?_setIfInBounds, Ne.symm hq]) (Or.inr ⟨by rw [hA.2.2.1]; omega, by rw [hA.2.2.1]; omega, by
      rw [hA.2.2.1, hA.2.2.2]
      simp only [Array.getElem?_setIfInBounds_self_of_lt hlt]
      congr 2
      funext j
      rw [c1, c2, c3]
      simp only [aty, sv, cpy, va_cpy]
      by_cases h : dp ≤ j ∧ j < dp + m0
      · rw [if_pos h, if_pos ⟨trivial, h⟩]; rfl
      · rw [if_neg h, if_neg (fun z => h z.2)]; rfl⟩) (fun j k h => if_neg (fun z => h z.1)) (fun _ _ _ => rfl) (fun _ _ _ => rfl))
    (fun q hq => by
      rcases List.mem_append.mp hq with h | h
      · exact hlo' q h
      · obtain ⟨z, -, hz⟩ := List.mem_map.mp h
        rw [← hz]
        exact rho_base hA.1) hls _ (by rw [← hT]; rfl) X'
  exact ⟨t, step t a1, b1⟩
theorem rn_clone {a len index : Nat} (hd : decode M.2.1 pc = .ok (.invokevirtual index, 3)) (hl : Cond.methodLink M.1.cls index ⟨"[I", "clone", "()Ljava/lang/Object;"⟩ ∈ gtb) (hw : Cond.sameMethod "[I" "java/lang/Object" "clone" "()Ljava/lang/Object;" ∈ gtb ∧ Cond.native ⟨"java/lang/Object", "clone", "()Ljava/lang/Object;"⟩ ∈ gtb ∧ Cond.instanceMethod ⟨"java/lang/Object", "clone", "()Ljava/lang/Object;"⟩ ∈ gtb ∧ Cond.selects "[I" ⟨"[I", "clone", "()Ljava/lang/Object;"⟩ ⟨"java/lang/Object", "clone", "()Ljava/lang/Object;"⟩ ∈ gtb)
    (hA : IsA Γ a 20 len) (hst : (st.map fun v => v.category).sum ≤ 8) (hf : 1 ≤ R.frames) (hlo : 100 ≤ R.locals) (hk : k + 1 ≤ R.cells) (hs : n + len ≤ R.slots)
    (kk : K0 ≤ Γ.1 → Rn g l M R Q (k + 1) (n + len) (pc + 3) ls (.ref Γ.1 :: st) (alo Γ 20 len) (fun i j => if i = Γ.1 then iv a j else iv i j) (clr rv Γ.1 0) (clr lv Γ.1 0)) : Rn g l M R Q k n pc ls (.ref a :: st) Γ iv rv lv := by
  intro p e s m args below meth c H locs lsC hG cx hR hlo' hls
  obtain ⟨hx, hb, hr, hml, hown, hnm, hts, hlk, hwm⟩ := id cx
  obtain ⟨hc1, -⟩ := arr_at hR hA (by omega)
  have hc1 : H[rho g a]? = some (arrV (g.ac 20) len (fun j => .int (iv a j))) := hc1
  obtain ⟨c0, t0', f1, f2, f3⟩ := Cond.castable_spec (va_Nw.use (A := args) rfl (hG.2.2.2.2.2.2.2.2.2.2.warmC hwm))
  have hnm' : s.vm.findClass "[I" = some (g.ac 20) := by
    have h1 := (hG.2.1 20 (by omega) (by omega)).2.moved hwm.alike
    exact h1
  cases hnm'.symm.trans f1
  rw [List.map_cons, cv_new hA.1]
  intro T hT X
  have hcellT : T.heap[rho g a]? = some (arrV (g.ac 20) len (fun j => .int (iv a j))) := by rw [hT]; exact hc1
  obtain ⟨-, kA, hkA, comp, hkind⟩ := State.isArrayOf_alike X.warmed.alike (arrOf (s := s) hG hwm (c := 20) (m := 0) (by omega) (by omega) (fun _ => .null))
  obtain ⟨-, kS', hkS, compS, hkindS⟩ := arrOf (s := s) hG hwm (c := 20) (m := 0) (by omega) (by omega) (fun _ => .null)
  obtain ⟨vm', X', step⟩ := X.cloneArray hx hown (hts _ hl) (hts _ hw.1) (hts _ hw.2.1) (hts _ hw.2.2.1) (hts _ hw.2.2.2) (a := rho g a) (cell := arrV (g.ac 20) len (fun j => .int (iv a j))) hcellT (fun k h => by cases h) (fun h => by cases h) hnm' f2 f3
    (fun i v hv => by
      have hk' : T.vm.classes[g.ac 20]? = some kA := hkA
      have hlt : i < len := by
        have := (Array.getElem?_eq_some_iff.mp hv).1
        rwa [arrV_size] at this
      rw [arrV_read _ _ hlt] at hv
      cases hv
      show T.fitsSlot (g.ac 20) _ _ _ = true
      simp [State.fitsSlot, State.slotType?, hk', hkind, aty, fits])
    (g := F0 m pc lsC (.ref (rho g a) :: st.map (cv g))) rfl (by rw [hml]; exact hls.1) rfl (by rw [hb]; exact hd) hf (by
      rw [cat_map]
      show 2 * 0 + _ + 14 ≤ _; omega) hk (by rw [arrV_size]; exact hs) (hloader := Vm.clonesLoader_of_array hkS hkindS)
  rw [arrV_size] at X'
  obtain ⟨t, b1, b2⟩ := kk hR.1 p e s m args below meth c (H.push (arrV (g.ac 20) len (fun j => .int (iv a j)))) locs lsC hG cx (hR.alloc (c := 20) (len := len) (by simp) (fun q hq => by rw [Array.getElem?_push, if_neg (Nat.ne_of_lt hq)]) (Or.inr ⟨by rw [alo_kn]; omega, by rw [alo_kn]; omega, by
      rw [alo_kn, alo_ln, rep_size hR, Array.getElem?_push_size]
      congr 2
      funext j
      simp only [aty, sv]
      rw [if_pos trivial]
      rfl⟩) (fun j k h => if_neg h) (fun j k h => clr_ne h) (fun j k h => clr_ne h)) hlo' hls ((T.setVm vm').pushCell (arrV (g.ac 20) len (fun j => .int (iv a j)))) (by rw [← hT]; rfl) X'
  refine ⟨t, step t ?_, b2⟩
  rw [List.map_cons, cv_new hR.1, rep_size hR] at b1
  rw [hT]
  exact b1
/-- checkcast to int[] -/
theorem rn_castA {a len index : Nat} (hd : decode M.2.1 pc = .ok (.checkcast index, 3)) (hl : Cond.classLink M.1.cls index "[I" ∈ gtb) (hA : IsA Γ a 20 len) (kk : Rn g l M R Q k n (pc + 3) ls (.ref a :: st) Γ iv rv lv) : Rn g l M R Q k n pc ls (.ref a :: st) Γ iv rv lv := by
  intro p e s m args below meth c H locs lsC hG cx hR hlo' hls
  have kk := kk p e s m args below meth c H locs lsC hG cx hR hlo' hls
  obtain ⟨hx, hb, hr, hml, hown, hnm, hts, hlk, hwm⟩ := id cx
  obtain ⟨hc1, -⟩ := arr_at hR hA (by omega)
  have hnm' : s.vm.findClass "[I" = some (g.ac 20) := (hG.2.1 20 (by omega) (by omega)).2.moved hwm.alike
  rw [List.map_cons, cv_new hA.1] at kk ⊢
  exact va_castE hx hb hown (hts _ hl) ⟨_, hc1, rfl, hnm'⟩ hd kk
end MAKER
end
