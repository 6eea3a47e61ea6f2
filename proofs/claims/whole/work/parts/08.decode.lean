/-! DECODE rows (by program) -/
theorem dX0_init_0 : decode (mX0_init).2.1 0 = .ok (.aload_n 0, 1) := by decide +kernel
theorem dX0_init_1 : decode (mX0_init).2.1 1 = .ok (.invokespecial 3, 3) := by decide +kernel
theorem dX0_init_4 : decode (mX0_init).2.1 4 = .ok (.aload_n 0, 1) := by decide +kernel
theorem dX0_init_5 : decode (mX0_init).2.1 5 = .ok (.iconst (-1), 1) := by decide +kernel
theorem dX0_init_6 : decode (mX0_init).2.1 6 = .ok (.putfield 9, 3) := by decide +kernel
theorem dX0_init_9 : decode (mX0_init).2.1 9 = .ok (.aload_n 0, 1) := by decide +kernel
theorem dX0_init_10 : decode (mX0_init).2.1 10 = .ok (.iconst 0, 1) := by decide +kernel
theorem dX0_init_11 : decode (mX0_init).2.1 11 = .ok (.putfield 15, 3) := by decide +kernel
theorem dX0_init_14 : decode (mX0_init).2.1 14 = .ok (.aload_n 0, 1) := by decide +kernel
theorem dX0_init_15 : decode (mX0_init).2.1 15 = .ok (.iconst 1, 1) := by decide +kernel
theorem dX0_init_16 : decode (mX0_init).2.1 16 = .ok (.putfield 18, 3) := by decide +kernel
theorem dX0_init_19 : decode (mX0_init).2.1 19 = .ok (.return_, 1) := by decide +kernel
theorem dX0_clear_0 : decode (mX0_clear).2.1 0 = .ok (.aload_n 0, 1) := by decide +kernel
theorem dX0_clear_1 : decode (mX0_clear).2.1 1 = .ok (.iconst 1, 1) := by decide +kernel
theorem dX0_clear_2 : decode (mX0_clear).2.1 2 = .ok (.putfield 18, 3) := by decide +kernel
theorem dX0_clear_5 : decode (mX0_clear).2.1 5 = .ok (.return_, 1) := by decide +kernel
theorem dX0_offer_0 : decode (mX0_offer).2.1 0 = .ok (.aload_n 0, 1) := by decide +kernel
theorem dX0_offer_1 : decode (mX0_offer).2.1 1 = .ok (.getfield 18, 3) := by decide +kernel
theorem dX0_offer_4 : decode (mX0_offer).2.1 4 = .ok (.ifCond .ne 12, 3) := by decide +kernel
theorem dX0_offer_7 : decode (mX0_offer).2.1 7 = .ok (.iload_n 2, 1) := by decide +kernel
theorem dX0_offer_8 : decode (mX0_offer).2.1 8 = .ok (.aload_n 0, 1) := by decide +kernel
theorem dX0_offer_9 : decode (mX0_offer).2.1 9 = .ok (.getfield 15, 3) := by decide +kernel
theorem dX0_offer_12 : decode (mX0_offer).2.1 12 = .ok (.if_icmp .gt 4, 3) := by decide +kernel
theorem dX0_offer_15 : decode (mX0_offer).2.1 15 = .ok (.return_, 1) := by decide +kernel
theorem dX0_offer_16 : decode (mX0_offer).2.1 16 = .ok (.aload_n 0, 1) := by decide +kernel
theorem dX0_offer_17 : decode (mX0_offer).2.1 17 = .ok (.iload_n 1, 1) := by decide +kernel
theorem dX0_offer_18 : decode (mX0_offer).2.1 18 = .ok (.putfield 9, 3) := by decide +kernel
theorem dX0_offer_21 : decode (mX0_offer).2.1 21 = .ok (.aload_n 0, 1) := by decide +kernel
theorem dX0_offer_22 : decode (mX0_offer).2.1 22 = .ok (.iload_n 2, 1) := by decide +kernel
theorem dX0_offer_23 : decode (mX0_offer).2.1 23 = .ok (.putfield 15, 3) := by decide +kernel
theorem dX0_offer_26 : decode (mX0_offer).2.1 26 = .ok (.aload_n 0, 1) := by decide +kernel
theorem dX0_offer_27 : decode (mX0_offer).2.1 27 = .ok (.iconst 0, 1) := by decide +kernel
theorem dX0_offer_28 : decode (mX0_offer).2.1 28 = .ok (.putfield 18, 3) := by decide +kernel
theorem dX0_offer_31 : decode (mX0_offer).2.1 31 = .ok (.return_, 1) := by decide +kernel
theorem dX1_init_0 : decode (mX1_init).2.1 0 = .ok (.aload_n 0, 1) := by decide +kernel
theorem dX1_init_1 : decode (mX1_init).2.1 1 = .ok (.invokespecial 3, 3) := by decide +kernel
theorem dX1_init_4 : decode (mX1_init).2.1 4 = .ok (.aload_n 0, 1) := by decide +kernel
theorem dX1_init_5 : decode (mX1_init).2.1 5 = .ok (.iconst 0, 1) := by decide +kernel
theorem dX1_init_6 : decode (mX1_init).2.1 6 = .ok (.putfield 9, 3) := by decide +kernel
theorem dX1_init_9 : decode (mX1_init).2.1 9 = .ok (.aload_n 0, 1) := by decide +kernel
theorem dX1_init_10 : decode (mX1_init).2.1 10 = .ok (.iconst 0, 1) := by decide +kernel
theorem dX1_init_11 : decode (mX1_init).2.1 11 = .ok (.putfield 15, 3) := by decide +kernel
theorem dX1_init_14 : decode (mX1_init).2.1 14 = .ok (.aload_n 0, 1) := by decide +kernel
theorem dX1_init_15 : decode (mX1_init).2.1 15 = .ok (.bipush 10, 2) := by decide +kernel
theorem dX1_init_17 : decode (mX1_init).2.1 17 = .ok (.putfield 18, 3) := by decide +kernel
theorem dX1_init_20 : decode (mX1_init).2.1 20 = .ok (.aload_n 0, 1) := by decide +kernel
theorem dX1_init_21 : decode (mX1_init).2.1 21 = .ok (.iconst 0, 1) := by decide +kernel
theorem dX1_init_22 : decode (mX1_init).2.1 22 = .ok (.putfield 21, 3) := by decide +kernel
theorem dX1_init_25 : decode (mX1_init).2.1 25 = .ok (.aload_n 0, 1) := by decide +kernel
theorem dX1_init_26 : decode (mX1_init).2.1 26 = .ok (.iconst 0, 1) := by decide +kernel
theorem dX1_init_27 : decode (mX1_init).2.1 27 = .ok (.putfield 24, 3) := by decide +kernel
theorem dX1_init_30 : decode (mX1_init).2.1 30 = .ok (.aload_n 0, 1) := by decide +kernel
theorem dX1_init_31 : decode (mX1_init).2.1 31 = .ok (.iconst 0, 1) := by decide +kernel
theorem dX1_init_32 : decode (mX1_init).2.1 32 = .ok (.putfield 27, 3) := by decide +kernel
theorem dX1_init_35 : decode (mX1_init).2.1 35 = .ok (.aload_n 0, 1) := by decide +kernel
theorem dX1_init_36 : decode (mX1_init).2.1 36 = .ok (.iconst 0, 1) := by decide +kernel
theorem dX1_init_37 : decode (mX1_init).2.1 37 = .ok (.putfield 30, 3) := by decide +kernel
theorem dX1_init_40 : decode (mX1_init).2.1 40 = .ok (.aload_n 0, 1) := by decide +kernel
theorem dX1_init_41 : decode (mX1_init).2.1 41 = .ok (.iconst 2, 1) := by decide +kernel
theorem dX1_init_42 : decode (mX1_init).2.1 42 = .ok (.newarray .int, 2) := by decide +kernel
theorem dX1_init_44 : decode (mX1_init).2.1 44 = .ok (.dup, 1) := by decide +kernel
theorem dX1_init_45 : decode (mX1_init).2.1 45 = .ok (.iconst 0, 1) := by decide +kernel
theorem dX1_init_46 : decode (mX1_init).2.1 46 = .ok (.iconst (-1), 1) := by decide +kernel
theorem dX1_init_47 : decode (mX1_init).2.1 47 = .ok (.iastore, 1) := by decide +kernel
theorem dX1_init_48 : decode (mX1_init).2.1 48 = .ok (.dup, 1) := by decide +kernel
theorem dX1_init_49 : decode (mX1_init).2.1 49 = .ok (.iconst 1, 1) := by decide +kernel
theorem dX1_init_50 : decode (mX1_init).2.1 50 = .ok (.iconst (-1), 1) := by decide +kernel
theorem dX1_init_51 : decode (mX1_init).2.1 51 = .ok (.iastore, 1) := by decide +kernel
theorem dX1_init_52 : decode (mX1_init).2.1 52 = .ok (.putfield 33, 3) := by decide +kernel
theorem dX1_init_55 : decode (mX1_init).2.1 55 = .ok (.aload_n 0, 1) := by decide +kernel
theorem dX1_init_56 : decode (mX1_init).2.1 56 = .ok (.iconst 2, 1) := by decide +kernel
theorem dX1_init_57 : decode (mX1_init).2.1 57 = .ok (.newarray .int, 2) := by decide +kernel
theorem dX1_init_59 : decode (mX1_init).2.1 59 = .ok (.putfield 37, 3) := by decide +kernel
theorem dX1_init_62 : decode (mX1_init).2.1 62 = .ok (.aload_n 0, 1) := by decide +kernel
theorem dX1_init_63 : decode (mX1_init).2.1 63 = .ok (.iload_n 1, 1) := by decide +kernel
theorem dX1_init_64 : decode (mX1_init).2.1 64 = .ok (.putfield 40, 3) := by decide +kernel
theorem dX1_init_67 : decode (mX1_init).2.1 67 = .ok (.return_, 1) := by decide +kernel
theorem dX1_nextYard_0 : decode (mX1_nextYard).2.1 0 = .ok (.aload_n 0, 1) := by decide +kernel
theorem dX1_nextYard_1 : decode (mX1_nextYard).2.1 1 = .ok (.getfield 40, 3) := by decide +kernel
theorem dX1_nextYard_4 : decode (mX1_nextYard).2.1 4 = .ok (.ifCond .eq 10, 3) := by decide +kernel
theorem dX1_nextYard_7 : decode (mX1_nextYard).2.1 7 = .ok (.aload_n 0, 1) := by decide +kernel
theorem dX1_nextYard_8 : decode (mX1_nextYard).2.1 8 = .ok (.getfield 21, 3) := by decide +kernel
theorem dX1_nextYard_11 : decode (mX1_nextYard).2.1 11 = .ok (.goto 10, 3) := by decide +kernel
theorem dX1_nextYard_14 : decode (mX1_nextYard).2.1 14 = .ok (.bipush 23, 2) := by decide +kernel
theorem dX1_nextYard_16 : decode (mX1_nextYard).2.1 16 = .ok (.aload_n 0, 1) := by decide +kernel
theorem dX1_nextYard_17 : decode (mX1_nextYard).2.1 17 = .ok (.getfield 21, 3) := by decide +kernel
theorem dX1_nextYard_20 : decode (mX1_nextYard).2.1 20 = .ok (.isub, 1) := by decide +kernel
theorem dX1_nextYard_21 : decode (mX1_nextYard).2.1 21 = .ok (.ireturn, 1) := by decide +kernel
theorem dX1_gain_0 : decode (mX1_gain).2.1 0 = .ok (.aload_n 0, 1) := by decide +kernel
theorem dX1_gain_1 : decode (mX1_gain).2.1 1 = .ok (.getfield 27, 3) := by decide +kernel
theorem dX1_gain_4 : decode (mX1_gain).2.1 4 = .ok (.aload_n 0, 1) := by decide +kernel
theorem dX1_gain_5 : decode (mX1_gain).2.1 5 = .ok (.getfield 30, 3) := by decide +kernel
theorem dX1_gain_8 : decode (mX1_gain).2.1 8 = .ok (.isub, 1) := by decide +kernel
theorem dX1_gain_9 : decode (mX1_gain).2.1 9 = .ok (.ireturn, 1) := by decide +kernel
theorem dX1_does_0 : decode (mX1_does).2.1 0 = .ok (.iload_n 3, 1) := by decide +kernel
theorem dX1_does_1 : decode (mX1_does).2.1 1 = .ok (.iconst 2, 1) := by decide +kernel
theorem dX1_does_2 : decode (mX1_does).2.1 2 = .ok (.idiv, 1) := by decide +kernel
theorem dX1_does_3 : decode (mX1_does).2.1 3 = .ok (.bipush 10, 2) := by decide +kernel
theorem dX1_does_5 : decode (mX1_does).2.1 5 = .ok (.iadd, 1) := by decide +kernel
theorem dX1_does_6 : decode (mX1_does).2.1 6 = .ok (.istore 4, 2) := by decide +kernel
theorem dX1_does_8 : decode (mX1_does).2.1 8 = .ok (.iload_n 2, 1) := by decide +kernel
theorem dX1_does_9 : decode (mX1_does).2.1 9 = .ok (.iconst 2, 1) := by decide +kernel
theorem dX1_does_10 : decode (mX1_does).2.1 10 = .ok (.irem, 1) := by decide +kernel
theorem dX1_does_11 : decode (mX1_does).2.1 11 = .ok (.iconst 1, 1) := by decide +kernel
theorem dX1_does_12 : decode (mX1_does).2.1 12 = .ok (.if_icmp .ne 17, 3) := by decide +kernel
theorem dX1_does_15 : decode (mX1_does).2.1 15 = .ok (.iload_n 1, 1) := by decide +kernel
theorem dX1_does_16 : decode (mX1_does).2.1 16 = .ok (.aload_n 0, 1) := by decide +kernel
theorem dX1_does_17 : decode (mX1_does).2.1 17 = .ok (.getfield 15, 3) := by decide +kernel
theorem dX1_does_20 : decode (mX1_does).2.1 20 = .ok (.iconst 4, 1) := by decide +kernel
theorem dX1_does_21 : decode (mX1_does).2.1 21 = .ok (.irem, 1) := by decide +kernel
theorem dX1_does_22 : decode (mX1_does).2.1 22 = .ok (.if_icmp .ne 7, 3) := by decide +kernel
theorem dX1_does_25 : decode (mX1_does).2.1 25 = .ok (.iconst 0, 1) := by decide +kernel
theorem dX1_does_26 : decode (mX1_does).2.1 26 = .ok (.goto 4, 3) := by decide +kernel
theorem dX1_does_29 : decode (mX1_does).2.1 29 = .ok (.iload_n 3, 1) := by decide +kernel
theorem dX1_does_30 : decode (mX1_does).2.1 30 = .ok (.istore 5, 2) := by decide +kernel
theorem dX1_does_32 : decode (mX1_does).2.1 32 = .ok (.aload_n 0, 1) := by decide +kernel
theorem dX1_does_33 : decode (mX1_does).2.1 33 = .ok (.getfield 9, 3) := by decide +kernel
theorem dX1_does_36 : decode (mX1_does).2.1 36 = .ok (.tableswitch 89 1 5 #[36, 39, 42, 60, 71], 36) := by decide +kernel
theorem dX1_does_72 : decode (mX1_does).2.1 72 = .ok (.iload 4, 2) := by decide +kernel
theorem dX1_does_74 : decode (mX1_does).2.1 74 = .ok (.ireturn, 1) := by decide +kernel
theorem dX1_does_75 : decode (mX1_does).2.1 75 = .ok (.iload 5, 2) := by decide +kernel
theorem dX1_does_77 : decode (mX1_does).2.1 77 = .ok (.ireturn, 1) := by decide +kernel
theorem dX1_does_78 : decode (mX1_does).2.1 78 = .ok (.aload_n 0, 1) := by decide +kernel
theorem dX1_does_79 : decode (mX1_does).2.1 79 = .ok (.iload_n 2, 1) := by decide +kernel
theorem dX1_does_80 : decode (mX1_does).2.1 80 = .ok (.invokevirtual 44, 3) := by decide +kernel
theorem dX1_does_83 : decode (mX1_does).2.1 83 = .ok (.ifCond .eq 10, 3) := by decide +kernel
theorem dX1_does_86 : decode (mX1_does).2.1 86 = .ok (.iconst 2, 1) := by decide +kernel
theorem dX1_does_87 : decode (mX1_does).2.1 87 = .ok (.iload 4, 2) := by decide +kernel
theorem dX1_does_89 : decode (mX1_does).2.1 89 = .ok (.imul, 1) := by decide +kernel
theorem dX1_does_90 : decode (mX1_does).2.1 90 = .ok (.goto 5, 3) := by decide +kernel
theorem dX1_does_93 : decode (mX1_does).2.1 93 = .ok (.iload 4, 2) := by decide +kernel
theorem dX1_does_95 : decode (mX1_does).2.1 95 = .ok (.ireturn, 1) := by decide +kernel
theorem dX1_does_96 : decode (mX1_does).2.1 96 = .ok (.iconst 0, 1) := by decide +kernel
theorem dX1_does_97 : decode (mX1_does).2.1 97 = .ok (.iload 5, 2) := by decide +kernel
theorem dX1_does_99 : decode (mX1_does).2.1 99 = .ok (.iconst 3, 1) := by decide +kernel
theorem dX1_does_100 : decode (mX1_does).2.1 100 = .ok (.iload_n 1, 1) := by decide +kernel
theorem dX1_does_101 : decode (mX1_does).2.1 101 = .ok (.imul, 1) := by decide +kernel
theorem dX1_does_102 : decode (mX1_does).2.1 102 = .ok (.isub, 1) := by decide +kernel
theorem dX1_does_103 : decode (mX1_does).2.1 103 = .ok (.invokestatic 48, 3) := by decide +kernel
theorem dX1_does_106 : decode (mX1_does).2.1 106 = .ok (.ireturn, 1) := by decide +kernel
theorem dX1_does_107 : decode (mX1_does).2.1 107 = .ok (.iload_n 1, 1) := by decide +kernel
theorem dX1_does_108 : decode (mX1_does).2.1 108 = .ok (.iconst 3, 1) := by decide +kernel
theorem dX1_does_109 : decode (mX1_does).2.1 109 = .ok (.if_icmp .ne 13, 3) := by decide +kernel
theorem dX1_does_112 : decode (mX1_does).2.1 112 = .ok (.iload 4, 2) := by decide +kernel
theorem dX1_does_114 : decode (mX1_does).2.1 114 = .ok (.aload_n 0, 1) := by decide +kernel
theorem dX1_does_115 : decode (mX1_does).2.1 115 = .ok (.getfield 15, 3) := by decide +kernel
theorem dX1_does_118 : decode (mX1_does).2.1 118 = .ok (.iadd, 1) := by decide +kernel
theorem dX1_does_119 : decode (mX1_does).2.1 119 = .ok (.goto 5, 3) := by decide +kernel
theorem dX1_does_122 : decode (mX1_does).2.1 122 = .ok (.iload 4, 2) := by decide +kernel
theorem dX1_does_124 : decode (mX1_does).2.1 124 = .ok (.ireturn, 1) := by decide +kernel
theorem dX1_does_125 : decode (mX1_does).2.1 125 = .ok (.iload_n 3, 1) := by decide +kernel
theorem dX1_does_126 : decode (mX1_does).2.1 126 = .ok (.ireturn, 1) := by decide +kernel
theorem dX1_isNight_0 : decode (mX1_isNight).2.1 0 = .ok (.aload_n 0, 1) := by decide +kernel
theorem dX1_isNight_1 : decode (mX1_isNight).2.1 1 = .ok (.getfield 15, 3) := by decide +kernel
theorem dX1_isNight_4 : decode (mX1_isNight).2.1 4 = .ok (.iconst 2, 1) := by decide +kernel
theorem dX1_isNight_5 : decode (mX1_isNight).2.1 5 = .ok (.iadd, 1) := by decide +kernel
theorem dX1_isNight_6 : decode (mX1_isNight).2.1 6 = .ok (.istore_n 2, 1) := by decide +kernel
theorem dX1_isNight_7 : decode (mX1_isNight).2.1 7 = .ok (.iload_n 2, 1) := by decide +kernel
theorem dX1_isNight_8 : decode (mX1_isNight).2.1 8 = .ok (.ifCond .le 13, 3) := by decide +kernel
theorem dX1_isNight_11 : decode (mX1_isNight).2.1 11 = .ok (.iload_n 1, 1) := by decide +kernel
theorem dX1_isNight_12 : decode (mX1_isNight).2.1 12 = .ok (.iload_n 2, 1) := by decide +kernel
theorem dX1_isNight_13 : decode (mX1_isNight).2.1 13 = .ok (.irem, 1) := by decide +kernel
theorem dX1_isNight_14 : decode (mX1_isNight).2.1 14 = .ok (.ifCond .ne 7, 3) := by decide +kernel
theorem dX1_isNight_17 : decode (mX1_isNight).2.1 17 = .ok (.iconst 1, 1) := by decide +kernel
theorem dX1_isNight_18 : decode (mX1_isNight).2.1 18 = .ok (.goto 4, 3) := by decide +kernel
theorem dX1_isNight_21 : decode (mX1_isNight).2.1 21 = .ok (.iconst 0, 1) := by decide +kernel
theorem dX1_isNight_22 : decode (mX1_isNight).2.1 22 = .ok (.ireturn, 1) := by decide +kernel
theorem dX1_costs_0 : decode (mX1_costs).2.1 0 = .ok (.aload_n 0, 1) := by decide +kernel
theorem dX1_costs_1 : decode (mX1_costs).2.1 1 = .ok (.getfield 9, 3) := by decide +kernel
theorem dX1_costs_4 : decode (mX1_costs).2.1 4 = .ok (.tableswitch 64 1 5 #[36, 64, 41, 50, 52], 36) := by decide +kernel
theorem dX1_costs_40 : decode (mX1_costs).2.1 40 = .ok (.aload_n 0, 1) := by decide +kernel
theorem dX1_costs_41 : decode (mX1_costs).2.1 41 = .ok (.getfield 15, 3) := by decide +kernel
theorem dX1_costs_44 : decode (mX1_costs).2.1 44 = .ok (.ireturn, 1) := by decide +kernel
theorem dX1_costs_45 : decode (mX1_costs).2.1 45 = .ok (.iconst 2, 1) := by decide +kernel
theorem dX1_costs_46 : decode (mX1_costs).2.1 46 = .ok (.aload_n 0, 1) := by decide +kernel
theorem dX1_costs_47 : decode (mX1_costs).2.1 47 = .ok (.getfield 15, 3) := by decide +kernel
theorem dX1_costs_50 : decode (mX1_costs).2.1 50 = .ok (.imul, 1) := by decide +kernel
theorem dX1_costs_51 : decode (mX1_costs).2.1 51 = .ok (.iconst 5, 1) := by decide +kernel
theorem dX1_costs_52 : decode (mX1_costs).2.1 52 = .ok (.iadd, 1) := by decide +kernel
theorem dX1_costs_53 : decode (mX1_costs).2.1 53 = .ok (.ireturn, 1) := by decide +kernel
theorem dX1_costs_54 : decode (mX1_costs).2.1 54 = .ok (.iconst 1, 1) := by decide +kernel
theorem dX1_costs_55 : decode (mX1_costs).2.1 55 = .ok (.ireturn, 1) := by decide +kernel
theorem dX1_costs_56 : decode (mX1_costs).2.1 56 = .ok (.iconst 0, 1) := by decide +kernel
theorem dX1_costs_57 : decode (mX1_costs).2.1 57 = .ok (.aload_n 0, 1) := by decide +kernel
theorem dX1_costs_58 : decode (mX1_costs).2.1 58 = .ok (.getfield 15, 3) := by decide +kernel
theorem dX1_costs_61 : decode (mX1_costs).2.1 61 = .ok (.bipush 10, 2) := by decide +kernel
theorem dX1_costs_63 : decode (mX1_costs).2.1 63 = .ok (.isub, 1) := by decide +kernel
theorem dX1_costs_64 : decode (mX1_costs).2.1 64 = .ok (.invokestatic 48, 3) := by decide +kernel
theorem dX1_costs_67 : decode (mX1_costs).2.1 67 = .ok (.ireturn, 1) := by decide +kernel
theorem dX1_costs_68 : decode (mX1_costs).2.1 68 = .ok (.iconst 0, 1) := by decide +kernel
theorem dX1_costs_69 : decode (mX1_costs).2.1 69 = .ok (.ireturn, 1) := by decide +kernel
theorem dX1_isUnder_0 : decode (mX1_isUnder).2.1 0 = .ok (.aload_n 0, 1) := by decide +kernel
theorem dX1_isUnder_1 : decode (mX1_isUnder).2.1 1 = .ok (.getfield 9, 3) := by decide +kernel
theorem dX1_isUnder_4 : decode (mX1_isUnder).2.1 4 = .ok (.istore_n 2, 1) := by decide +kernel
theorem dX1_isUnder_5 : decode (mX1_isUnder).2.1 5 = .ok (.iconst 0, 1) := by decide +kernel
theorem dX1_isUnder_6 : decode (mX1_isUnder).2.1 6 = .ok (.istore_n 3, 1) := by decide +kernel
theorem dX1_isUnder_7 : decode (mX1_isUnder).2.1 7 = .ok (.iload_n 3, 1) := by decide +kernel
theorem dX1_isUnder_8 : decode (mX1_isUnder).2.1 8 = .ok (.iconst 5, 1) := by decide +kernel
theorem dX1_isUnder_9 : decode (mX1_isUnder).2.1 9 = .ok (.if_icmp .gt 31, 3) := by decide +kernel
theorem dX1_isUnder_12 : decode (mX1_isUnder).2.1 12 = .ok (.iload_n 2, 1) := by decide +kernel
theorem dX1_isUnder_13 : decode (mX1_isUnder).2.1 13 = .ok (.iconst 0, 1) := by decide +kernel
theorem dX1_isUnder_14 : decode (mX1_isUnder).2.1 14 = .ok (.iconst 5, 1) := by decide +kernel
theorem dX1_isUnder_15 : decode (mX1_isUnder).2.1 15 = .ok (.invokestatic 54, 3) := by decide +kernel
theorem dX1_isUnder_18 : decode (mX1_isUnder).2.1 18 = .ok (.ifCond .eq 22, 3) := by decide +kernel
theorem dX1_isUnder_21 : decode (mX1_isUnder).2.1 21 = .ok (.iload_n 2, 1) := by decide +kernel
theorem dX1_isUnder_22 : decode (mX1_isUnder).2.1 22 = .ok (.iload_n 1, 1) := by decide +kernel
theorem dX1_isUnder_23 : decode (mX1_isUnder).2.1 23 = .ok (.if_icmp .ne 5, 3) := by decide +kernel
theorem dX1_isUnder_26 : decode (mX1_isUnder).2.1 26 = .ok (.iconst 1, 1) := by decide +kernel
theorem dX1_isUnder_27 : decode (mX1_isUnder).2.1 27 = .ok (.ireturn, 1) := by decide +kernel
theorem dX1_isUnder_28 : decode (mX1_isUnder).2.1 28 = .ok (.getstatic 58, 3) := by decide +kernel
theorem dX1_isUnder_31 : decode (mX1_isUnder).2.1 31 = .ok (.iload_n 2, 1) := by decide +kernel
theorem dX1_isUnder_32 : decode (mX1_isUnder).2.1 32 = .ok (.iaload, 1) := by decide +kernel
theorem dX1_isUnder_33 : decode (mX1_isUnder).2.1 33 = .ok (.istore_n 2, 1) := by decide +kernel
theorem dX1_isUnder_34 : decode (mX1_isUnder).2.1 34 = .ok (.iinc 3 1, 3) := by decide +kernel
theorem dX1_isUnder_37 : decode (mX1_isUnder).2.1 37 = .ok (.goto (-30), 3) := by decide +kernel
theorem dX1_isUnder_40 : decode (mX1_isUnder).2.1 40 = .ok (.iconst 0, 1) := by decide +kernel
theorem dX1_isUnder_41 : decode (mX1_isUnder).2.1 41 = .ok (.ireturn, 1) := by decide +kernel
theorem dX1_copyKept_0 : decode (mX1_copyKept).2.1 0 = .ok (.aload_n 0, 1) := by decide +kernel
theorem dX1_copyKept_1 : decode (mX1_copyKept).2.1 1 = .ok (.aload_n 1, 1) := by decide +kernel
theorem dX1_copyKept_2 : decode (mX1_copyKept).2.1 2 = .ok (.getfield 18, 3) := by decide +kernel
theorem dX1_copyKept_5 : decode (mX1_copyKept).2.1 5 = .ok (.putfield 18, 3) := by decide +kernel
theorem dX1_copyKept_8 : decode (mX1_copyKept).2.1 8 = .ok (.aload_n 0, 1) := by decide +kernel
theorem dX1_copyKept_9 : decode (mX1_copyKept).2.1 9 = .ok (.aload_n 1, 1) := by decide +kernel
theorem dX1_copyKept_10 : decode (mX1_copyKept).2.1 10 = .ok (.getfield 21, 3) := by decide +kernel
theorem dX1_copyKept_13 : decode (mX1_copyKept).2.1 13 = .ok (.putfield 21, 3) := by decide +kernel
theorem dX1_copyKept_16 : decode (mX1_copyKept).2.1 16 = .ok (.aload_n 0, 1) := by decide +kernel
theorem dX1_copyKept_17 : decode (mX1_copyKept).2.1 17 = .ok (.aload_n 1, 1) := by decide +kernel
theorem dX1_copyKept_18 : decode (mX1_copyKept).2.1 18 = .ok (.getfield 24, 3) := by decide +kernel
theorem dX1_copyKept_21 : decode (mX1_copyKept).2.1 21 = .ok (.putfield 24, 3) := by decide +kernel
theorem dX1_copyKept_24 : decode (mX1_copyKept).2.1 24 = .ok (.aload_n 0, 1) := by decide +kernel
theorem dX1_copyKept_25 : decode (mX1_copyKept).2.1 25 = .ok (.aload_n 1, 1) := by decide +kernel
theorem dX1_copyKept_26 : decode (mX1_copyKept).2.1 26 = .ok (.getfield 27, 3) := by decide +kernel
theorem dX1_copyKept_29 : decode (mX1_copyKept).2.1 29 = .ok (.putfield 27, 3) := by decide +kernel
theorem dX1_copyKept_32 : decode (mX1_copyKept).2.1 32 = .ok (.aload_n 0, 1) := by decide +kernel
theorem dX1_copyKept_33 : decode (mX1_copyKept).2.1 33 = .ok (.aload_n 1, 1) := by decide +kernel
theorem dX1_copyKept_34 : decode (mX1_copyKept).2.1 34 = .ok (.getfield 30, 3) := by decide +kernel
theorem dX1_copyKept_37 : decode (mX1_copyKept).2.1 37 = .ok (.putfield 30, 3) := by decide +kernel
theorem dX1_copyKept_40 : decode (mX1_copyKept).2.1 40 = .ok (.return_, 1) := by decide +kernel
theorem dX1_forgetAnswers_0 : decode (mX1_forgetAnswers).2.1 0 = .ok (.aload_n 0, 1) := by decide +kernel
theorem dX1_forgetAnswers_1 : decode (mX1_forgetAnswers).2.1 1 = .ok (.getfield 33, 3) := by decide +kernel
theorem dX1_forgetAnswers_4 : decode (mX1_forgetAnswers).2.1 4 = .ok (.iconst 0, 1) := by decide +kernel
theorem dX1_forgetAnswers_5 : decode (mX1_forgetAnswers).2.1 5 = .ok (.iconst (-1), 1) := by decide +kernel
theorem dX1_forgetAnswers_6 : decode (mX1_forgetAnswers).2.1 6 = .ok (.iastore, 1) := by decide +kernel
theorem dX1_forgetAnswers_7 : decode (mX1_forgetAnswers).2.1 7 = .ok (.aload_n 0, 1) := by decide +kernel
theorem dX1_forgetAnswers_8 : decode (mX1_forgetAnswers).2.1 8 = .ok (.getfield 33, 3) := by decide +kernel
theorem dX1_forgetAnswers_11 : decode (mX1_forgetAnswers).2.1 11 = .ok (.iconst 1, 1) := by decide +kernel
theorem dX1_forgetAnswers_12 : decode (mX1_forgetAnswers).2.1 12 = .ok (.iconst (-1), 1) := by decide +kernel
theorem dX1_forgetAnswers_13 : decode (mX1_forgetAnswers).2.1 13 = .ok (.iastore, 1) := by decide +kernel
theorem dX1_forgetAnswers_14 : decode (mX1_forgetAnswers).2.1 14 = .ok (.return_, 1) := by decide +kernel
theorem dX2_init_0 : decode (mX2_init).2.1 0 = .ok (.aload_n 0, 1) := by decide +kernel
theorem dX2_init_1 : decode (mX2_init).2.1 1 = .ok (.invokespecial 3, 3) := by decide +kernel
theorem dX2_init_4 : decode (mX2_init).2.1 4 = .ok (.aload_n 0, 1) := by decide +kernel
theorem dX2_init_5 : decode (mX2_init).2.1 5 = .ok (.iconst 0, 1) := by decide +kernel
theorem dX2_init_6 : decode (mX2_init).2.1 6 = .ok (.putfield 9, 3) := by decide +kernel
theorem dX2_init_9 : decode (mX2_init).2.1 9 = .ok (.aload_n 0, 1) := by decide +kernel
theorem dX2_init_10 : decode (mX2_init).2.1 10 = .ok (.iconst (-1), 1) := by decide +kernel
theorem dX2_init_11 : decode (mX2_init).2.1 11 = .ok (.putfield 15, 3) := by decide +kernel
theorem dX2_init_14 : decode (mX2_init).2.1 14 = .ok (.aload_n 0, 1) := by decide +kernel
theorem dX2_init_15 : decode (mX2_init).2.1 15 = .ok (.sipush 160, 3) := by decide +kernel
theorem dX2_init_18 : decode (mX2_init).2.1 18 = .ok (.newarray .int, 2) := by decide +kernel
theorem dX2_init_20 : decode (mX2_init).2.1 20 = .ok (.putfield 18, 3) := by decide +kernel
theorem dX2_init_23 : decode (mX2_init).2.1 23 = .ok (.aload_n 0, 1) := by decide +kernel
theorem dX2_init_24 : decode (mX2_init).2.1 24 = .ok (.iconst 0, 1) := by decide +kernel
theorem dX2_init_25 : decode (mX2_init).2.1 25 = .ok (.putfield 22, 3) := by decide +kernel
theorem dX2_init_28 : decode (mX2_init).2.1 28 = .ok (.aload_n 0, 1) := by decide +kernel
theorem dX2_init_29 : decode (mX2_init).2.1 29 = .ok (.bipush 13, 2) := by decide +kernel
theorem dX2_init_31 : decode (mX2_init).2.1 31 = .ok (.putfield 25, 3) := by decide +kernel
theorem dX2_init_34 : decode (mX2_init).2.1 34 = .ok (.aload_n 0, 1) := by decide +kernel
theorem dX2_init_35 : decode (mX2_init).2.1 35 = .ok (.iconst 0, 1) := by decide +kernel
theorem dX2_init_36 : decode (mX2_init).2.1 36 = .ok (.putfield 28, 3) := by decide +kernel
theorem dX2_init_39 : decode (mX2_init).2.1 39 = .ok (.aload_n 0, 1) := by decide +kernel
theorem dX2_init_40 : decode (mX2_init).2.1 40 = .ok (.iconst 0, 1) := by decide +kernel
theorem dX2_init_41 : decode (mX2_init).2.1 41 = .ok (.putfield 31, 3) := by decide +kernel
theorem dX2_init_44 : decode (mX2_init).2.1 44 = .ok (.aload_n 0, 1) := by decide +kernel
theorem dX2_init_45 : decode (mX2_init).2.1 45 = .ok (.sipush 160, 3) := by decide +kernel
theorem dX2_init_48 : decode (mX2_init).2.1 48 = .ok (.newarray .int, 2) := by decide +kernel
theorem dX2_init_50 : decode (mX2_init).2.1 50 = .ok (.putfield 34, 3) := by decide +kernel
theorem dX2_init_53 : decode (mX2_init).2.1 53 = .ok (.aload_n 0, 1) := by decide +kernel
theorem dX2_init_54 : decode (mX2_init).2.1 54 = .ok (.iconst 0, 1) := by decide +kernel
theorem dX2_init_55 : decode (mX2_init).2.1 55 = .ok (.putfield 37, 3) := by decide +kernel
theorem dX2_init_58 : decode (mX2_init).2.1 58 = .ok (.aload_n 0, 1) := by decide +kernel
theorem dX2_init_59 : decode (mX2_init).2.1 59 = .ok (.iconst 4, 1) := by decide +kernel
theorem dX2_init_60 : decode (mX2_init).2.1 60 = .ok (.newarray .int, 2) := by decide +kernel
theorem dX2_init_62 : decode (mX2_init).2.1 62 = .ok (.putfield 42, 3) := by decide +kernel
theorem dX2_init_65 : decode (mX2_init).2.1 65 = .ok (.return_, 1) := by decide +kernel
theorem dX2_append_0 : decode (mX2_append).2.1 0 = .ok (.aload_n 0, 1) := by decide +kernel
theorem dX2_append_1 : decode (mX2_append).2.1 1 = .ok (.getfield 9, 3) := by decide +kernel
theorem dX2_append_4 : decode (mX2_append).2.1 4 = .ok (.sipush 160, 3) := by decide +kernel
theorem dX2_append_7 : decode (mX2_append).2.1 7 = .ok (.if_icmp .lt 5, 3) := by decide +kernel
theorem dX2_append_10 : decode (mX2_append).2.1 10 = .ok (.iconst 0, 1) := by decide +kernel
theorem dX2_append_11 : decode (mX2_append).2.1 11 = .ok (.ireturn, 1) := by decide +kernel
theorem dX2_append_12 : decode (mX2_append).2.1 12 = .ok (.aload_n 0, 1) := by decide +kernel
theorem dX2_append_13 : decode (mX2_append).2.1 13 = .ok (.getfield 18, 3) := by decide +kernel
theorem dX2_append_16 : decode (mX2_append).2.1 16 = .ok (.aload_n 0, 1) := by decide +kernel
theorem dX2_append_17 : decode (mX2_append).2.1 17 = .ok (.getfield 9, 3) := by decide +kernel
theorem dX2_append_20 : decode (mX2_append).2.1 20 = .ok (.iload_n 1, 1) := by decide +kernel
theorem dX2_append_21 : decode (mX2_append).2.1 21 = .ok (.iastore, 1) := by decide +kernel
theorem dX2_append_22 : decode (mX2_append).2.1 22 = .ok (.aload_n 0, 1) := by decide +kernel
theorem dX2_append_23 : decode (mX2_append).2.1 23 = .ok (.dup, 1) := by decide +kernel
theorem dX2_append_24 : decode (mX2_append).2.1 24 = .ok (.getfield 9, 3) := by decide +kernel
theorem dX2_append_27 : decode (mX2_append).2.1 27 = .ok (.iconst 1, 1) := by decide +kernel
theorem dX2_append_28 : decode (mX2_append).2.1 28 = .ok (.iadd, 1) := by decide +kernel
theorem dX2_append_29 : decode (mX2_append).2.1 29 = .ok (.putfield 9, 3) := by decide +kernel
theorem dX2_append_32 : decode (mX2_append).2.1 32 = .ok (.iconst 1, 1) := by decide +kernel
theorem dX2_append_33 : decode (mX2_append).2.1 33 = .ok (.ireturn, 1) := by decide +kernel
theorem dX2_ruleOf_0 : decode (mX2_ruleOf).2.1 0 = .ok (.new 40, 3) := by decide +kernel
theorem dX2_ruleOf_3 : decode (mX2_ruleOf).2.1 3 = .ok (.dup, 1) := by decide +kernel
theorem dX2_ruleOf_4 : decode (mX2_ruleOf).2.1 4 = .ok (.iload_n 1, 1) := by decide +kernel
theorem dX2_ruleOf_5 : decode (mX2_ruleOf).2.1 5 = .ok (.aload_n 0, 1) := by decide +kernel
theorem dX2_ruleOf_6 : decode (mX2_ruleOf).2.1 6 = .ok (.getfield 34, 3) := by decide +kernel
theorem dX2_ruleOf_9 : decode (mX2_ruleOf).2.1 9 = .ok (.aload_n 0, 1) := by decide +kernel
theorem dX2_ruleOf_10 : decode (mX2_ruleOf).2.1 10 = .ok (.getfield 37, 3) := by decide +kernel
theorem dX2_ruleOf_13 : decode (mX2_ruleOf).2.1 13 = .ok (.invokestatic 45, 3) := by decide +kernel
theorem dX2_ruleOf_16 : decode (mX2_ruleOf).2.1 16 = .ok (.aload_n 0, 1) := by decide +kernel
theorem dX2_ruleOf_17 : decode (mX2_ruleOf).2.1 17 = .ok (.getfield 42, 3) := by decide +kernel
theorem dX2_ruleOf_20 : decode (mX2_ruleOf).2.1 20 = .ok (.invokevirtual 51, 3) := by decide +kernel
theorem dX2_ruleOf_23 : decode (mX2_ruleOf).2.1 23 = .ok (.checkcast 52, 3) := by decide +kernel
theorem dX2_ruleOf_26 : decode (mX2_ruleOf).2.1 26 = .ok (.invokespecial 56, 3) := by decide +kernel
theorem dX2_ruleOf_29 : decode (mX2_ruleOf).2.1 29 = .ok (.areturn, 1) := by decide +kernel
theorem dX2_readText_0 : decode (mX2_readText).2.1 0 = .ok (.aload_n 0, 1) := by decide +kernel
theorem dX2_readText_1 : decode (mX2_readText).2.1 1 = .ok (.iconst 0, 1) := by decide +kernel
theorem dX2_readText_2 : decode (mX2_readText).2.1 2 = .ok (.putfield 22, 3) := by decide +kernel
theorem dX2_readText_5 : decode (mX2_readText).2.1 5 = .ok (.aload_n 0, 1) := by decide +kernel
theorem dX2_readText_6 : decode (mX2_readText).2.1 6 = .ok (.iconst (-1), 1) := by decide +kernel
theorem dX2_readText_7 : decode (mX2_readText).2.1 7 = .ok (.putfield 15, 3) := by decide +kernel
theorem dX2_readText_10 : decode (mX2_readText).2.1 10 = .ok (.aload_n 0, 1) := by decide +kernel
theorem dX2_readText_11 : decode (mX2_readText).2.1 11 = .ok (.iconst 0, 1) := by decide +kernel
theorem dX2_readText_12 : decode (mX2_readText).2.1 12 = .ok (.putfield 37, 3) := by decide +kernel
theorem dX2_readText_15 : decode (mX2_readText).2.1 15 = .ok (.aload_n 0, 1) := by decide +kernel
theorem dX2_readText_16 : decode (mX2_readText).2.1 16 = .ok (.invokevirtual 59, 3) := by decide +kernel
theorem dX2_readText_19 : decode (mX2_readText).2.1 19 = .ok (.iconst 0, 1) := by decide +kernel
theorem dX2_readText_20 : decode (mX2_readText).2.1 20 = .ok (.istore_n 1, 1) := by decide +kernel
theorem dX2_readText_21 : decode (mX2_readText).2.1 21 = .ok (.iload_n 1, 1) := by decide +kernel
theorem dX2_readText_22 : decode (mX2_readText).2.1 22 = .ok (.iconst 3, 1) := by decide +kernel
theorem dX2_readText_23 : decode (mX2_readText).2.1 23 = .ok (.if_icmp .ge 41, 3) := by decide +kernel
theorem dX2_readText_26 : decode (mX2_readText).2.1 26 = .ok (.aload_n 0, 1) := by decide +kernel
theorem dX2_readText_27 : decode (mX2_readText).2.1 27 = .ok (.bipush 6, 2) := by decide +kernel
theorem dX2_readText_29 : decode (mX2_readText).2.1 29 = .ok (.iload_n 1, 1) := by decide +kernel
theorem dX2_readText_30 : decode (mX2_readText).2.1 30 = .ok (.iadd, 1) := by decide +kernel
theorem dX2_readText_31 : decode (mX2_readText).2.1 31 = .ok (.invokevirtual 62, 3) := by decide +kernel
theorem dX2_readText_34 : decode (mX2_readText).2.1 34 = .ok (.aload_n 0, 1) := by decide +kernel
theorem dX2_readText_35 : decode (mX2_readText).2.1 35 = .ok (.iconst 0, 1) := by decide +kernel
theorem dX2_readText_36 : decode (mX2_readText).2.1 36 = .ok (.iconst 0, 1) := by decide +kernel
theorem dX2_readText_37 : decode (mX2_readText).2.1 37 = .ok (.invokevirtual 66, 3) := by decide +kernel
theorem dX2_readText_40 : decode (mX2_readText).2.1 40 = .ok (.aload_n 0, 1) := by decide +kernel
theorem dX2_readText_41 : decode (mX2_readText).2.1 41 = .ok (.bipush 17, 2) := by decide +kernel
theorem dX2_readText_43 : decode (mX2_readText).2.1 43 = .ok (.invokevirtual 62, 3) := by decide +kernel
theorem dX2_readText_46 : decode (mX2_readText).2.1 46 = .ok (.aload_n 0, 1) := by decide +kernel
theorem dX2_readText_47 : decode (mX2_readText).2.1 47 = .ok (.getfield 42, 3) := by decide +kernel
theorem dX2_readText_50 : decode (mX2_readText).2.1 50 = .ok (.iload_n 1, 1) := by decide +kernel
theorem dX2_readText_51 : decode (mX2_readText).2.1 51 = .ok (.iconst 1, 1) := by decide +kernel
theorem dX2_readText_52 : decode (mX2_readText).2.1 52 = .ok (.iadd, 1) := by decide +kernel
theorem dX2_readText_53 : decode (mX2_readText).2.1 53 = .ok (.aload_n 0, 1) := by decide +kernel
theorem dX2_readText_54 : decode (mX2_readText).2.1 54 = .ok (.getfield 37, 3) := by decide +kernel
theorem dX2_readText_57 : decode (mX2_readText).2.1 57 = .ok (.iastore, 1) := by decide +kernel
theorem dX2_readText_58 : decode (mX2_readText).2.1 58 = .ok (.iinc 1 1, 3) := by decide +kernel
theorem dX2_readText_61 : decode (mX2_readText).2.1 61 = .ok (.goto (-40), 3) := by decide +kernel
theorem dX2_readText_64 : decode (mX2_readText).2.1 64 = .ok (.aload_n 0, 1) := by decide +kernel
theorem dX2_readText_65 : decode (mX2_readText).2.1 65 = .ok (.getfield 25, 3) := by decide +kernel
theorem dX2_readText_68 : decode (mX2_readText).2.1 68 = .ok (.bipush 13, 2) := by decide +kernel
theorem dX2_readText_70 : decode (mX2_readText).2.1 70 = .ok (.if_icmp .eq 7, 3) := by decide +kernel
theorem dX2_readText_73 : decode (mX2_readText).2.1 73 = .ok (.aload_n 0, 1) := by decide +kernel
theorem dX2_readText_74 : decode (mX2_readText).2.1 74 = .ok (.invokevirtual 70, 3) := by decide +kernel
theorem dX2_readText_77 : decode (mX2_readText).2.1 77 = .ok (.return_, 1) := by decide +kernel
theorem dX2_refuse_0 : decode (mX2_refuse).2.1 0 = .ok (.aload_n 0, 1) := by decide +kernel
theorem dX2_refuse_1 : decode (mX2_refuse).2.1 1 = .ok (.getfield 15, 3) := by decide +kernel
theorem dX2_refuse_4 : decode (mX2_refuse).2.1 4 = .ok (.iconst (-1), 1) := by decide +kernel
theorem dX2_refuse_5 : decode (mX2_refuse).2.1 5 = .ok (.if_icmp .ne 11, 3) := by decide +kernel
theorem dX2_refuse_8 : decode (mX2_refuse).2.1 8 = .ok (.aload_n 0, 1) := by decide +kernel
theorem dX2_refuse_9 : decode (mX2_refuse).2.1 9 = .ok (.aload_n 0, 1) := by decide +kernel
theorem dX2_refuse_10 : decode (mX2_refuse).2.1 10 = .ok (.getfield 28, 3) := by decide +kernel
theorem dX2_refuse_13 : decode (mX2_refuse).2.1 13 = .ok (.putfield 15, 3) := by decide +kernel
theorem dX2_refuse_16 : decode (mX2_refuse).2.1 16 = .ok (.aload_n 0, 1) := by decide +kernel
theorem dX2_refuse_17 : decode (mX2_refuse).2.1 17 = .ok (.bipush 14, 2) := by decide +kernel
theorem dX2_refuse_19 : decode (mX2_refuse).2.1 19 = .ok (.putfield 25, 3) := by decide +kernel
theorem dX2_refuse_22 : decode (mX2_refuse).2.1 22 = .ok (.return_, 1) := by decide +kernel
theorem dX2_expect_0 : decode (mX2_expect).2.1 0 = .ok (.aload_n 0, 1) := by decide +kernel
theorem dX2_expect_1 : decode (mX2_expect).2.1 1 = .ok (.getfield 25, 3) := by decide +kernel
theorem dX2_expect_4 : decode (mX2_expect).2.1 4 = .ok (.iload_n 1, 1) := by decide +kernel
theorem dX2_expect_5 : decode (mX2_expect).2.1 5 = .ok (.if_icmp .ne 10, 3) := by decide +kernel
theorem dX2_expect_8 : decode (mX2_expect).2.1 8 = .ok (.aload_n 0, 1) := by decide +kernel
theorem dX2_expect_9 : decode (mX2_expect).2.1 9 = .ok (.invokevirtual 59, 3) := by decide +kernel
theorem dX2_expect_12 : decode (mX2_expect).2.1 12 = .ok (.goto 7, 3) := by decide +kernel
theorem dX2_expect_15 : decode (mX2_expect).2.1 15 = .ok (.aload_n 0, 1) := by decide +kernel
theorem dX2_expect_16 : decode (mX2_expect).2.1 16 = .ok (.invokevirtual 70, 3) := by decide +kernel
theorem dX2_expect_19 : decode (mX2_expect).2.1 19 = .ok (.return_, 1) := by decide +kernel
theorem dX2_put_0 : decode (mX2_put).2.1 0 = .ok (.aload_n 0, 1) := by decide +kernel
theorem dX2_put_1 : decode (mX2_put).2.1 1 = .ok (.getfield 37, 3) := by decide +kernel
theorem dX2_put_4 : decode (mX2_put).2.1 4 = .ok (.sipush 160, 3) := by decide +kernel
theorem dX2_put_7 : decode (mX2_put).2.1 7 = .ok (.if_icmp .lt 4, 3) := by decide +kernel
theorem dX2_put_10 : decode (mX2_put).2.1 10 = .ok (.return_, 1) := by decide +kernel
theorem dX2_put_11 : decode (mX2_put).2.1 11 = .ok (.aload_n 0, 1) := by decide +kernel
theorem dX2_put_12 : decode (mX2_put).2.1 12 = .ok (.getfield 34, 3) := by decide +kernel
theorem dX2_put_15 : decode (mX2_put).2.1 15 = .ok (.aload_n 0, 1) := by decide +kernel
theorem dX2_put_16 : decode (mX2_put).2.1 16 = .ok (.getfield 37, 3) := by decide +kernel
theorem dX2_put_19 : decode (mX2_put).2.1 19 = .ok (.iload_n 1, 1) := by decide +kernel
theorem dX2_put_20 : decode (mX2_put).2.1 20 = .ok (.iastore, 1) := by decide +kernel
theorem dX2_put_21 : decode (mX2_put).2.1 21 = .ok (.aload_n 0, 1) := by decide +kernel
theorem dX2_put_22 : decode (mX2_put).2.1 22 = .ok (.dup, 1) := by decide +kernel
theorem dX2_put_23 : decode (mX2_put).2.1 23 = .ok (.getfield 37, 3) := by decide +kernel
theorem dX2_put_26 : decode (mX2_put).2.1 26 = .ok (.iconst 1, 1) := by decide +kernel
theorem dX2_put_27 : decode (mX2_put).2.1 27 = .ok (.iadd, 1) := by decide +kernel
theorem dX2_put_28 : decode (mX2_put).2.1 28 = .ok (.putfield 37, 3) := by decide +kernel
theorem dX2_put_31 : decode (mX2_put).2.1 31 = .ok (.return_, 1) := by decide +kernel
theorem dX2_readLevel_0 : decode (mX2_readLevel).2.1 0 = .ok (.iload_n 1, 1) := by decide +kernel
theorem dX2_readLevel_1 : decode (mX2_readLevel).2.1 1 = .ok (.iconst 4, 1) := by decide +kernel
theorem dX2_readLevel_2 : decode (mX2_readLevel).2.1 2 = .ok (.if_icmp .le 9, 3) := by decide +kernel
theorem dX2_readLevel_5 : decode (mX2_readLevel).2.1 5 = .ok (.aload_n 0, 1) := by decide +kernel
theorem dX2_readLevel_6 : decode (mX2_readLevel).2.1 6 = .ok (.iload_n 2, 1) := by decide +kernel
theorem dX2_readLevel_7 : decode (mX2_readLevel).2.1 7 = .ok (.invokevirtual 73, 3) := by decide +kernel
theorem dX2_readLevel_10 : decode (mX2_readLevel).2.1 10 = .ok (.return_, 1) := by decide +kernel
theorem dX2_readLevel_11 : decode (mX2_readLevel).2.1 11 = .ok (.iload_n 1, 1) := by decide +kernel
theorem dX2_readLevel_12 : decode (mX2_readLevel).2.1 12 = .ok (.iconst 2, 1) := by decide +kernel
theorem dX2_readLevel_13 : decode (mX2_readLevel).2.1 13 = .ok (.if_icmp .ne 36, 3) := by decide +kernel
theorem dX2_readLevel_16 : decode (mX2_readLevel).2.1 16 = .ok (.aload_n 0, 1) := by decide +kernel
theorem dX2_readLevel_17 : decode (mX2_readLevel).2.1 17 = .ok (.getfield 25, 3) := by decide +kernel
theorem dX2_readLevel_20 : decode (mX2_readLevel).2.1 20 = .ok (.bipush 11, 2) := by decide +kernel
theorem dX2_readLevel_22 : decode (mX2_readLevel).2.1 22 = .ok (.if_icmp .ne 27, 3) := by decide +kernel
theorem dX2_readLevel_25 : decode (mX2_readLevel).2.1 25 = .ok (.aload_n 0, 1) := by decide +kernel
theorem dX2_readLevel_26 : decode (mX2_readLevel).2.1 26 = .ok (.iload_n 2, 1) := by decide +kernel
theorem dX2_readLevel_27 : decode (mX2_readLevel).2.1 27 = .ok (.invokevirtual 76, 3) := by decide +kernel
theorem dX2_readLevel_30 : decode (mX2_readLevel).2.1 30 = .ok (.ifCond .ne 4, 3) := by decide +kernel
theorem dX2_readLevel_33 : decode (mX2_readLevel).2.1 33 = .ok (.return_, 1) := by decide +kernel
theorem dX2_readLevel_34 : decode (mX2_readLevel).2.1 34 = .ok (.aload_n 0, 1) := by decide +kernel
theorem dX2_readLevel_35 : decode (mX2_readLevel).2.1 35 = .ok (.iconst 2, 1) := by decide +kernel
theorem dX2_readLevel_36 : decode (mX2_readLevel).2.1 36 = .ok (.iload_n 2, 1) := by decide +kernel
theorem dX2_readLevel_37 : decode (mX2_readLevel).2.1 37 = .ok (.iconst 1, 1) := by decide +kernel
theorem dX2_readLevel_38 : decode (mX2_readLevel).2.1 38 = .ok (.iadd, 1) := by decide +kernel
theorem dX2_readLevel_39 : decode (mX2_readLevel).2.1 39 = .ok (.invokevirtual 66, 3) := by decide +kernel
theorem dX2_readLevel_42 : decode (mX2_readLevel).2.1 42 = .ok (.aload_n 0, 1) := by decide +kernel
theorem dX2_readLevel_43 : decode (mX2_readLevel).2.1 43 = .ok (.bipush (-9), 2) := by decide +kernel
theorem dX2_readLevel_45 : decode (mX2_readLevel).2.1 45 = .ok (.invokevirtual 80, 3) := by decide +kernel
theorem dX2_readLevel_48 : decode (mX2_readLevel).2.1 48 = .ok (.return_, 1) := by decide +kernel
theorem dX2_readLevel_49 : decode (mX2_readLevel).2.1 49 = .ok (.aload_n 0, 1) := by decide +kernel
theorem dX2_readLevel_50 : decode (mX2_readLevel).2.1 50 = .ok (.iload_n 1, 1) := by decide +kernel
theorem dX2_readLevel_51 : decode (mX2_readLevel).2.1 51 = .ok (.iconst 1, 1) := by decide +kernel
theorem dX2_readLevel_52 : decode (mX2_readLevel).2.1 52 = .ok (.iadd, 1) := by decide +kernel
theorem dX2_readLevel_53 : decode (mX2_readLevel).2.1 53 = .ok (.iload_n 2, 1) := by decide +kernel
theorem dX2_readLevel_54 : decode (mX2_readLevel).2.1 54 = .ok (.invokevirtual 66, 3) := by decide +kernel
theorem dX2_readLevel_57 : decode (mX2_readLevel).2.1 57 = .ok (.iload_n 1, 1) := by decide +kernel
theorem dX2_readLevel_58 : decode (mX2_readLevel).2.1 58 = .ok (.iconst 2, 1) := by decide +kernel
theorem dX2_readLevel_59 : decode (mX2_readLevel).2.1 59 = .ok (.if_icmp .ne 7, 3) := by decide +kernel
theorem dX2_readLevel_62 : decode (mX2_readLevel).2.1 62 = .ok (.iconst 1, 1) := by decide +kernel
theorem dX2_readLevel_63 : decode (mX2_readLevel).2.1 63 = .ok (.goto 6, 3) := by decide +kernel
theorem dX2_readLevel_66 : decode (mX2_readLevel).2.1 66 = .ok (.sipush 160, 3) := by decide +kernel
theorem dX2_readLevel_69 : decode (mX2_readLevel).2.1 69 = .ok (.istore_n 3, 1) := by decide +kernel
theorem dX2_readLevel_70 : decode (mX2_readLevel).2.1 70 = .ok (.iconst 0, 1) := by decide +kernel
theorem dX2_readLevel_71 : decode (mX2_readLevel).2.1 71 = .ok (.istore 4, 2) := by decide +kernel
theorem dX2_readLevel_73 : decode (mX2_readLevel).2.1 73 = .ok (.iload 4, 2) := by decide +kernel
theorem dX2_readLevel_75 : decode (mX2_readLevel).2.1 75 = .ok (.iload_n 3, 1) := by decide +kernel
theorem dX2_readLevel_76 : decode (mX2_readLevel).2.1 76 = .ok (.if_icmp .ge 42, 3) := by decide +kernel
theorem dX2_readLevel_79 : decode (mX2_readLevel).2.1 79 = .ok (.aload_n 0, 1) := by decide +kernel
theorem dX2_readLevel_80 : decode (mX2_readLevel).2.1 80 = .ok (.iload_n 1, 1) := by decide +kernel
theorem dX2_readLevel_81 : decode (mX2_readLevel).2.1 81 = .ok (.invokevirtual 83, 3) := by decide +kernel
theorem dX2_readLevel_84 : decode (mX2_readLevel).2.1 84 = .ok (.ifCond .ge 34, 3) := by decide +kernel
theorem dX2_readLevel_87 : decode (mX2_readLevel).2.1 87 = .ok (.aload_n 0, 1) := by decide +kernel
theorem dX2_readLevel_88 : decode (mX2_readLevel).2.1 88 = .ok (.iload_n 1, 1) := by decide +kernel
theorem dX2_readLevel_89 : decode (mX2_readLevel).2.1 89 = .ok (.invokevirtual 83, 3) := by decide +kernel
theorem dX2_readLevel_92 : decode (mX2_readLevel).2.1 92 = .ok (.istore 5, 2) := by decide +kernel
theorem dX2_readLevel_94 : decode (mX2_readLevel).2.1 94 = .ok (.aload_n 0, 1) := by decide +kernel
theorem dX2_readLevel_95 : decode (mX2_readLevel).2.1 95 = .ok (.invokevirtual 59, 3) := by decide +kernel
theorem dX2_readLevel_98 : decode (mX2_readLevel).2.1 98 = .ok (.aload_n 0, 1) := by decide +kernel
theorem dX2_readLevel_99 : decode (mX2_readLevel).2.1 99 = .ok (.iload_n 1, 1) := by decide +kernel
theorem dX2_readLevel_100 : decode (mX2_readLevel).2.1 100 = .ok (.iconst 1, 1) := by decide +kernel
theorem dX2_readLevel_101 : decode (mX2_readLevel).2.1 101 = .ok (.iadd, 1) := by decide +kernel
theorem dX2_readLevel_102 : decode (mX2_readLevel).2.1 102 = .ok (.iload_n 2, 1) := by decide +kernel
theorem dX2_readLevel_103 : decode (mX2_readLevel).2.1 103 = .ok (.invokevirtual 66, 3) := by decide +kernel
theorem dX2_readLevel_106 : decode (mX2_readLevel).2.1 106 = .ok (.aload_n 0, 1) := by decide +kernel
theorem dX2_readLevel_107 : decode (mX2_readLevel).2.1 107 = .ok (.iload 5, 2) := by decide +kernel
theorem dX2_readLevel_109 : decode (mX2_readLevel).2.1 109 = .ok (.invokevirtual 80, 3) := by decide +kernel
theorem dX2_readLevel_112 : decode (mX2_readLevel).2.1 112 = .ok (.iinc 4 1, 3) := by decide +kernel
theorem dX2_readLevel_115 : decode (mX2_readLevel).2.1 115 = .ok (.goto (-42), 3) := by decide +kernel
theorem dX2_readLevel_118 : decode (mX2_readLevel).2.1 118 = .ok (.return_, 1) := by decide +kernel
theorem dX2_readOne_0 : decode (mX2_readOne).2.1 0 = .ok (.aload_n 0, 1) := by decide +kernel
theorem dX2_readOne_1 : decode (mX2_readOne).2.1 1 = .ok (.getfield 25, 3) := by decide +kernel
theorem dX2_readOne_4 : decode (mX2_readOne).2.1 4 = .ok (.bipush 12, 2) := by decide +kernel
theorem dX2_readOne_6 : decode (mX2_readOne).2.1 6 = .ok (.if_icmp .ne 18, 3) := by decide +kernel
theorem dX2_readOne_9 : decode (mX2_readOne).2.1 9 = .ok (.aload_n 0, 1) := by decide +kernel
theorem dX2_readOne_10 : decode (mX2_readOne).2.1 10 = .ok (.aload_n 0, 1) := by decide +kernel
theorem dX2_readOne_11 : decode (mX2_readOne).2.1 11 = .ok (.getfield 31, 3) := by decide +kernel
theorem dX2_readOne_14 : decode (mX2_readOne).2.1 14 = .ok (.invokevirtual 80, 3) := by decide +kernel
theorem dX2_readOne_17 : decode (mX2_readOne).2.1 17 = .ok (.aload_n 0, 1) := by decide +kernel
theorem dX2_readOne_18 : decode (mX2_readOne).2.1 18 = .ok (.invokevirtual 59, 3) := by decide +kernel
theorem dX2_readOne_21 : decode (mX2_readOne).2.1 21 = .ok (.goto 101, 3) := by decide +kernel
theorem dX2_readOne_24 : decode (mX2_readOne).2.1 24 = .ok (.aload_n 0, 1) := by decide +kernel
theorem dX2_readOne_25 : decode (mX2_readOne).2.1 25 = .ok (.getfield 25, 3) := by decide +kernel
theorem dX2_readOne_28 : decode (mX2_readOne).2.1 28 = .ok (.iconst 5, 1) := by decide +kernel
theorem dX2_readOne_29 : decode (mX2_readOne).2.1 29 = .ok (.if_icmp .gt 20, 3) := by decide +kernel
theorem dX2_readOne_32 : decode (mX2_readOne).2.1 32 = .ok (.aload_n 0, 1) := by decide +kernel
theorem dX2_readOne_33 : decode (mX2_readOne).2.1 33 = .ok (.iconst (-1), 1) := by decide +kernel
theorem dX2_readOne_34 : decode (mX2_readOne).2.1 34 = .ok (.aload_n 0, 1) := by decide +kernel
theorem dX2_readOne_35 : decode (mX2_readOne).2.1 35 = .ok (.getfield 25, 3) := by decide +kernel
theorem dX2_readOne_38 : decode (mX2_readOne).2.1 38 = .ok (.isub, 1) := by decide +kernel
theorem dX2_readOne_39 : decode (mX2_readOne).2.1 39 = .ok (.invokevirtual 80, 3) := by decide +kernel
theorem dX2_readOne_42 : decode (mX2_readOne).2.1 42 = .ok (.aload_n 0, 1) := by decide +kernel
theorem dX2_readOne_43 : decode (mX2_readOne).2.1 43 = .ok (.invokevirtual 59, 3) := by decide +kernel
theorem dX2_readOne_46 : decode (mX2_readOne).2.1 46 = .ok (.goto 76, 3) := by decide +kernel
theorem dX2_readOne_49 : decode (mX2_readOne).2.1 49 = .ok (.aload_n 0, 1) := by decide +kernel
theorem dX2_readOne_50 : decode (mX2_readOne).2.1 50 = .ok (.getfield 25, 3) := by decide +kernel
theorem dX2_readOne_53 : decode (mX2_readOne).2.1 53 = .ok (.bipush 19, 2) := by decide +kernel
theorem dX2_readOne_55 : decode (mX2_readOne).2.1 55 = .ok (.if_icmp .ne 28, 3) := by decide +kernel
theorem dX2_readOne_58 : decode (mX2_readOne).2.1 58 = .ok (.aload_n 0, 1) := by decide +kernel
theorem dX2_readOne_59 : decode (mX2_readOne).2.1 59 = .ok (.iload_n 1, 1) := by decide +kernel
theorem dX2_readOne_60 : decode (mX2_readOne).2.1 60 = .ok (.invokevirtual 76, 3) := by decide +kernel
theorem dX2_readOne_63 : decode (mX2_readOne).2.1 63 = .ok (.ifCond .ne 4, 3) := by decide +kernel
theorem dX2_readOne_66 : decode (mX2_readOne).2.1 66 = .ok (.return_, 1) := by decide +kernel
theorem dX2_readOne_67 : decode (mX2_readOne).2.1 67 = .ok (.aload_n 0, 1) := by decide +kernel
theorem dX2_readOne_68 : decode (mX2_readOne).2.1 68 = .ok (.iload_n 1, 1) := by decide +kernel
theorem dX2_readOne_69 : decode (mX2_readOne).2.1 69 = .ok (.iconst 1, 1) := by decide +kernel
theorem dX2_readOne_70 : decode (mX2_readOne).2.1 70 = .ok (.iadd, 1) := by decide +kernel
theorem dX2_readOne_71 : decode (mX2_readOne).2.1 71 = .ok (.invokevirtual 73, 3) := by decide +kernel
theorem dX2_readOne_74 : decode (mX2_readOne).2.1 74 = .ok (.aload_n 0, 1) := by decide +kernel
theorem dX2_readOne_75 : decode (mX2_readOne).2.1 75 = .ok (.bipush (-15), 2) := by decide +kernel
theorem dX2_readOne_77 : decode (mX2_readOne).2.1 77 = .ok (.invokevirtual 80, 3) := by decide +kernel
theorem dX2_readOne_80 : decode (mX2_readOne).2.1 80 = .ok (.goto 42, 3) := by decide +kernel
theorem dX2_readOne_83 : decode (mX2_readOne).2.1 83 = .ok (.aload_n 0, 1) := by decide +kernel
theorem dX2_readOne_84 : decode (mX2_readOne).2.1 84 = .ok (.getfield 25, 3) := by decide +kernel
theorem dX2_readOne_87 : decode (mX2_readOne).2.1 87 = .ok (.bipush 15, 2) := by decide +kernel
theorem dX2_readOne_89 : decode (mX2_readOne).2.1 89 = .ok (.if_icmp .ne 29, 3) := by decide +kernel
theorem dX2_readOne_92 : decode (mX2_readOne).2.1 92 = .ok (.aload_n 0, 1) := by decide +kernel
theorem dX2_readOne_93 : decode (mX2_readOne).2.1 93 = .ok (.iload_n 1, 1) := by decide +kernel
theorem dX2_readOne_94 : decode (mX2_readOne).2.1 94 = .ok (.invokevirtual 76, 3) := by decide +kernel
theorem dX2_readOne_97 : decode (mX2_readOne).2.1 97 = .ok (.ifCond .ne 4, 3) := by decide +kernel
theorem dX2_readOne_100 : decode (mX2_readOne).2.1 100 = .ok (.return_, 1) := by decide +kernel
theorem dX2_readOne_101 : decode (mX2_readOne).2.1 101 = .ok (.aload_n 0, 1) := by decide +kernel
theorem dX2_readOne_102 : decode (mX2_readOne).2.1 102 = .ok (.iconst 0, 1) := by decide +kernel
theorem dX2_readOne_103 : decode (mX2_readOne).2.1 103 = .ok (.iload_n 1, 1) := by decide +kernel
theorem dX2_readOne_104 : decode (mX2_readOne).2.1 104 = .ok (.iconst 1, 1) := by decide +kernel
theorem dX2_readOne_105 : decode (mX2_readOne).2.1 105 = .ok (.iadd, 1) := by decide +kernel
theorem dX2_readOne_106 : decode (mX2_readOne).2.1 106 = .ok (.invokevirtual 66, 3) := by decide +kernel
theorem dX2_readOne_109 : decode (mX2_readOne).2.1 109 = .ok (.aload_n 0, 1) := by decide +kernel
theorem dX2_readOne_110 : decode (mX2_readOne).2.1 110 = .ok (.bipush 16, 2) := by decide +kernel
theorem dX2_readOne_112 : decode (mX2_readOne).2.1 112 = .ok (.invokevirtual 62, 3) := by decide +kernel
theorem dX2_readOne_115 : decode (mX2_readOne).2.1 115 = .ok (.goto 7, 3) := by decide +kernel
theorem dX2_readOne_118 : decode (mX2_readOne).2.1 118 = .ok (.aload_n 0, 1) := by decide +kernel
theorem dX2_readOne_119 : decode (mX2_readOne).2.1 119 = .ok (.invokevirtual 70, 3) := by decide +kernel
theorem dX2_readOne_122 : decode (mX2_readOne).2.1 122 = .ok (.return_, 1) := by decide +kernel
theorem dX2_opens_0 : decode (mX2_opens).2.1 0 = .ok (.iload_n 1, 1) := by decide +kernel
theorem dX2_opens_1 : decode (mX2_opens).2.1 1 = .ok (.iconst 5, 1) := by decide +kernel
theorem dX2_opens_2 : decode (mX2_opens).2.1 2 = .ok (.if_icmp .lt 9, 3) := by decide +kernel
theorem dX2_opens_5 : decode (mX2_opens).2.1 5 = .ok (.aload_n 0, 1) := by decide +kernel
theorem dX2_opens_6 : decode (mX2_opens).2.1 6 = .ok (.invokevirtual 70, 3) := by decide +kernel
theorem dX2_opens_9 : decode (mX2_opens).2.1 9 = .ok (.iconst 0, 1) := by decide +kernel
theorem dX2_opens_10 : decode (mX2_opens).2.1 10 = .ok (.ireturn, 1) := by decide +kernel
theorem dX2_opens_11 : decode (mX2_opens).2.1 11 = .ok (.aload_n 0, 1) := by decide +kernel
theorem dX2_opens_12 : decode (mX2_opens).2.1 12 = .ok (.invokevirtual 59, 3) := by decide +kernel
theorem dX2_opens_15 : decode (mX2_opens).2.1 15 = .ok (.iconst 1, 1) := by decide +kernel
theorem dX2_opens_16 : decode (mX2_opens).2.1 16 = .ok (.ireturn, 1) := by decide +kernel
theorem dX2_stepAt_0 : decode (mX2_stepAt).2.1 0 = .ok (.aload_n 0, 1) := by decide +kernel
theorem dX2_stepAt_1 : decode (mX2_stepAt).2.1 1 = .ok (.getfield 25, 3) := by decide +kernel
theorem dX2_stepAt_4 : decode (mX2_stepAt).2.1 4 = .ok (.tableswitch 155 9 22 #[72, 83, 155, 155, 155, 155, 155, 155, 155, 119, 131, 143, 95, 107], 72) := by decide +kernel
theorem dX2_stepAt_76 : decode (mX2_stepAt).2.1 76 = .ok (.iload_n 1, 1) := by decide +kernel
theorem dX2_stepAt_77 : decode (mX2_stepAt).2.1 77 = .ok (.ifCond .ne 8, 3) := by decide +kernel
theorem dX2_stepAt_80 : decode (mX2_stepAt).2.1 80 = .ok (.bipush (-7), 2) := by decide +kernel
theorem dX2_stepAt_82 : decode (mX2_stepAt).2.1 82 = .ok (.goto 4, 3) := by decide +kernel
theorem dX2_stepAt_85 : decode (mX2_stepAt).2.1 85 = .ok (.iconst 0, 1) := by decide +kernel
theorem dX2_stepAt_86 : decode (mX2_stepAt).2.1 86 = .ok (.ireturn, 1) := by decide +kernel
theorem dX2_stepAt_87 : decode (mX2_stepAt).2.1 87 = .ok (.iload_n 1, 1) := by decide +kernel
theorem dX2_stepAt_88 : decode (mX2_stepAt).2.1 88 = .ok (.iconst 1, 1) := by decide +kernel
theorem dX2_stepAt_89 : decode (mX2_stepAt).2.1 89 = .ok (.if_icmp .ne 8, 3) := by decide +kernel
theorem dX2_stepAt_92 : decode (mX2_stepAt).2.1 92 = .ok (.bipush (-8), 2) := by decide +kernel
theorem dX2_stepAt_94 : decode (mX2_stepAt).2.1 94 = .ok (.goto 4, 3) := by decide +kernel
theorem dX2_stepAt_97 : decode (mX2_stepAt).2.1 97 = .ok (.iconst 0, 1) := by decide +kernel
theorem dX2_stepAt_98 : decode (mX2_stepAt).2.1 98 = .ok (.ireturn, 1) := by decide +kernel
theorem dX2_stepAt_99 : decode (mX2_stepAt).2.1 99 = .ok (.iload_n 1, 1) := by decide +kernel
theorem dX2_stepAt_100 : decode (mX2_stepAt).2.1 100 = .ok (.iconst 2, 1) := by decide +kernel
theorem dX2_stepAt_101 : decode (mX2_stepAt).2.1 101 = .ok (.if_icmp .ne 8, 3) := by decide +kernel
theorem dX2_stepAt_104 : decode (mX2_stepAt).2.1 104 = .ok (.bipush (-10), 2) := by decide +kernel
theorem dX2_stepAt_106 : decode (mX2_stepAt).2.1 106 = .ok (.goto 4, 3) := by decide +kernel
theorem dX2_stepAt_109 : decode (mX2_stepAt).2.1 109 = .ok (.iconst 0, 1) := by decide +kernel
theorem dX2_stepAt_110 : decode (mX2_stepAt).2.1 110 = .ok (.ireturn, 1) := by decide +kernel
theorem dX2_stepAt_111 : decode (mX2_stepAt).2.1 111 = .ok (.iload_n 1, 1) := by decide +kernel
theorem dX2_stepAt_112 : decode (mX2_stepAt).2.1 112 = .ok (.iconst 2, 1) := by decide +kernel
theorem dX2_stepAt_113 : decode (mX2_stepAt).2.1 113 = .ok (.if_icmp .ne 8, 3) := by decide +kernel
theorem dX2_stepAt_116 : decode (mX2_stepAt).2.1 116 = .ok (.bipush (-11), 2) := by decide +kernel
theorem dX2_stepAt_118 : decode (mX2_stepAt).2.1 118 = .ok (.goto 4, 3) := by decide +kernel
theorem dX2_stepAt_121 : decode (mX2_stepAt).2.1 121 = .ok (.iconst 0, 1) := by decide +kernel
theorem dX2_stepAt_122 : decode (mX2_stepAt).2.1 122 = .ok (.ireturn, 1) := by decide +kernel
theorem dX2_stepAt_123 : decode (mX2_stepAt).2.1 123 = .ok (.iload_n 1, 1) := by decide +kernel
theorem dX2_stepAt_124 : decode (mX2_stepAt).2.1 124 = .ok (.iconst 3, 1) := by decide +kernel
theorem dX2_stepAt_125 : decode (mX2_stepAt).2.1 125 = .ok (.if_icmp .ne 8, 3) := by decide +kernel
theorem dX2_stepAt_128 : decode (mX2_stepAt).2.1 128 = .ok (.bipush (-12), 2) := by decide +kernel
theorem dX2_stepAt_130 : decode (mX2_stepAt).2.1 130 = .ok (.goto 4, 3) := by decide +kernel
theorem dX2_stepAt_133 : decode (mX2_stepAt).2.1 133 = .ok (.iconst 0, 1) := by decide +kernel
theorem dX2_stepAt_134 : decode (mX2_stepAt).2.1 134 = .ok (.ireturn, 1) := by decide +kernel
theorem dX2_stepAt_135 : decode (mX2_stepAt).2.1 135 = .ok (.iload_n 1, 1) := by decide +kernel
theorem dX2_stepAt_136 : decode (mX2_stepAt).2.1 136 = .ok (.iconst 3, 1) := by decide +kernel
theorem dX2_stepAt_137 : decode (mX2_stepAt).2.1 137 = .ok (.if_icmp .ne 8, 3) := by decide +kernel
theorem dX2_stepAt_140 : decode (mX2_stepAt).2.1 140 = .ok (.bipush (-13), 2) := by decide +kernel
theorem dX2_stepAt_142 : decode (mX2_stepAt).2.1 142 = .ok (.goto 4, 3) := by decide +kernel
theorem dX2_stepAt_145 : decode (mX2_stepAt).2.1 145 = .ok (.iconst 0, 1) := by decide +kernel
theorem dX2_stepAt_146 : decode (mX2_stepAt).2.1 146 = .ok (.ireturn, 1) := by decide +kernel
theorem dX2_stepAt_147 : decode (mX2_stepAt).2.1 147 = .ok (.iload_n 1, 1) := by decide +kernel
theorem dX2_stepAt_148 : decode (mX2_stepAt).2.1 148 = .ok (.iconst 4, 1) := by decide +kernel
theorem dX2_stepAt_149 : decode (mX2_stepAt).2.1 149 = .ok (.if_icmp .ne 8, 3) := by decide +kernel
theorem dX2_stepAt_152 : decode (mX2_stepAt).2.1 152 = .ok (.bipush (-14), 2) := by decide +kernel
theorem dX2_stepAt_154 : decode (mX2_stepAt).2.1 154 = .ok (.goto 4, 3) := by decide +kernel
theorem dX2_stepAt_157 : decode (mX2_stepAt).2.1 157 = .ok (.iconst 0, 1) := by decide +kernel
theorem dX2_stepAt_158 : decode (mX2_stepAt).2.1 158 = .ok (.ireturn, 1) := by decide +kernel
theorem dX2_stepAt_159 : decode (mX2_stepAt).2.1 159 = .ok (.iconst 0, 1) := by decide +kernel
theorem dX2_stepAt_160 : decode (mX2_stepAt).2.1 160 = .ok (.ireturn, 1) := by decide +kernel
theorem dX2_advance_0 : decode (mX2_advance).2.1 0 = .ok (.aload_n 0, 1) := by decide +kernel
theorem dX2_advance_1 : decode (mX2_advance).2.1 1 = .ok (.getfield 15, 3) := by decide +kernel
theorem dX2_advance_4 : decode (mX2_advance).2.1 4 = .ok (.iconst (-1), 1) := by decide +kernel
theorem dX2_advance_5 : decode (mX2_advance).2.1 5 = .ok (.if_icmp .eq 4, 3) := by decide +kernel
theorem dX2_advance_8 : decode (mX2_advance).2.1 8 = .ok (.return_, 1) := by decide +kernel
theorem dX2_advance_9 : decode (mX2_advance).2.1 9 = .ok (.aload_n 0, 1) := by decide +kernel
theorem dX2_advance_10 : decode (mX2_advance).2.1 10 = .ok (.getfield 22, 3) := by decide +kernel
theorem dX2_advance_13 : decode (mX2_advance).2.1 13 = .ok (.aload_n 0, 1) := by decide +kernel
theorem dX2_advance_14 : decode (mX2_advance).2.1 14 = .ok (.getfield 9, 3) := by decide +kernel
theorem dX2_advance_17 : decode (mX2_advance).2.1 17 = .ok (.if_icmp .ge 31, 3) := by decide +kernel
theorem dX2_advance_20 : decode (mX2_advance).2.1 20 = .ok (.aload_n 0, 1) := by decide +kernel
theorem dX2_advance_21 : decode (mX2_advance).2.1 21 = .ok (.getfield 18, 3) := by decide +kernel
theorem dX2_advance_24 : decode (mX2_advance).2.1 24 = .ok (.aload_n 0, 1) := by decide +kernel
theorem dX2_advance_25 : decode (mX2_advance).2.1 25 = .ok (.getfield 22, 3) := by decide +kernel
theorem dX2_advance_28 : decode (mX2_advance).2.1 28 = .ok (.iaload, 1) := by decide +kernel
theorem dX2_advance_29 : decode (mX2_advance).2.1 29 = .ok (.invokestatic 87, 3) := by decide +kernel
theorem dX2_advance_32 : decode (mX2_advance).2.1 32 = .ok (.ifCond .eq 16, 3) := by decide +kernel
theorem dX2_advance_35 : decode (mX2_advance).2.1 35 = .ok (.aload_n 0, 1) := by decide +kernel
theorem dX2_advance_36 : decode (mX2_advance).2.1 36 = .ok (.dup, 1) := by decide +kernel
theorem dX2_advance_37 : decode (mX2_advance).2.1 37 = .ok (.getfield 22, 3) := by decide +kernel
theorem dX2_advance_40 : decode (mX2_advance).2.1 40 = .ok (.iconst 1, 1) := by decide +kernel
theorem dX2_advance_41 : decode (mX2_advance).2.1 41 = .ok (.iadd, 1) := by decide +kernel
theorem dX2_advance_42 : decode (mX2_advance).2.1 42 = .ok (.putfield 22, 3) := by decide +kernel
theorem dX2_advance_45 : decode (mX2_advance).2.1 45 = .ok (.goto (-36), 3) := by decide +kernel
theorem dX2_advance_48 : decode (mX2_advance).2.1 48 = .ok (.aload_n 0, 1) := by decide +kernel
theorem dX2_advance_49 : decode (mX2_advance).2.1 49 = .ok (.aload_n 0, 1) := by decide +kernel
theorem dX2_advance_50 : decode (mX2_advance).2.1 50 = .ok (.getfield 22, 3) := by decide +kernel
theorem dX2_advance_53 : decode (mX2_advance).2.1 53 = .ok (.putfield 28, 3) := by decide +kernel
theorem dX2_advance_56 : decode (mX2_advance).2.1 56 = .ok (.aload_n 0, 1) := by decide +kernel
theorem dX2_advance_57 : decode (mX2_advance).2.1 57 = .ok (.getfield 22, 3) := by decide +kernel
theorem dX2_advance_60 : decode (mX2_advance).2.1 60 = .ok (.aload_n 0, 1) := by decide +kernel
theorem dX2_advance_61 : decode (mX2_advance).2.1 61 = .ok (.getfield 9, 3) := by decide +kernel
theorem dX2_advance_64 : decode (mX2_advance).2.1 64 = .ok (.if_icmp .lt 10, 3) := by decide +kernel
theorem dX2_advance_67 : decode (mX2_advance).2.1 67 = .ok (.aload_n 0, 1) := by decide +kernel
theorem dX2_advance_68 : decode (mX2_advance).2.1 68 = .ok (.bipush 13, 2) := by decide +kernel
theorem dX2_advance_70 : decode (mX2_advance).2.1 70 = .ok (.putfield 25, 3) := by decide +kernel
theorem dX2_advance_73 : decode (mX2_advance).2.1 73 = .ok (.return_, 1) := by decide +kernel
theorem dX2_advance_74 : decode (mX2_advance).2.1 74 = .ok (.aload_n 0, 1) := by decide +kernel
theorem dX2_advance_75 : decode (mX2_advance).2.1 75 = .ok (.getfield 18, 3) := by decide +kernel
theorem dX2_advance_78 : decode (mX2_advance).2.1 78 = .ok (.aload_n 0, 1) := by decide +kernel
theorem dX2_advance_79 : decode (mX2_advance).2.1 79 = .ok (.getfield 22, 3) := by decide +kernel
theorem dX2_advance_82 : decode (mX2_advance).2.1 82 = .ok (.iaload, 1) := by decide +kernel
theorem dX2_advance_83 : decode (mX2_advance).2.1 83 = .ok (.istore_n 1, 1) := by decide +kernel
theorem dX2_advance_84 : decode (mX2_advance).2.1 84 = .ok (.iload_n 1, 1) := by decide +kernel
theorem dX2_advance_85 : decode (mX2_advance).2.1 85 = .ok (.invokestatic 90, 3) := by decide +kernel
theorem dX2_advance_88 : decode (mX2_advance).2.1 88 = .ok (.ifCond .eq 10, 3) := by decide +kernel
theorem dX2_advance_91 : decode (mX2_advance).2.1 91 = .ok (.aload_n 0, 1) := by decide +kernel
theorem dX2_advance_92 : decode (mX2_advance).2.1 92 = .ok (.invokevirtual 93, 3) := by decide +kernel
theorem dX2_advance_95 : decode (mX2_advance).2.1 95 = .ok (.goto 22, 3) := by decide +kernel
theorem dX2_advance_98 : decode (mX2_advance).2.1 98 = .ok (.iload_n 1, 1) := by decide +kernel
theorem dX2_advance_99 : decode (mX2_advance).2.1 99 = .ok (.invokestatic 96, 3) := by decide +kernel
theorem dX2_advance_102 : decode (mX2_advance).2.1 102 = .ok (.ifCond .eq 10, 3) := by decide +kernel
theorem dX2_advance_105 : decode (mX2_advance).2.1 105 = .ok (.aload_n 0, 1) := by decide +kernel
theorem dX2_advance_106 : decode (mX2_advance).2.1 106 = .ok (.invokevirtual 99, 3) := by decide +kernel
theorem dX2_advance_109 : decode (mX2_advance).2.1 109 = .ok (.goto 8, 3) := by decide +kernel
theorem dX2_advance_112 : decode (mX2_advance).2.1 112 = .ok (.aload_n 0, 1) := by decide +kernel
theorem dX2_advance_113 : decode (mX2_advance).2.1 113 = .ok (.iload_n 1, 1) := by decide +kernel
theorem dX2_advance_114 : decode (mX2_advance).2.1 114 = .ok (.invokevirtual 102, 3) := by decide +kernel
theorem dX2_advance_117 : decode (mX2_advance).2.1 117 = .ok (.return_, 1) := by decide +kernel
theorem dX2_readNumber_0 : decode (mX2_readNumber).2.1 0 = .ok (.aload_n 0, 1) := by decide +kernel
theorem dX2_readNumber_1 : decode (mX2_readNumber).2.1 1 = .ok (.iconst 0, 1) := by decide +kernel
theorem dX2_readNumber_2 : decode (mX2_readNumber).2.1 2 = .ok (.putfield 31, 3) := by decide +kernel
theorem dX2_readNumber_5 : decode (mX2_readNumber).2.1 5 = .ok (.aload_n 0, 1) := by decide +kernel
theorem dX2_readNumber_6 : decode (mX2_readNumber).2.1 6 = .ok (.getfield 22, 3) := by decide +kernel
theorem dX2_readNumber_9 : decode (mX2_readNumber).2.1 9 = .ok (.aload_n 0, 1) := by decide +kernel
theorem dX2_readNumber_10 : decode (mX2_readNumber).2.1 10 = .ok (.getfield 9, 3) := by decide +kernel
theorem dX2_readNumber_13 : decode (mX2_readNumber).2.1 13 = .ok (.if_icmp .ge 55, 3) := by decide +kernel
theorem dX2_readNumber_16 : decode (mX2_readNumber).2.1 16 = .ok (.aload_n 0, 1) := by decide +kernel
theorem dX2_readNumber_17 : decode (mX2_readNumber).2.1 17 = .ok (.getfield 18, 3) := by decide +kernel
theorem dX2_readNumber_20 : decode (mX2_readNumber).2.1 20 = .ok (.aload_n 0, 1) := by decide +kernel
theorem dX2_readNumber_21 : decode (mX2_readNumber).2.1 21 = .ok (.getfield 22, 3) := by decide +kernel
theorem dX2_readNumber_24 : decode (mX2_readNumber).2.1 24 = .ok (.iaload, 1) := by decide +kernel
theorem dX2_readNumber_25 : decode (mX2_readNumber).2.1 25 = .ok (.invokestatic 90, 3) := by decide +kernel
theorem dX2_readNumber_28 : decode (mX2_readNumber).2.1 28 = .ok (.ifCond .eq 40, 3) := by decide +kernel
theorem dX2_readNumber_31 : decode (mX2_readNumber).2.1 31 = .ok (.aload_n 0, 1) := by decide +kernel
theorem dX2_readNumber_32 : decode (mX2_readNumber).2.1 32 = .ok (.aload_n 0, 1) := by decide +kernel
theorem dX2_readNumber_33 : decode (mX2_readNumber).2.1 33 = .ok (.getfield 31, 3) := by decide +kernel
theorem dX2_readNumber_36 : decode (mX2_readNumber).2.1 36 = .ok (.bipush 10, 2) := by decide +kernel
theorem dX2_readNumber_38 : decode (mX2_readNumber).2.1 38 = .ok (.imul, 1) := by decide +kernel
theorem dX2_readNumber_39 : decode (mX2_readNumber).2.1 39 = .ok (.aload_n 0, 1) := by decide +kernel
theorem dX2_readNumber_40 : decode (mX2_readNumber).2.1 40 = .ok (.getfield 18, 3) := by decide +kernel
theorem dX2_readNumber_43 : decode (mX2_readNumber).2.1 43 = .ok (.aload_n 0, 1) := by decide +kernel
theorem dX2_readNumber_44 : decode (mX2_readNumber).2.1 44 = .ok (.getfield 22, 3) := by decide +kernel
theorem dX2_readNumber_47 : decode (mX2_readNumber).2.1 47 = .ok (.iaload, 1) := by decide +kernel
theorem dX2_readNumber_48 : decode (mX2_readNumber).2.1 48 = .ok (.iadd, 1) := by decide +kernel
theorem dX2_readNumber_49 : decode (mX2_readNumber).2.1 49 = .ok (.bipush 48, 2) := by decide +kernel
theorem dX2_readNumber_51 : decode (mX2_readNumber).2.1 51 = .ok (.isub, 1) := by decide +kernel
theorem dX2_readNumber_52 : decode (mX2_readNumber).2.1 52 = .ok (.putfield 31, 3) := by decide +kernel
theorem dX2_readNumber_55 : decode (mX2_readNumber).2.1 55 = .ok (.aload_n 0, 1) := by decide +kernel
theorem dX2_readNumber_56 : decode (mX2_readNumber).2.1 56 = .ok (.dup, 1) := by decide +kernel
theorem dX2_readNumber_57 : decode (mX2_readNumber).2.1 57 = .ok (.getfield 22, 3) := by decide +kernel
theorem dX2_readNumber_60 : decode (mX2_readNumber).2.1 60 = .ok (.iconst 1, 1) := by decide +kernel
theorem dX2_readNumber_61 : decode (mX2_readNumber).2.1 61 = .ok (.iadd, 1) := by decide +kernel
theorem dX2_readNumber_62 : decode (mX2_readNumber).2.1 62 = .ok (.putfield 22, 3) := by decide +kernel
theorem dX2_readNumber_65 : decode (mX2_readNumber).2.1 65 = .ok (.goto (-60), 3) := by decide +kernel
theorem dX2_readNumber_68 : decode (mX2_readNumber).2.1 68 = .ok (.aload_n 0, 1) := by decide +kernel
theorem dX2_readNumber_69 : decode (mX2_readNumber).2.1 69 = .ok (.aload_n 0, 1) := by decide +kernel
theorem dX2_readNumber_70 : decode (mX2_readNumber).2.1 70 = .ok (.getfield 22, 3) := by decide +kernel
theorem dX2_readNumber_73 : decode (mX2_readNumber).2.1 73 = .ok (.aload_n 0, 1) := by decide +kernel
theorem dX2_readNumber_74 : decode (mX2_readNumber).2.1 74 = .ok (.getfield 28, 3) := by decide +kernel
theorem dX2_readNumber_77 : decode (mX2_readNumber).2.1 77 = .ok (.isub, 1) := by decide +kernel
theorem dX2_readNumber_78 : decode (mX2_readNumber).2.1 78 = .ok (.iconst 4, 1) := by decide +kernel
theorem dX2_readNumber_79 : decode (mX2_readNumber).2.1 79 = .ok (.if_icmp .gt 8, 3) := by decide +kernel
theorem dX2_readNumber_82 : decode (mX2_readNumber).2.1 82 = .ok (.bipush 12, 2) := by decide +kernel
theorem dX2_readNumber_84 : decode (mX2_readNumber).2.1 84 = .ok (.goto 5, 3) := by decide +kernel
theorem dX2_readNumber_87 : decode (mX2_readNumber).2.1 87 = .ok (.bipush 14, 2) := by decide +kernel
theorem dX2_readNumber_89 : decode (mX2_readNumber).2.1 89 = .ok (.putfield 25, 3) := by decide +kernel
theorem dX2_readNumber_92 : decode (mX2_readNumber).2.1 92 = .ok (.return_, 1) := by decide +kernel
theorem dX2_readWord_0 : decode (mX2_readWord).2.1 0 = .ok (.aload_n 0, 1) := by decide +kernel
theorem dX2_readWord_1 : decode (mX2_readWord).2.1 1 = .ok (.getfield 22, 3) := by decide +kernel
theorem dX2_readWord_4 : decode (mX2_readWord).2.1 4 = .ok (.aload_n 0, 1) := by decide +kernel
theorem dX2_readWord_5 : decode (mX2_readWord).2.1 5 = .ok (.getfield 9, 3) := by decide +kernel
theorem dX2_readWord_8 : decode (mX2_readWord).2.1 8 = .ok (.if_icmp .ge 31, 3) := by decide +kernel
theorem dX2_readWord_11 : decode (mX2_readWord).2.1 11 = .ok (.aload_n 0, 1) := by decide +kernel
theorem dX2_readWord_12 : decode (mX2_readWord).2.1 12 = .ok (.getfield 18, 3) := by decide +kernel
theorem dX2_readWord_15 : decode (mX2_readWord).2.1 15 = .ok (.aload_n 0, 1) := by decide +kernel
theorem dX2_readWord_16 : decode (mX2_readWord).2.1 16 = .ok (.getfield 22, 3) := by decide +kernel
theorem dX2_readWord_19 : decode (mX2_readWord).2.1 19 = .ok (.iaload, 1) := by decide +kernel
theorem dX2_readWord_20 : decode (mX2_readWord).2.1 20 = .ok (.invokestatic 96, 3) := by decide +kernel
theorem dX2_readWord_23 : decode (mX2_readWord).2.1 23 = .ok (.ifCond .eq 16, 3) := by decide +kernel
theorem dX2_readWord_26 : decode (mX2_readWord).2.1 26 = .ok (.aload_n 0, 1) := by decide +kernel
theorem dX2_readWord_27 : decode (mX2_readWord).2.1 27 = .ok (.dup, 1) := by decide +kernel
theorem dX2_readWord_28 : decode (mX2_readWord).2.1 28 = .ok (.getfield 22, 3) := by decide +kernel
theorem dX2_readWord_31 : decode (mX2_readWord).2.1 31 = .ok (.iconst 1, 1) := by decide +kernel
theorem dX2_readWord_32 : decode (mX2_readWord).2.1 32 = .ok (.iadd, 1) := by decide +kernel
theorem dX2_readWord_33 : decode (mX2_readWord).2.1 33 = .ok (.putfield 22, 3) := by decide +kernel
theorem dX2_readWord_36 : decode (mX2_readWord).2.1 36 = .ok (.goto (-36), 3) := by decide +kernel
theorem dX2_readWord_39 : decode (mX2_readWord).2.1 39 = .ok (.aload_n 0, 1) := by decide +kernel
theorem dX2_readWord_40 : decode (mX2_readWord).2.1 40 = .ok (.bipush 14, 2) := by decide +kernel
theorem dX2_readWord_42 : decode (mX2_readWord).2.1 42 = .ok (.putfield 25, 3) := by decide +kernel
theorem dX2_readWord_45 : decode (mX2_readWord).2.1 45 = .ok (.iconst 0, 1) := by decide +kernel
theorem dX2_readWord_46 : decode (mX2_readWord).2.1 46 = .ok (.istore_n 1, 1) := by decide +kernel
theorem dX2_readWord_47 : decode (mX2_readWord).2.1 47 = .ok (.iload_n 1, 1) := by decide +kernel
theorem dX2_readWord_48 : decode (mX2_readWord).2.1 48 = .ok (.bipush 12, 2) := by decide +kernel
theorem dX2_readWord_50 : decode (mX2_readWord).2.1 50 = .ok (.if_icmp .ge 22, 3) := by decide +kernel
theorem dX2_readWord_53 : decode (mX2_readWord).2.1 53 = .ok (.aload_n 0, 1) := by decide +kernel
theorem dX2_readWord_54 : decode (mX2_readWord).2.1 54 = .ok (.iload_n 1, 1) := by decide +kernel
theorem dX2_readWord_55 : decode (mX2_readWord).2.1 55 = .ok (.invokevirtual 105, 3) := by decide +kernel
theorem dX2_readWord_58 : decode (mX2_readWord).2.1 58 = .ok (.ifCond .eq 8, 3) := by decide +kernel
theorem dX2_readWord_61 : decode (mX2_readWord).2.1 61 = .ok (.aload_n 0, 1) := by decide +kernel
theorem dX2_readWord_62 : decode (mX2_readWord).2.1 62 = .ok (.iload_n 1, 1) := by decide +kernel
theorem dX2_readWord_63 : decode (mX2_readWord).2.1 63 = .ok (.putfield 25, 3) := by decide +kernel
theorem dX2_readWord_66 : decode (mX2_readWord).2.1 66 = .ok (.iinc 1 1, 3) := by decide +kernel
theorem dX2_readWord_69 : decode (mX2_readWord).2.1 69 = .ok (.goto (-22), 3) := by decide +kernel
theorem dX2_readWord_72 : decode (mX2_readWord).2.1 72 = .ok (.return_, 1) := by decide +kernel
theorem dX2_spells_0 : decode (mX2_spells).2.1 0 = .ok (.aload_n 0, 1) := by decide +kernel
theorem dX2_spells_1 : decode (mX2_spells).2.1 1 = .ok (.getfield 22, 3) := by decide +kernel
theorem dX2_spells_4 : decode (mX2_spells).2.1 4 = .ok (.aload_n 0, 1) := by decide +kernel
theorem dX2_spells_5 : decode (mX2_spells).2.1 5 = .ok (.getfield 28, 3) := by decide +kernel
theorem dX2_spells_8 : decode (mX2_spells).2.1 8 = .ok (.isub, 1) := by decide +kernel
theorem dX2_spells_9 : decode (mX2_spells).2.1 9 = .ok (.istore_n 2, 1) := by decide +kernel
theorem dX2_spells_10 : decode (mX2_spells).2.1 10 = .ok (.iload_n 2, 1) := by decide +kernel
theorem dX2_spells_11 : decode (mX2_spells).2.1 11 = .ok (.bipush 7, 2) := by decide +kernel
theorem dX2_spells_13 : decode (mX2_spells).2.1 13 = .ok (.if_icmp .lt 5, 3) := by decide +kernel
theorem dX2_spells_16 : decode (mX2_spells).2.1 16 = .ok (.iconst 0, 1) := by decide +kernel
theorem dX2_spells_17 : decode (mX2_spells).2.1 17 = .ok (.ireturn, 1) := by decide +kernel
theorem dX2_spells_18 : decode (mX2_spells).2.1 18 = .ok (.iconst 0, 1) := by decide +kernel
theorem dX2_spells_19 : decode (mX2_spells).2.1 19 = .ok (.istore_n 3, 1) := by decide +kernel
theorem dX2_spells_20 : decode (mX2_spells).2.1 20 = .ok (.iload_n 3, 1) := by decide +kernel
theorem dX2_spells_21 : decode (mX2_spells).2.1 21 = .ok (.bipush 7, 2) := by decide +kernel
theorem dX2_spells_23 : decode (mX2_spells).2.1 23 = .ok (.if_icmp .ge 50, 3) := by decide +kernel
theorem dX2_spells_26 : decode (mX2_spells).2.1 26 = .ok (.iload_n 3, 1) := by decide +kernel
theorem dX2_spells_27 : decode (mX2_spells).2.1 27 = .ok (.iload_n 2, 1) := by decide +kernel
theorem dX2_spells_28 : decode (mX2_spells).2.1 28 = .ok (.if_icmp .ge 17, 3) := by decide +kernel
theorem dX2_spells_31 : decode (mX2_spells).2.1 31 = .ok (.aload_n 0, 1) := by decide +kernel
theorem dX2_spells_32 : decode (mX2_spells).2.1 32 = .ok (.getfield 18, 3) := by decide +kernel
theorem dX2_spells_35 : decode (mX2_spells).2.1 35 = .ok (.aload_n 0, 1) := by decide +kernel
theorem dX2_spells_36 : decode (mX2_spells).2.1 36 = .ok (.getfield 28, 3) := by decide +kernel
theorem dX2_spells_39 : decode (mX2_spells).2.1 39 = .ok (.iload_n 3, 1) := by decide +kernel
theorem dX2_spells_40 : decode (mX2_spells).2.1 40 = .ok (.iadd, 1) := by decide +kernel
theorem dX2_spells_41 : decode (mX2_spells).2.1 41 = .ok (.iaload, 1) := by decide +kernel
theorem dX2_spells_42 : decode (mX2_spells).2.1 42 = .ok (.goto 5, 3) := by decide +kernel
theorem dX2_spells_45 : decode (mX2_spells).2.1 45 = .ok (.bipush 32, 2) := by decide +kernel
theorem dX2_spells_47 : decode (mX2_spells).2.1 47 = .ok (.istore 4, 2) := by decide +kernel
theorem dX2_spells_49 : decode (mX2_spells).2.1 49 = .ok (.ldc 108, 2) := by decide +kernel
theorem dX2_spells_51 : decode (mX2_spells).2.1 51 = .ok (.iload_n 1, 1) := by decide +kernel
theorem dX2_spells_52 : decode (mX2_spells).2.1 52 = .ok (.bipush 7, 2) := by decide +kernel
theorem dX2_spells_54 : decode (mX2_spells).2.1 54 = .ok (.imul, 1) := by decide +kernel
theorem dX2_spells_55 : decode (mX2_spells).2.1 55 = .ok (.iload_n 3, 1) := by decide +kernel
theorem dX2_spells_56 : decode (mX2_spells).2.1 56 = .ok (.iadd, 1) := by decide +kernel
theorem dX2_spells_57 : decode (mX2_spells).2.1 57 = .ok (.invokevirtual 110, 3) := by decide +kernel
theorem dX2_spells_60 : decode (mX2_spells).2.1 60 = .ok (.iload 4, 2) := by decide +kernel
theorem dX2_spells_62 : decode (mX2_spells).2.1 62 = .ok (.if_icmp .eq 5, 3) := by decide +kernel
theorem dX2_spells_65 : decode (mX2_spells).2.1 65 = .ok (.iconst 0, 1) := by decide +kernel
theorem dX2_spells_66 : decode (mX2_spells).2.1 66 = .ok (.ireturn, 1) := by decide +kernel
theorem dX2_spells_67 : decode (mX2_spells).2.1 67 = .ok (.iinc 3 1, 3) := by decide +kernel
theorem dX2_spells_70 : decode (mX2_spells).2.1 70 = .ok (.goto (-50), 3) := by decide +kernel
theorem dX2_spells_73 : decode (mX2_spells).2.1 73 = .ok (.iconst 1, 1) := by decide +kernel
theorem dX2_spells_74 : decode (mX2_spells).2.1 74 = .ok (.ireturn, 1) := by decide +kernel
theorem dX2_readSign_0 : decode (mX2_readSign).2.1 0 = .ok (.ldc 116, 2) := by decide +kernel
theorem dX2_readSign_2 : decode (mX2_readSign).2.1 2 = .ok (.iload_n 1, 1) := by decide +kernel
theorem dX2_readSign_3 : decode (mX2_readSign).2.1 3 = .ok (.i2c, 1) := by decide +kernel
theorem dX2_readSign_4 : decode (mX2_readSign).2.1 4 = .ok (.invokevirtual 118, 3) := by decide +kernel
theorem dX2_readSign_7 : decode (mX2_readSign).2.1 7 = .ok (.istore_n 2, 1) := by decide +kernel
theorem dX2_readSign_8 : decode (mX2_readSign).2.1 8 = .ok (.aload_n 0, 1) := by decide +kernel
theorem dX2_readSign_9 : decode (mX2_readSign).2.1 9 = .ok (.iload_n 2, 1) := by decide +kernel
theorem dX2_readSign_10 : decode (mX2_readSign).2.1 10 = .ok (.ifCond .ge 8, 3) := by decide +kernel
theorem dX2_readSign_13 : decode (mX2_readSign).2.1 13 = .ok (.bipush 14, 2) := by decide +kernel
theorem dX2_readSign_15 : decode (mX2_readSign).2.1 15 = .ok (.goto 7, 3) := by decide +kernel
theorem dX2_readSign_18 : decode (mX2_readSign).2.1 18 = .ok (.bipush 15, 2) := by decide +kernel
theorem dX2_readSign_20 : decode (mX2_readSign).2.1 20 = .ok (.iload_n 2, 1) := by decide +kernel
theorem dX2_readSign_21 : decode (mX2_readSign).2.1 21 = .ok (.iadd, 1) := by decide +kernel
theorem dX2_readSign_22 : decode (mX2_readSign).2.1 22 = .ok (.putfield 25, 3) := by decide +kernel
theorem dX2_readSign_25 : decode (mX2_readSign).2.1 25 = .ok (.aload_n 0, 1) := by decide +kernel
theorem dX2_readSign_26 : decode (mX2_readSign).2.1 26 = .ok (.dup, 1) := by decide +kernel
theorem dX2_readSign_27 : decode (mX2_readSign).2.1 27 = .ok (.getfield 22, 3) := by decide +kernel
theorem dX2_readSign_30 : decode (mX2_readSign).2.1 30 = .ok (.iconst 1, 1) := by decide +kernel
theorem dX2_readSign_31 : decode (mX2_readSign).2.1 31 = .ok (.iadd, 1) := by decide +kernel
theorem dX2_readSign_32 : decode (mX2_readSign).2.1 32 = .ok (.putfield 22, 3) := by decide +kernel
theorem dX2_readSign_35 : decode (mX2_readSign).2.1 35 = .ok (.return_, 1) := by decide +kernel
theorem dX2_isBlank_0 : decode (mX2_isBlank).2.1 0 = .ok (.iload_n 0, 1) := by decide +kernel
theorem dX2_isBlank_1 : decode (mX2_isBlank).2.1 1 = .ok (.bipush 32, 2) := by decide +kernel
theorem dX2_isBlank_3 : decode (mX2_isBlank).2.1 3 = .ok (.if_icmp .eq 9, 3) := by decide +kernel
theorem dX2_isBlank_6 : decode (mX2_isBlank).2.1 6 = .ok (.iload_n 0, 1) := by decide +kernel
theorem dX2_isBlank_7 : decode (mX2_isBlank).2.1 7 = .ok (.bipush 10, 2) := by decide +kernel
theorem dX2_isBlank_9 : decode (mX2_isBlank).2.1 9 = .ok (.if_icmp .ne 7, 3) := by decide +kernel
theorem dX2_isBlank_12 : decode (mX2_isBlank).2.1 12 = .ok (.iconst 1, 1) := by decide +kernel
theorem dX2_isBlank_13 : decode (mX2_isBlank).2.1 13 = .ok (.goto 4, 3) := by decide +kernel
theorem dX2_isBlank_16 : decode (mX2_isBlank).2.1 16 = .ok (.iconst 0, 1) := by decide +kernel
theorem dX2_isBlank_17 : decode (mX2_isBlank).2.1 17 = .ok (.ireturn, 1) := by decide +kernel
theorem dX2_isDigit_0 : decode (mX2_isDigit).2.1 0 = .ok (.bipush 48, 2) := by decide +kernel
theorem dX2_isDigit_2 : decode (mX2_isDigit).2.1 2 = .ok (.iload_n 0, 1) := by decide +kernel
theorem dX2_isDigit_3 : decode (mX2_isDigit).2.1 3 = .ok (.if_icmp .gt 13, 3) := by decide +kernel
theorem dX2_isDigit_6 : decode (mX2_isDigit).2.1 6 = .ok (.iload_n 0, 1) := by decide +kernel
theorem dX2_isDigit_7 : decode (mX2_isDigit).2.1 7 = .ok (.bipush 57, 2) := by decide +kernel
theorem dX2_isDigit_9 : decode (mX2_isDigit).2.1 9 = .ok (.if_icmp .gt 7, 3) := by decide +kernel
theorem dX2_isDigit_12 : decode (mX2_isDigit).2.1 12 = .ok (.iconst 1, 1) := by decide +kernel
theorem dX2_isDigit_13 : decode (mX2_isDigit).2.1 13 = .ok (.goto 4, 3) := by decide +kernel
theorem dX2_isDigit_16 : decode (mX2_isDigit).2.1 16 = .ok (.iconst 0, 1) := by decide +kernel
theorem dX2_isDigit_17 : decode (mX2_isDigit).2.1 17 = .ok (.ireturn, 1) := by decide +kernel
theorem dX2_isLetter_0 : decode (mX2_isLetter).2.1 0 = .ok (.bipush 97, 2) := by decide +kernel
theorem dX2_isLetter_2 : decode (mX2_isLetter).2.1 2 = .ok (.iload_n 0, 1) := by decide +kernel
theorem dX2_isLetter_3 : decode (mX2_isLetter).2.1 3 = .ok (.if_icmp .gt 13, 3) := by decide +kernel
theorem dX2_isLetter_6 : decode (mX2_isLetter).2.1 6 = .ok (.iload_n 0, 1) := by decide +kernel
theorem dX2_isLetter_7 : decode (mX2_isLetter).2.1 7 = .ok (.bipush 122, 2) := by decide +kernel
theorem dX2_isLetter_9 : decode (mX2_isLetter).2.1 9 = .ok (.if_icmp .gt 7, 3) := by decide +kernel
theorem dX2_isLetter_12 : decode (mX2_isLetter).2.1 12 = .ok (.iconst 1, 1) := by decide +kernel
theorem dX2_isLetter_13 : decode (mX2_isLetter).2.1 13 = .ok (.goto 4, 3) := by decide +kernel
theorem dX2_isLetter_16 : decode (mX2_isLetter).2.1 16 = .ok (.iconst 0, 1) := by decide +kernel
theorem dX2_isLetter_17 : decode (mX2_isLetter).2.1 17 = .ok (.ireturn, 1) := by decide +kernel
theorem dX3_init_0 : decode (mX3_init).2.1 0 = .ok (.aload_n 0, 1) := by decide +kernel
theorem dX3_init_1 : decode (mX3_init).2.1 1 = .ok (.invokespecial 3, 3) := by decide +kernel
theorem dX3_init_4 : decode (mX3_init).2.1 4 = .ok (.aload_n 0, 1) := by decide +kernel
theorem dX3_init_5 : decode (mX3_init).2.1 5 = .ok (.bipush 24, 2) := by decide +kernel
theorem dX3_init_7 : decode (mX3_init).2.1 7 = .ok (.newarray .int, 2) := by decide +kernel
theorem dX3_init_9 : decode (mX3_init).2.1 9 = .ok (.putfield 9, 3) := by decide +kernel
theorem dX3_init_12 : decode (mX3_init).2.1 12 = .ok (.aload_n 0, 1) := by decide +kernel
theorem dX3_init_13 : decode (mX3_init).2.1 13 = .ok (.bipush 24, 2) := by decide +kernel
theorem dX3_init_15 : decode (mX3_init).2.1 15 = .ok (.newarray .int, 2) := by decide +kernel
theorem dX3_init_17 : decode (mX3_init).2.1 17 = .ok (.putfield 15, 3) := by decide +kernel
theorem dX3_init_20 : decode (mX3_init).2.1 20 = .ok (.aload_n 0, 1) := by decide +kernel
theorem dX3_init_21 : decode (mX3_init).2.1 21 = .ok (.new 18, 3) := by decide +kernel
theorem dX3_init_24 : decode (mX3_init).2.1 24 = .ok (.dup, 1) := by decide +kernel
theorem dX3_init_25 : decode (mX3_init).2.1 25 = .ok (.iconst 1, 1) := by decide +kernel
theorem dX3_init_26 : decode (mX3_init).2.1 26 = .ok (.invokespecial 20, 3) := by decide +kernel
theorem dX3_init_29 : decode (mX3_init).2.1 29 = .ok (.putfield 23, 3) := by decide +kernel
theorem dX3_init_32 : decode (mX3_init).2.1 32 = .ok (.aload_n 0, 1) := by decide +kernel
theorem dX3_init_33 : decode (mX3_init).2.1 33 = .ok (.new 18, 3) := by decide +kernel
theorem dX3_init_36 : decode (mX3_init).2.1 36 = .ok (.dup, 1) := by decide +kernel
theorem dX3_init_37 : decode (mX3_init).2.1 37 = .ok (.iconst 0, 1) := by decide +kernel
theorem dX3_init_38 : decode (mX3_init).2.1 38 = .ok (.invokespecial 20, 3) := by decide +kernel
theorem dX3_init_41 : decode (mX3_init).2.1 41 = .ok (.putfield 27, 3) := by decide +kernel
theorem dX3_init_44 : decode (mX3_init).2.1 44 = .ok (.aload_n 0, 1) := by decide +kernel
theorem dX3_init_45 : decode (mX3_init).2.1 45 = .ok (.iconst 0, 1) := by decide +kernel
theorem dX3_init_46 : decode (mX3_init).2.1 46 = .ok (.putfield 30, 3) := by decide +kernel
theorem dX3_init_49 : decode (mX3_init).2.1 49 = .ok (.aload_n 0, 1) := by decide +kernel
theorem dX3_init_50 : decode (mX3_init).2.1 50 = .ok (.bipush 50, 2) := by decide +kernel
theorem dX3_init_52 : decode (mX3_init).2.1 52 = .ok (.putfield 34, 3) := by decide +kernel
theorem dX3_init_55 : decode (mX3_init).2.1 55 = .ok (.aload_n 0, 1) := by decide +kernel
theorem dX3_init_56 : decode (mX3_init).2.1 56 = .ok (.iconst 0, 1) := by decide +kernel
theorem dX3_init_57 : decode (mX3_init).2.1 57 = .ok (.putfield 37, 3) := by decide +kernel
theorem dX3_init_60 : decode (mX3_init).2.1 60 = .ok (.aload_n 0, 1) := by decide +kernel
theorem dX3_init_61 : decode (mX3_init).2.1 61 = .ok (.iconst 3, 1) := by decide +kernel
theorem dX3_init_62 : decode (mX3_init).2.1 62 = .ok (.putfield 40, 3) := by decide +kernel
theorem dX3_init_65 : decode (mX3_init).2.1 65 = .ok (.aload_n 0, 1) := by decide +kernel
theorem dX3_init_66 : decode (mX3_init).2.1 66 = .ok (.bipush 6, 2) := by decide +kernel
theorem dX3_init_68 : decode (mX3_init).2.1 68 = .ok (.newarray .int, 2) := by decide +kernel
theorem dX3_init_70 : decode (mX3_init).2.1 70 = .ok (.putfield 45, 3) := by decide +kernel
theorem dX3_init_73 : decode (mX3_init).2.1 73 = .ok (.aload_n 0, 1) := by decide +kernel
theorem dX3_init_74 : decode (mX3_init).2.1 74 = .ok (.aload_n 1, 1) := by decide +kernel
theorem dX3_init_75 : decode (mX3_init).2.1 75 = .ok (.putfield 48, 3) := by decide +kernel
theorem dX3_init_78 : decode (mX3_init).2.1 78 = .ok (.return_, 1) := by decide +kernel
theorem dX3_gangOf_0 : decode (mX3_gangOf).2.1 0 = .ok (.iload_n 1, 1) := by decide +kernel
theorem dX3_gangOf_1 : decode (mX3_gangOf).2.1 1 = .ok (.ifCond .ne 10, 3) := by decide +kernel
theorem dX3_gangOf_4 : decode (mX3_gangOf).2.1 4 = .ok (.aload_n 0, 1) := by decide +kernel
theorem dX3_gangOf_5 : decode (mX3_gangOf).2.1 5 = .ok (.getfield 23, 3) := by decide +kernel
theorem dX3_gangOf_8 : decode (mX3_gangOf).2.1 8 = .ok (.goto 7, 3) := by decide +kernel
theorem dX3_gangOf_11 : decode (mX3_gangOf).2.1 11 = .ok (.aload_n 0, 1) := by decide +kernel
theorem dX3_gangOf_12 : decode (mX3_gangOf).2.1 12 = .ok (.getfield 27, 3) := by decide +kernel
theorem dX3_gangOf_15 : decode (mX3_gangOf).2.1 15 = .ok (.areturn, 1) := by decide +kernel
theorem dX3_groundOf_0 : decode (mX3_groundOf).2.1 0 = .ok (.iload_n 1, 1) := by decide +kernel
theorem dX3_groundOf_1 : decode (mX3_groundOf).2.1 1 = .ok (.invokestatic 52, 3) := by decide +kernel
theorem dX3_groundOf_4 : decode (mX3_groundOf).2.1 4 = .ok (.ifCond .eq 12, 3) := by decide +kernel
theorem dX3_groundOf_7 : decode (mX3_groundOf).2.1 7 = .ok (.aload_n 0, 1) := by decide +kernel
theorem dX3_groundOf_8 : decode (mX3_groundOf).2.1 8 = .ok (.getfield 9, 3) := by decide +kernel
theorem dX3_groundOf_11 : decode (mX3_groundOf).2.1 11 = .ok (.iload_n 1, 1) := by decide +kernel
theorem dX3_groundOf_12 : decode (mX3_groundOf).2.1 12 = .ok (.iaload, 1) := by decide +kernel
theorem dX3_groundOf_13 : decode (mX3_groundOf).2.1 13 = .ok (.goto 4, 3) := by decide +kernel
theorem dX3_groundOf_16 : decode (mX3_groundOf).2.1 16 = .ok (.iconst 0, 1) := by decide +kernel
theorem dX3_groundOf_17 : decode (mX3_groundOf).2.1 17 = .ok (.ireturn, 1) := by decide +kernel
theorem dX3_ahead_0 : decode (mX3_ahead).2.1 0 = .ok (.bipush 24, 2) := by decide +kernel
theorem dX3_ahead_2 : decode (mX3_ahead).2.1 2 = .ok (.aload_n 0, 1) := by decide +kernel
theorem dX3_ahead_3 : decode (mX3_ahead).2.1 3 = .ok (.getfield 23, 3) := by decide +kernel
theorem dX3_ahead_6 : decode (mX3_ahead).2.1 6 = .ok (.getfield 56, 3) := by decide +kernel
theorem dX3_ahead_9 : decode (mX3_ahead).2.1 9 = .ok (.isub, 1) := by decide +kernel
theorem dX3_ahead_10 : decode (mX3_ahead).2.1 10 = .ok (.aload_n 0, 1) := by decide +kernel
theorem dX3_ahead_11 : decode (mX3_ahead).2.1 11 = .ok (.getfield 27, 3) := by decide +kernel
theorem dX3_ahead_14 : decode (mX3_ahead).2.1 14 = .ok (.getfield 56, 3) := by decide +kernel
theorem dX3_ahead_17 : decode (mX3_ahead).2.1 17 = .ok (.isub, 1) := by decide +kernel
theorem dX3_ahead_18 : decode (mX3_ahead).2.1 18 = .ok (.ireturn, 1) := by decide +kernel
theorem dX3_doerOf_0 : decode (mX3_doerOf).2.1 0 = .ok (.iload_n 1, 1) := by decide +kernel
theorem dX3_doerOf_1 : decode (mX3_doerOf).2.1 1 = .ok (.aload_n 0, 1) := by decide +kernel
theorem dX3_doerOf_2 : decode (mX3_doerOf).2.1 2 = .ok (.getfield 23, 3) := by decide +kernel
theorem dX3_doerOf_5 : decode (mX3_doerOf).2.1 5 = .ok (.getfield 56, 3) := by decide +kernel
theorem dX3_doerOf_8 : decode (mX3_doerOf).2.1 8 = .ok (.if_icmp .ge 5, 3) := by decide +kernel
theorem dX3_doerOf_11 : decode (mX3_doerOf).2.1 11 = .ok (.iconst 0, 1) := by decide +kernel
theorem dX3_doerOf_12 : decode (mX3_doerOf).2.1 12 = .ok (.ireturn, 1) := by decide +kernel
theorem dX3_doerOf_13 : decode (mX3_doerOf).2.1 13 = .ok (.iload_n 1, 1) := by decide +kernel
theorem dX3_doerOf_14 : decode (mX3_doerOf).2.1 14 = .ok (.bipush 23, 2) := by decide +kernel
theorem dX3_doerOf_16 : decode (mX3_doerOf).2.1 16 = .ok (.aload_n 0, 1) := by decide +kernel
theorem dX3_doerOf_17 : decode (mX3_doerOf).2.1 17 = .ok (.getfield 27, 3) := by decide +kernel
theorem dX3_doerOf_20 : decode (mX3_doerOf).2.1 20 = .ok (.getfield 56, 3) := by decide +kernel
theorem dX3_doerOf_23 : decode (mX3_doerOf).2.1 23 = .ok (.isub, 1) := by decide +kernel
theorem dX3_doerOf_24 : decode (mX3_doerOf).2.1 24 = .ok (.if_icmp .le 7, 3) := by decide +kernel
theorem dX3_doerOf_27 : decode (mX3_doerOf).2.1 27 = .ok (.iconst 1, 1) := by decide +kernel
theorem dX3_doerOf_28 : decode (mX3_doerOf).2.1 28 = .ok (.goto 4, 3) := by decide +kernel
theorem dX3_doerOf_31 : decode (mX3_doerOf).2.1 31 = .ok (.iconst (-1), 1) := by decide +kernel
theorem dX3_doerOf_32 : decode (mX3_doerOf).2.1 32 = .ok (.ireturn, 1) := by decide +kernel
theorem dX3_paid_0 : decode (mX3_paid).2.1 0 = .ok (.aload_n 0, 1) := by decide +kernel
theorem dX3_paid_1 : decode (mX3_paid).2.1 1 = .ok (.getfield 23, 3) := by decide +kernel
theorem dX3_paid_4 : decode (mX3_paid).2.1 4 = .ok (.getfield 59, 3) := by decide +kernel
theorem dX3_paid_7 : decode (mX3_paid).2.1 7 = .ok (.aload_n 0, 1) := by decide +kernel
theorem dX3_paid_8 : decode (mX3_paid).2.1 8 = .ok (.getfield 27, 3) := by decide +kernel
theorem dX3_paid_11 : decode (mX3_paid).2.1 11 = .ok (.getfield 59, 3) := by decide +kernel
theorem dX3_paid_14 : decode (mX3_paid).2.1 14 = .ok (.iadd, 1) := by decide +kernel
theorem dX3_paid_15 : decode (mX3_paid).2.1 15 = .ok (.ireturn, 1) := by decide +kernel
theorem dX3_worth_0 : decode (mX3_worth).2.1 0 = .ok (.iconst 0, 1) := by decide +kernel
theorem dX3_worth_1 : decode (mX3_worth).2.1 1 = .ok (.istore_n 1, 1) := by decide +kernel
theorem dX3_worth_2 : decode (mX3_worth).2.1 2 = .ok (.iconst 0, 1) := by decide +kernel
theorem dX3_worth_3 : decode (mX3_worth).2.1 3 = .ok (.istore_n 2, 1) := by decide +kernel
theorem dX3_worth_4 : decode (mX3_worth).2.1 4 = .ok (.iload_n 2, 1) := by decide +kernel
theorem dX3_worth_5 : decode (mX3_worth).2.1 5 = .ok (.bipush 24, 2) := by decide +kernel
theorem dX3_worth_7 : decode (mX3_worth).2.1 7 = .ok (.if_icmp .ge 25, 3) := by decide +kernel
theorem dX3_worth_10 : decode (mX3_worth).2.1 10 = .ok (.iload_n 1, 1) := by decide +kernel
theorem dX3_worth_11 : decode (mX3_worth).2.1 11 = .ok (.aload_n 0, 1) := by decide +kernel
theorem dX3_worth_12 : decode (mX3_worth).2.1 12 = .ok (.iconst 2, 1) := by decide +kernel
theorem dX3_worth_13 : decode (mX3_worth).2.1 13 = .ok (.iload_n 2, 1) := by decide +kernel
theorem dX3_worth_14 : decode (mX3_worth).2.1 14 = .ok (.aload_n 0, 1) := by decide +kernel
theorem dX3_worth_15 : decode (mX3_worth).2.1 15 = .ok (.getfield 23, 3) := by decide +kernel
theorem dX3_worth_18 : decode (mX3_worth).2.1 18 = .ok (.getfield 62, 3) := by decide +kernel
theorem dX3_worth_21 : decode (mX3_worth).2.1 21 = .ok (.invokevirtual 65, 3) := by decide +kernel
theorem dX3_worth_24 : decode (mX3_worth).2.1 24 = .ok (.iadd, 1) := by decide +kernel
theorem dX3_worth_25 : decode (mX3_worth).2.1 25 = .ok (.istore_n 1, 1) := by decide +kernel
theorem dX3_worth_26 : decode (mX3_worth).2.1 26 = .ok (.iinc 2 1, 3) := by decide +kernel
theorem dX3_worth_29 : decode (mX3_worth).2.1 29 = .ok (.goto (-25), 3) := by decide +kernel
theorem dX3_worth_32 : decode (mX3_worth).2.1 32 = .ok (.iload_n 1, 1) := by decide +kernel
theorem dX3_worth_33 : decode (mX3_worth).2.1 33 = .ok (.ireturn, 1) := by decide +kernel
theorem dX3_ask_0 : decode (mX3_ask).2.1 0 = .ok (.iload_n 2, 1) := by decide +kernel
theorem dX3_ask_1 : decode (mX3_ask).2.1 1 = .ok (.invokestatic 52, 3) := by decide +kernel
theorem dX3_ask_4 : decode (mX3_ask).2.1 4 = .ok (.ifCond .eq 12, 3) := by decide +kernel
theorem dX3_ask_7 : decode (mX3_ask).2.1 7 = .ok (.iload_n 1, 1) := by decide +kernel
theorem dX3_ask_8 : decode (mX3_ask).2.1 8 = .ok (.iconst 0, 1) := by decide +kernel
theorem dX3_ask_9 : decode (mX3_ask).2.1 9 = .ok (.iconst 2, 1) := by decide +kernel
theorem dX3_ask_10 : decode (mX3_ask).2.1 10 = .ok (.invokestatic 69, 3) := by decide +kernel
theorem dX3_ask_13 : decode (mX3_ask).2.1 13 = .ok (.ifCond .ne 5, 3) := by decide +kernel
theorem dX3_ask_16 : decode (mX3_ask).2.1 16 = .ok (.iconst 0, 1) := by decide +kernel
theorem dX3_ask_17 : decode (mX3_ask).2.1 17 = .ok (.ireturn, 1) := by decide +kernel
theorem dX3_ask_18 : decode (mX3_ask).2.1 18 = .ok (.aload_n 0, 1) := by decide +kernel
theorem dX3_ask_19 : decode (mX3_ask).2.1 19 = .ok (.getfield 45, 3) := by decide +kernel
theorem dX3_ask_22 : decode (mX3_ask).2.1 22 = .ok (.iconst 0, 1) := by decide +kernel
theorem dX3_ask_23 : decode (mX3_ask).2.1 23 = .ok (.aload_n 0, 1) := by decide +kernel
theorem dX3_ask_24 : decode (mX3_ask).2.1 24 = .ok (.getfield 9, 3) := by decide +kernel
theorem dX3_ask_27 : decode (mX3_ask).2.1 27 = .ok (.iload_n 2, 1) := by decide +kernel
theorem dX3_ask_28 : decode (mX3_ask).2.1 28 = .ok (.iaload, 1) := by decide +kernel
theorem dX3_ask_29 : decode (mX3_ask).2.1 29 = .ok (.iastore, 1) := by decide +kernel
theorem dX3_ask_30 : decode (mX3_ask).2.1 30 = .ok (.aload_n 0, 1) := by decide +kernel
theorem dX3_ask_31 : decode (mX3_ask).2.1 31 = .ok (.getfield 45, 3) := by decide +kernel
theorem dX3_ask_34 : decode (mX3_ask).2.1 34 = .ok (.iconst 1, 1) := by decide +kernel
theorem dX3_ask_35 : decode (mX3_ask).2.1 35 = .ok (.iload_n 3, 1) := by decide +kernel
theorem dX3_ask_36 : decode (mX3_ask).2.1 36 = .ok (.iastore, 1) := by decide +kernel
theorem dX3_ask_37 : decode (mX3_ask).2.1 37 = .ok (.aload_n 0, 1) := by decide +kernel
theorem dX3_ask_38 : decode (mX3_ask).2.1 38 = .ok (.getfield 45, 3) := by decide +kernel
theorem dX3_ask_41 : decode (mX3_ask).2.1 41 = .ok (.iconst 2, 1) := by decide +kernel
theorem dX3_ask_42 : decode (mX3_ask).2.1 42 = .ok (.iload_n 2, 1) := by decide +kernel
theorem dX3_ask_43 : decode (mX3_ask).2.1 43 = .ok (.iastore, 1) := by decide +kernel
theorem dX3_ask_44 : decode (mX3_ask).2.1 44 = .ok (.aload_n 0, 1) := by decide +kernel
theorem dX3_ask_45 : decode (mX3_ask).2.1 45 = .ok (.getfield 45, 3) := by decide +kernel
theorem dX3_ask_48 : decode (mX3_ask).2.1 48 = .ok (.iconst 3, 1) := by decide +kernel
theorem dX3_ask_49 : decode (mX3_ask).2.1 49 = .ok (.aload_n 0, 1) := by decide +kernel
theorem dX3_ask_50 : decode (mX3_ask).2.1 50 = .ok (.invokevirtual 73, 3) := by decide +kernel
theorem dX3_ask_53 : decode (mX3_ask).2.1 53 = .ok (.iastore, 1) := by decide +kernel
theorem dX3_ask_54 : decode (mX3_ask).2.1 54 = .ok (.aload_n 0, 1) := by decide +kernel
theorem dX3_ask_55 : decode (mX3_ask).2.1 55 = .ok (.getfield 45, 3) := by decide +kernel
theorem dX3_ask_58 : decode (mX3_ask).2.1 58 = .ok (.iconst 4, 1) := by decide +kernel
theorem dX3_ask_59 : decode (mX3_ask).2.1 59 = .ok (.aload_n 0, 1) := by decide +kernel
theorem dX3_ask_60 : decode (mX3_ask).2.1 60 = .ok (.getfield 30, 3) := by decide +kernel
theorem dX3_ask_63 : decode (mX3_ask).2.1 63 = .ok (.iastore, 1) := by decide +kernel
theorem dX3_ask_64 : decode (mX3_ask).2.1 64 = .ok (.aload_n 0, 1) := by decide +kernel
theorem dX3_ask_65 : decode (mX3_ask).2.1 65 = .ok (.getfield 45, 3) := by decide +kernel
theorem dX3_ask_68 : decode (mX3_ask).2.1 68 = .ok (.iconst 5, 1) := by decide +kernel
theorem dX3_ask_69 : decode (mX3_ask).2.1 69 = .ok (.aload_n 0, 1) := by decide +kernel
theorem dX3_ask_70 : decode (mX3_ask).2.1 70 = .ok (.getfield 15, 3) := by decide +kernel
theorem dX3_ask_73 : decode (mX3_ask).2.1 73 = .ok (.iload_n 2, 1) := by decide +kernel
theorem dX3_ask_74 : decode (mX3_ask).2.1 74 = .ok (.iaload, 1) := by decide +kernel
theorem dX3_ask_75 : decode (mX3_ask).2.1 75 = .ok (.iastore, 1) := by decide +kernel
theorem dX3_ask_76 : decode (mX3_ask).2.1 76 = .ok (.getstatic 77, 3) := by decide +kernel
theorem dX3_ask_79 : decode (mX3_ask).2.1 79 = .ok (.iload_n 1, 1) := by decide +kernel
theorem dX3_ask_80 : decode (mX3_ask).2.1 80 = .ok (.iaload, 1) := by decide +kernel
theorem dX3_ask_81 : decode (mX3_ask).2.1 81 = .ok (.getstatic 80, 3) := by decide +kernel
theorem dX3_ask_84 : decode (mX3_ask).2.1 84 = .ok (.iload_n 1, 1) := by decide +kernel
theorem dX3_ask_85 : decode (mX3_ask).2.1 85 = .ok (.iaload, 1) := by decide +kernel
theorem dX3_ask_86 : decode (mX3_ask).2.1 86 = .ok (.aload_n 0, 1) := by decide +kernel
theorem dX3_ask_87 : decode (mX3_ask).2.1 87 = .ok (.getfield 48, 3) := by decide +kernel
theorem dX3_ask_90 : decode (mX3_ask).2.1 90 = .ok (.iload_n 1, 1) := by decide +kernel
theorem dX3_ask_91 : decode (mX3_ask).2.1 91 = .ok (.aload_n 0, 1) := by decide +kernel
theorem dX3_ask_92 : decode (mX3_ask).2.1 92 = .ok (.getfield 45, 3) := by decide +kernel
theorem dX3_ask_95 : decode (mX3_ask).2.1 95 = .ok (.invokevirtual 83, 3) := by decide +kernel
theorem dX3_ask_98 : decode (mX3_ask).2.1 98 = .ok (.invokestatic 87, 3) := by decide +kernel
theorem dX3_ask_101 : decode (mX3_ask).2.1 101 = .ok (.invokestatic 93, 3) := by decide +kernel
theorem dX3_ask_104 : decode (mX3_ask).2.1 104 = .ok (.ireturn, 1) := by decide +kernel
theorem dX3_askOfNext_0 : decode (mX3_askOfNext).2.1 0 = .ok (.aload_n 0, 1) := by decide +kernel
theorem dX3_askOfNext_1 : decode (mX3_askOfNext).2.1 1 = .ok (.invokevirtual 73, 3) := by decide +kernel
theorem dX3_askOfNext_4 : decode (mX3_askOfNext).2.1 4 = .ok (.istore_n 3, 1) := by decide +kernel
theorem dX3_askOfNext_5 : decode (mX3_askOfNext).2.1 5 = .ok (.aload_n 2, 1) := by decide +kernel
theorem dX3_askOfNext_6 : decode (mX3_askOfNext).2.1 6 = .ok (.getfield 96, 3) := by decide +kernel
theorem dX3_askOfNext_9 : decode (mX3_askOfNext).2.1 9 = .ok (.iload_n 1, 1) := by decide +kernel
theorem dX3_askOfNext_10 : decode (mX3_askOfNext).2.1 10 = .ok (.iaload, 1) := by decide +kernel
theorem dX3_askOfNext_11 : decode (mX3_askOfNext).2.1 11 = .ok (.iload_n 3, 1) := by decide +kernel
theorem dX3_askOfNext_12 : decode (mX3_askOfNext).2.1 12 = .ok (.if_icmp .ne 22, 3) := by decide +kernel
theorem dX3_askOfNext_15 : decode (mX3_askOfNext).2.1 15 = .ok (.aload_n 0, 1) := by decide +kernel
theorem dX3_askOfNext_16 : decode (mX3_askOfNext).2.1 16 = .ok (.getfield 48, 3) := by decide +kernel
theorem dX3_askOfNext_19 : decode (mX3_askOfNext).2.1 19 = .ok (.getfield 99, 3) := by decide +kernel
theorem dX3_askOfNext_22 : decode (mX3_askOfNext).2.1 22 = .ok (.iload_n 1, 1) := by decide +kernel
theorem dX3_askOfNext_23 : decode (mX3_askOfNext).2.1 23 = .ok (.baload, 1) := by decide +kernel
theorem dX3_askOfNext_24 : decode (mX3_askOfNext).2.1 24 = .ok (.ifCond .ne 10, 3) := by decide +kernel
theorem dX3_askOfNext_27 : decode (mX3_askOfNext).2.1 27 = .ok (.aload_n 2, 1) := by decide +kernel
theorem dX3_askOfNext_28 : decode (mX3_askOfNext).2.1 28 = .ok (.getfield 103, 3) := by decide +kernel
theorem dX3_askOfNext_31 : decode (mX3_askOfNext).2.1 31 = .ok (.iload_n 1, 1) := by decide +kernel
theorem dX3_askOfNext_32 : decode (mX3_askOfNext).2.1 32 = .ok (.iaload, 1) := by decide +kernel
theorem dX3_askOfNext_33 : decode (mX3_askOfNext).2.1 33 = .ok (.ireturn, 1) := by decide +kernel
theorem dX3_askOfNext_34 : decode (mX3_askOfNext).2.1 34 = .ok (.aload_n 0, 1) := by decide +kernel
theorem dX3_askOfNext_35 : decode (mX3_askOfNext).2.1 35 = .ok (.iload_n 1, 1) := by decide +kernel
theorem dX3_askOfNext_36 : decode (mX3_askOfNext).2.1 36 = .ok (.aload_n 2, 1) := by decide +kernel
theorem dX3_askOfNext_37 : decode (mX3_askOfNext).2.1 37 = .ok (.invokevirtual 106, 3) := by decide +kernel
theorem dX3_askOfNext_40 : decode (mX3_askOfNext).2.1 40 = .ok (.aload_n 2, 1) := by decide +kernel
theorem dX3_askOfNext_41 : decode (mX3_askOfNext).2.1 41 = .ok (.getfield 62, 3) := by decide +kernel
theorem dX3_askOfNext_44 : decode (mX3_askOfNext).2.1 44 = .ok (.invokevirtual 65, 3) := by decide +kernel
theorem dX3_askOfNext_47 : decode (mX3_askOfNext).2.1 47 = .ok (.istore 4, 2) := by decide +kernel
theorem dX3_askOfNext_49 : decode (mX3_askOfNext).2.1 49 = .ok (.aload_n 2, 1) := by decide +kernel
theorem dX3_askOfNext_50 : decode (mX3_askOfNext).2.1 50 = .ok (.getfield 96, 3) := by decide +kernel
theorem dX3_askOfNext_53 : decode (mX3_askOfNext).2.1 53 = .ok (.iload_n 1, 1) := by decide +kernel
theorem dX3_askOfNext_54 : decode (mX3_askOfNext).2.1 54 = .ok (.iload_n 3, 1) := by decide +kernel
theorem dX3_askOfNext_55 : decode (mX3_askOfNext).2.1 55 = .ok (.iastore, 1) := by decide +kernel
theorem dX3_askOfNext_56 : decode (mX3_askOfNext).2.1 56 = .ok (.aload_n 2, 1) := by decide +kernel
theorem dX3_askOfNext_57 : decode (mX3_askOfNext).2.1 57 = .ok (.getfield 103, 3) := by decide +kernel
theorem dX3_askOfNext_60 : decode (mX3_askOfNext).2.1 60 = .ok (.iload_n 1, 1) := by decide +kernel
theorem dX3_askOfNext_61 : decode (mX3_askOfNext).2.1 61 = .ok (.iload 4, 2) := by decide +kernel
theorem dX3_askOfNext_63 : decode (mX3_askOfNext).2.1 63 = .ok (.iastore, 1) := by decide +kernel
theorem dX3_askOfNext_64 : decode (mX3_askOfNext).2.1 64 = .ok (.iload 4, 2) := by decide +kernel
theorem dX3_askOfNext_66 : decode (mX3_askOfNext).2.1 66 = .ok (.ireturn, 1) := by decide +kernel
theorem dX3_forgetAnswers_0 : decode (mX3_forgetAnswers).2.1 0 = .ok (.aload_n 0, 1) := by decide +kernel
theorem dX3_forgetAnswers_1 : decode (mX3_forgetAnswers).2.1 1 = .ok (.getfield 23, 3) := by decide +kernel
theorem dX3_forgetAnswers_4 : decode (mX3_forgetAnswers).2.1 4 = .ok (.invokevirtual 109, 3) := by decide +kernel
theorem dX3_forgetAnswers_7 : decode (mX3_forgetAnswers).2.1 7 = .ok (.aload_n 0, 1) := by decide +kernel
theorem dX3_forgetAnswers_8 : decode (mX3_forgetAnswers).2.1 8 = .ok (.getfield 27, 3) := by decide +kernel
theorem dX3_forgetAnswers_11 : decode (mX3_forgetAnswers).2.1 11 = .ok (.invokevirtual 109, 3) := by decide +kernel
theorem dX3_forgetAnswers_14 : decode (mX3_forgetAnswers).2.1 14 = .ok (.return_, 1) := by decide +kernel
theorem dX3_takeTurn_0 : decode (mX3_takeTurn).2.1 0 = .ok (.aload_n 0, 1) := by decide +kernel
theorem dX3_takeTurn_1 : decode (mX3_takeTurn).2.1 1 = .ok (.invokevirtual 73, 3) := by decide +kernel
theorem dX3_takeTurn_4 : decode (mX3_takeTurn).2.1 4 = .ok (.ifCond .ne 4, 3) := by decide +kernel
theorem dX3_takeTurn_7 : decode (mX3_takeTurn).2.1 7 = .ok (.return_, 1) := by decide +kernel
theorem dX3_takeTurn_8 : decode (mX3_takeTurn).2.1 8 = .ok (.aload_n 1, 1) := by decide +kernel
theorem dX3_takeTurn_9 : decode (mX3_takeTurn).2.1 9 = .ok (.dup, 1) := by decide +kernel
theorem dX3_takeTurn_10 : decode (mX3_takeTurn).2.1 10 = .ok (.getfield 112, 3) := by decide +kernel
theorem dX3_takeTurn_13 : decode (mX3_takeTurn).2.1 13 = .ok (.aload_n 1, 1) := by decide +kernel
theorem dX3_takeTurn_14 : decode (mX3_takeTurn).2.1 14 = .ok (.aload_n 0, 1) := by decide +kernel
theorem dX3_takeTurn_15 : decode (mX3_takeTurn).2.1 15 = .ok (.aload_n 1, 1) := by decide +kernel
theorem dX3_takeTurn_16 : decode (mX3_takeTurn).2.1 16 = .ok (.invokevirtual 106, 3) := by decide +kernel
theorem dX3_takeTurn_19 : decode (mX3_takeTurn).2.1 19 = .ok (.invokevirtual 115, 3) := by decide +kernel
theorem dX3_takeTurn_22 : decode (mX3_takeTurn).2.1 22 = .ok (.aload_n 0, 1) := by decide +kernel
theorem dX3_takeTurn_23 : decode (mX3_takeTurn).2.1 23 = .ok (.getfield 30, 3) := by decide +kernel
theorem dX3_takeTurn_26 : decode (mX3_takeTurn).2.1 26 = .ok (.aload_n 0, 1) := by decide +kernel
theorem dX3_takeTurn_27 : decode (mX3_takeTurn).2.1 27 = .ok (.iconst 0, 1) := by decide +kernel
theorem dX3_takeTurn_28 : decode (mX3_takeTurn).2.1 28 = .ok (.aload_n 1, 1) := by decide +kernel
theorem dX3_takeTurn_29 : decode (mX3_takeTurn).2.1 29 = .ok (.invokevirtual 119, 3) := by decide +kernel
theorem dX3_takeTurn_32 : decode (mX3_takeTurn).2.1 32 = .ok (.invokevirtual 123, 3) := by decide +kernel
theorem dX3_takeTurn_35 : decode (mX3_takeTurn).2.1 35 = .ok (.iadd, 1) := by decide +kernel
theorem dX3_takeTurn_36 : decode (mX3_takeTurn).2.1 36 = .ok (.putfield 112, 3) := by decide +kernel
theorem dX3_takeTurn_39 : decode (mX3_takeTurn).2.1 39 = .ok (.iconst 0, 1) := by decide +kernel
theorem dX3_takeTurn_40 : decode (mX3_takeTurn).2.1 40 = .ok (.istore_n 2, 1) := by decide +kernel
theorem dX3_takeTurn_41 : decode (mX3_takeTurn).2.1 41 = .ok (.iload_n 2, 1) := by decide +kernel
theorem dX3_takeTurn_42 : decode (mX3_takeTurn).2.1 42 = .ok (.bipush 24, 2) := by decide +kernel
theorem dX3_takeTurn_44 : decode (mX3_takeTurn).2.1 44 = .ok (.if_icmp .ge 89, 3) := by decide +kernel
theorem dX3_takeTurn_47 : decode (mX3_takeTurn).2.1 47 = .ok (.aload_n 0, 1) := by decide +kernel
theorem dX3_takeTurn_48 : decode (mX3_takeTurn).2.1 48 = .ok (.invokevirtual 73, 3) := by decide +kernel
theorem dX3_takeTurn_51 : decode (mX3_takeTurn).2.1 51 = .ok (.ifCond .le 82, 3) := by decide +kernel
theorem dX3_takeTurn_54 : decode (mX3_takeTurn).2.1 54 = .ok (.aload_n 0, 1) := by decide +kernel
theorem dX3_takeTurn_55 : decode (mX3_takeTurn).2.1 55 = .ok (.iconst 1, 1) := by decide +kernel
theorem dX3_takeTurn_56 : decode (mX3_takeTurn).2.1 56 = .ok (.aload_n 1, 1) := by decide +kernel
theorem dX3_takeTurn_57 : decode (mX3_takeTurn).2.1 57 = .ok (.invokevirtual 119, 3) := by decide +kernel
theorem dX3_takeTurn_60 : decode (mX3_takeTurn).2.1 60 = .ok (.istore_n 3, 1) := by decide +kernel
theorem dX3_takeTurn_61 : decode (mX3_takeTurn).2.1 61 = .ok (.aload_n 1, 1) := by decide +kernel
theorem dX3_takeTurn_62 : decode (mX3_takeTurn).2.1 62 = .ok (.getfield 112, 3) := by decide +kernel
theorem dX3_takeTurn_65 : decode (mX3_takeTurn).2.1 65 = .ok (.iload_n 3, 1) := by decide +kernel
theorem dX3_takeTurn_66 : decode (mX3_takeTurn).2.1 66 = .ok (.if_icmp .ge 6, 3) := by decide +kernel
theorem dX3_takeTurn_69 : decode (mX3_takeTurn).2.1 69 = .ok (.goto 64, 3) := by decide +kernel
theorem dX3_takeTurn_72 : decode (mX3_takeTurn).2.1 72 = .ok (.aload_n 1, 1) := by decide +kernel
theorem dX3_takeTurn_73 : decode (mX3_takeTurn).2.1 73 = .ok (.invokevirtual 106, 3) := by decide +kernel
theorem dX3_takeTurn_76 : decode (mX3_takeTurn).2.1 76 = .ok (.istore 4, 2) := by decide +kernel
theorem dX3_takeTurn_78 : decode (mX3_takeTurn).2.1 78 = .ok (.iload 4, 2) := by decide +kernel
theorem dX3_takeTurn_80 : decode (mX3_takeTurn).2.1 80 = .ok (.invokestatic 52, 3) := by decide +kernel
theorem dX3_takeTurn_83 : decode (mX3_takeTurn).2.1 83 = .ok (.ifCond .eq 11, 3) := by decide +kernel
theorem dX3_takeTurn_86 : decode (mX3_takeTurn).2.1 86 = .ok (.aload_n 0, 1) := by decide +kernel
theorem dX3_takeTurn_87 : decode (mX3_takeTurn).2.1 87 = .ok (.getfield 15, 3) := by decide +kernel
theorem dX3_takeTurn_90 : decode (mX3_takeTurn).2.1 90 = .ok (.iload 4, 2) := by decide +kernel
theorem dX3_takeTurn_92 : decode (mX3_takeTurn).2.1 92 = .ok (.iconst 1, 1) := by decide +kernel
theorem dX3_takeTurn_93 : decode (mX3_takeTurn).2.1 93 = .ok (.iastore, 1) := by decide +kernel
theorem dX3_takeTurn_94 : decode (mX3_takeTurn).2.1 94 = .ok (.aload_n 1, 1) := by decide +kernel
theorem dX3_takeTurn_95 : decode (mX3_takeTurn).2.1 95 = .ok (.dup, 1) := by decide +kernel
theorem dX3_takeTurn_96 : decode (mX3_takeTurn).2.1 96 = .ok (.getfield 56, 3) := by decide +kernel
theorem dX3_takeTurn_99 : decode (mX3_takeTurn).2.1 99 = .ok (.iconst 1, 1) := by decide +kernel
theorem dX3_takeTurn_100 : decode (mX3_takeTurn).2.1 100 = .ok (.iadd, 1) := by decide +kernel
theorem dX3_takeTurn_101 : decode (mX3_takeTurn).2.1 101 = .ok (.putfield 56, 3) := by decide +kernel
theorem dX3_takeTurn_104 : decode (mX3_takeTurn).2.1 104 = .ok (.aload_n 1, 1) := by decide +kernel
theorem dX3_takeTurn_105 : decode (mX3_takeTurn).2.1 105 = .ok (.dup, 1) := by decide +kernel
theorem dX3_takeTurn_106 : decode (mX3_takeTurn).2.1 106 = .ok (.getfield 112, 3) := by decide +kernel
theorem dX3_takeTurn_109 : decode (mX3_takeTurn).2.1 109 = .ok (.iload_n 3, 1) := by decide +kernel
theorem dX3_takeTurn_110 : decode (mX3_takeTurn).2.1 110 = .ok (.isub, 1) := by decide +kernel
theorem dX3_takeTurn_111 : decode (mX3_takeTurn).2.1 111 = .ok (.putfield 112, 3) := by decide +kernel
theorem dX3_takeTurn_114 : decode (mX3_takeTurn).2.1 114 = .ok (.aload_n 1, 1) := by decide +kernel
theorem dX3_takeTurn_115 : decode (mX3_takeTurn).2.1 115 = .ok (.dup, 1) := by decide +kernel
theorem dX3_takeTurn_116 : decode (mX3_takeTurn).2.1 116 = .ok (.getfield 59, 3) := by decide +kernel
theorem dX3_takeTurn_119 : decode (mX3_takeTurn).2.1 119 = .ok (.aload_n 0, 1) := by decide +kernel
theorem dX3_takeTurn_120 : decode (mX3_takeTurn).2.1 120 = .ok (.getfield 34, 3) := by decide +kernel
theorem dX3_takeTurn_123 : decode (mX3_takeTurn).2.1 123 = .ok (.iadd, 1) := by decide +kernel
theorem dX3_takeTurn_124 : decode (mX3_takeTurn).2.1 124 = .ok (.putfield 59, 3) := by decide +kernel
theorem dX3_takeTurn_127 : decode (mX3_takeTurn).2.1 127 = .ok (.iinc 2 1, 3) := by decide +kernel
theorem dX3_takeTurn_130 : decode (mX3_takeTurn).2.1 130 = .ok (.goto (-89), 3) := by decide +kernel
theorem dX3_takeTurn_133 : decode (mX3_takeTurn).2.1 133 = .ok (.aload_n 0, 1) := by decide +kernel
theorem dX3_takeTurn_134 : decode (mX3_takeTurn).2.1 134 = .ok (.invokevirtual 73, 3) := by decide +kernel
theorem dX3_takeTurn_137 : decode (mX3_takeTurn).2.1 137 = .ok (.ifCond .ne 8, 3) := by decide +kernel
theorem dX3_takeTurn_140 : decode (mX3_takeTurn).2.1 140 = .ok (.aload_n 1, 1) := by decide +kernel
theorem dX3_takeTurn_141 : decode (mX3_takeTurn).2.1 141 = .ok (.iconst 0, 1) := by decide +kernel
theorem dX3_takeTurn_142 : decode (mX3_takeTurn).2.1 142 = .ok (.putfield 112, 3) := by decide +kernel
theorem dX3_takeTurn_145 : decode (mX3_takeTurn).2.1 145 = .ok (.aload_n 1, 1) := by decide +kernel
theorem dX3_takeTurn_146 : decode (mX3_takeTurn).2.1 146 = .ok (.dup, 1) := by decide +kernel
theorem dX3_takeTurn_147 : decode (mX3_takeTurn).2.1 147 = .ok (.getfield 126, 3) := by decide +kernel
theorem dX3_takeTurn_150 : decode (mX3_takeTurn).2.1 150 = .ok (.aload_n 1, 1) := by decide +kernel
theorem dX3_takeTurn_151 : decode (mX3_takeTurn).2.1 151 = .ok (.getfield 62, 3) := by decide +kernel
theorem dX3_takeTurn_154 : decode (mX3_takeTurn).2.1 154 = .ok (.aload_n 0, 1) := by decide +kernel
theorem dX3_takeTurn_155 : decode (mX3_takeTurn).2.1 155 = .ok (.getfield 40, 3) := by decide +kernel
theorem dX3_takeTurn_158 : decode (mX3_takeTurn).2.1 158 = .ok (.imul, 1) := by decide +kernel
theorem dX3_takeTurn_159 : decode (mX3_takeTurn).2.1 159 = .ok (.aload_n 1, 1) := by decide +kernel
theorem dX3_takeTurn_160 : decode (mX3_takeTurn).2.1 160 = .ok (.invokevirtual 129, 3) := by decide +kernel
theorem dX3_takeTurn_163 : decode (mX3_takeTurn).2.1 163 = .ok (.iadd, 1) := by decide +kernel
theorem dX3_takeTurn_164 : decode (mX3_takeTurn).2.1 164 = .ok (.iadd, 1) := by decide +kernel
theorem dX3_takeTurn_165 : decode (mX3_takeTurn).2.1 165 = .ok (.putfield 126, 3) := by decide +kernel
theorem dX3_takeTurn_168 : decode (mX3_takeTurn).2.1 168 = .ok (.aload_n 1, 1) := by decide +kernel
theorem dX3_takeTurn_169 : decode (mX3_takeTurn).2.1 169 = .ok (.dup, 1) := by decide +kernel
theorem dX3_takeTurn_170 : decode (mX3_takeTurn).2.1 170 = .ok (.getfield 59, 3) := by decide +kernel
theorem dX3_takeTurn_173 : decode (mX3_takeTurn).2.1 173 = .ok (.aload_n 0, 1) := by decide +kernel
theorem dX3_takeTurn_174 : decode (mX3_takeTurn).2.1 174 = .ok (.getfield 37, 3) := by decide +kernel
theorem dX3_takeTurn_177 : decode (mX3_takeTurn).2.1 177 = .ok (.iadd, 1) := by decide +kernel
theorem dX3_takeTurn_178 : decode (mX3_takeTurn).2.1 178 = .ok (.putfield 59, 3) := by decide +kernel
theorem dX3_takeTurn_181 : decode (mX3_takeTurn).2.1 181 = .ok (.return_, 1) := by decide +kernel
theorem dX3_passDay_0 : decode (mX3_passDay).2.1 0 = .ok (.iload_n 1, 1) := by decide +kernel
theorem dX3_passDay_1 : decode (mX3_passDay).2.1 1 = .ok (.ifCond .eq 11, 3) := by decide +kernel
theorem dX3_passDay_4 : decode (mX3_passDay).2.1 4 = .ok (.aload_n 0, 1) := by decide +kernel
theorem dX3_passDay_5 : decode (mX3_passDay).2.1 5 = .ok (.aload_n 0, 1) := by decide +kernel
theorem dX3_passDay_6 : decode (mX3_passDay).2.1 6 = .ok (.getfield 23, 3) := by decide +kernel
theorem dX3_passDay_9 : decode (mX3_passDay).2.1 9 = .ok (.invokevirtual 132, 3) := by decide +kernel
theorem dX3_passDay_12 : decode (mX3_passDay).2.1 12 = .ok (.iload_n 1, 1) := by decide +kernel
theorem dX3_passDay_13 : decode (mX3_passDay).2.1 13 = .ok (.iconst 1, 1) := by decide +kernel
theorem dX3_passDay_14 : decode (mX3_passDay).2.1 14 = .ok (.if_icmp .eq 11, 3) := by decide +kernel
theorem dX3_passDay_17 : decode (mX3_passDay).2.1 17 = .ok (.aload_n 0, 1) := by decide +kernel
theorem dX3_passDay_18 : decode (mX3_passDay).2.1 18 = .ok (.aload_n 0, 1) := by decide +kernel
theorem dX3_passDay_19 : decode (mX3_passDay).2.1 19 = .ok (.getfield 27, 3) := by decide +kernel
theorem dX3_passDay_22 : decode (mX3_passDay).2.1 22 = .ok (.invokevirtual 132, 3) := by decide +kernel
theorem dX3_passDay_25 : decode (mX3_passDay).2.1 25 = .ok (.aload_n 0, 1) := by decide +kernel
theorem dX3_passDay_26 : decode (mX3_passDay).2.1 26 = .ok (.getfield 30, 3) := by decide +kernel
theorem dX3_passDay_29 : decode (mX3_passDay).2.1 29 = .ok (.sipush 999, 3) := by decide +kernel
theorem dX3_passDay_32 : decode (mX3_passDay).2.1 32 = .ok (.if_icmp .ge 13, 3) := by decide +kernel
theorem dX3_passDay_35 : decode (mX3_passDay).2.1 35 = .ok (.aload_n 0, 1) := by decide +kernel
theorem dX3_passDay_36 : decode (mX3_passDay).2.1 36 = .ok (.dup, 1) := by decide +kernel
theorem dX3_passDay_37 : decode (mX3_passDay).2.1 37 = .ok (.getfield 30, 3) := by decide +kernel
theorem dX3_passDay_40 : decode (mX3_passDay).2.1 40 = .ok (.iconst 1, 1) := by decide +kernel
theorem dX3_passDay_41 : decode (mX3_passDay).2.1 41 = .ok (.iadd, 1) := by decide +kernel
theorem dX3_passDay_42 : decode (mX3_passDay).2.1 42 = .ok (.putfield 30, 3) := by decide +kernel
theorem dX3_passDay_45 : decode (mX3_passDay).2.1 45 = .ok (.return_, 1) := by decide +kernel
theorem dX3_runOut_0 : decode (mX3_runOut).2.1 0 = .ok (.iconst 0, 1) := by decide +kernel
theorem dX3_runOut_1 : decode (mX3_runOut).2.1 1 = .ok (.istore_n 3, 1) := by decide +kernel
theorem dX3_runOut_2 : decode (mX3_runOut).2.1 2 = .ok (.iload_n 3, 1) := by decide +kernel
theorem dX3_runOut_3 : decode (mX3_runOut).2.1 3 = .ok (.sipush 300, 3) := by decide +kernel
theorem dX3_runOut_6 : decode (mX3_runOut).2.1 6 = .ok (.if_icmp .ge 30, 3) := by decide +kernel
theorem dX3_runOut_9 : decode (mX3_runOut).2.1 9 = .ok (.aload_n 0, 1) := by decide +kernel
theorem dX3_runOut_10 : decode (mX3_runOut).2.1 10 = .ok (.invokevirtual 73, 3) := by decide +kernel
theorem dX3_runOut_13 : decode (mX3_runOut).2.1 13 = .ok (.ifCond .le 23, 3) := by decide +kernel
theorem dX3_runOut_16 : decode (mX3_runOut).2.1 16 = .ok (.aload_n 0, 1) := by decide +kernel
theorem dX3_runOut_17 : decode (mX3_runOut).2.1 17 = .ok (.iload_n 3, 1) := by decide +kernel
theorem dX3_runOut_18 : decode (mX3_runOut).2.1 18 = .ok (.iload_n 2, 1) := by decide +kernel
theorem dX3_runOut_19 : decode (mX3_runOut).2.1 19 = .ok (.if_icmp .ge 7, 3) := by decide +kernel
theorem dX3_runOut_22 : decode (mX3_runOut).2.1 22 = .ok (.iload_n 1, 1) := by decide +kernel
theorem dX3_runOut_23 : decode (mX3_runOut).2.1 23 = .ok (.goto 4, 3) := by decide +kernel
theorem dX3_runOut_26 : decode (mX3_runOut).2.1 26 = .ok (.iconst (-1), 1) := by decide +kernel
theorem dX3_runOut_27 : decode (mX3_runOut).2.1 27 = .ok (.invokevirtual 136, 3) := by decide +kernel
theorem dX3_runOut_30 : decode (mX3_runOut).2.1 30 = .ok (.iinc 3 1, 3) := by decide +kernel
theorem dX3_runOut_33 : decode (mX3_runOut).2.1 33 = .ok (.goto (-31), 3) := by decide +kernel
theorem dX3_runOut_36 : decode (mX3_runOut).2.1 36 = .ok (.iload_n 3, 1) := by decide +kernel
theorem dX3_runOut_37 : decode (mX3_runOut).2.1 37 = .ok (.ireturn, 1) := by decide +kernel
theorem dX3_copyKept_0 : decode (mX3_copyKept).2.1 0 = .ok (.aload_n 1, 1) := by decide +kernel
theorem dX3_copyKept_1 : decode (mX3_copyKept).2.1 1 = .ok (.getfield 9, 3) := by decide +kernel
theorem dX3_copyKept_4 : decode (mX3_copyKept).2.1 4 = .ok (.iconst 0, 1) := by decide +kernel
theorem dX3_copyKept_5 : decode (mX3_copyKept).2.1 5 = .ok (.aload_n 0, 1) := by decide +kernel
theorem dX3_copyKept_6 : decode (mX3_copyKept).2.1 6 = .ok (.getfield 9, 3) := by decide +kernel
theorem dX3_copyKept_9 : decode (mX3_copyKept).2.1 9 = .ok (.iconst 0, 1) := by decide +kernel
theorem dX3_copyKept_10 : decode (mX3_copyKept).2.1 10 = .ok (.bipush 24, 2) := by decide +kernel
theorem dX3_copyKept_12 : decode (mX3_copyKept).2.1 12 = .ok (.invokestatic 140, 3) := by decide +kernel
theorem dX3_copyKept_15 : decode (mX3_copyKept).2.1 15 = .ok (.aload_n 1, 1) := by decide +kernel
theorem dX3_copyKept_16 : decode (mX3_copyKept).2.1 16 = .ok (.getfield 15, 3) := by decide +kernel
theorem dX3_copyKept_19 : decode (mX3_copyKept).2.1 19 = .ok (.iconst 0, 1) := by decide +kernel
theorem dX3_copyKept_20 : decode (mX3_copyKept).2.1 20 = .ok (.aload_n 0, 1) := by decide +kernel
theorem dX3_copyKept_21 : decode (mX3_copyKept).2.1 21 = .ok (.getfield 15, 3) := by decide +kernel
theorem dX3_copyKept_24 : decode (mX3_copyKept).2.1 24 = .ok (.iconst 0, 1) := by decide +kernel
theorem dX3_copyKept_25 : decode (mX3_copyKept).2.1 25 = .ok (.bipush 24, 2) := by decide +kernel
theorem dX3_copyKept_27 : decode (mX3_copyKept).2.1 27 = .ok (.invokestatic 140, 3) := by decide +kernel
theorem dX3_copyKept_30 : decode (mX3_copyKept).2.1 30 = .ok (.aload_n 0, 1) := by decide +kernel
theorem dX3_copyKept_31 : decode (mX3_copyKept).2.1 31 = .ok (.getfield 23, 3) := by decide +kernel
theorem dX3_copyKept_34 : decode (mX3_copyKept).2.1 34 = .ok (.aload_n 1, 1) := by decide +kernel
theorem dX3_copyKept_35 : decode (mX3_copyKept).2.1 35 = .ok (.getfield 23, 3) := by decide +kernel
theorem dX3_copyKept_38 : decode (mX3_copyKept).2.1 38 = .ok (.invokevirtual 146, 3) := by decide +kernel
theorem dX3_copyKept_41 : decode (mX3_copyKept).2.1 41 = .ok (.aload_n 0, 1) := by decide +kernel
theorem dX3_copyKept_42 : decode (mX3_copyKept).2.1 42 = .ok (.getfield 27, 3) := by decide +kernel
theorem dX3_copyKept_45 : decode (mX3_copyKept).2.1 45 = .ok (.aload_n 1, 1) := by decide +kernel
theorem dX3_copyKept_46 : decode (mX3_copyKept).2.1 46 = .ok (.getfield 27, 3) := by decide +kernel
theorem dX3_copyKept_49 : decode (mX3_copyKept).2.1 49 = .ok (.invokevirtual 146, 3) := by decide +kernel
theorem dX3_copyKept_52 : decode (mX3_copyKept).2.1 52 = .ok (.aload_n 0, 1) := by decide +kernel
theorem dX3_copyKept_53 : decode (mX3_copyKept).2.1 53 = .ok (.aload_n 1, 1) := by decide +kernel
theorem dX3_copyKept_54 : decode (mX3_copyKept).2.1 54 = .ok (.getfield 30, 3) := by decide +kernel
theorem dX3_copyKept_57 : decode (mX3_copyKept).2.1 57 = .ok (.putfield 30, 3) := by decide +kernel
theorem dX3_copyKept_60 : decode (mX3_copyKept).2.1 60 = .ok (.aload_n 0, 1) := by decide +kernel
theorem dX3_copyKept_61 : decode (mX3_copyKept).2.1 61 = .ok (.aload_n 1, 1) := by decide +kernel
theorem dX3_copyKept_62 : decode (mX3_copyKept).2.1 62 = .ok (.getfield 34, 3) := by decide +kernel
theorem dX3_copyKept_65 : decode (mX3_copyKept).2.1 65 = .ok (.putfield 34, 3) := by decide +kernel
theorem dX3_copyKept_68 : decode (mX3_copyKept).2.1 68 = .ok (.aload_n 0, 1) := by decide +kernel
theorem dX3_copyKept_69 : decode (mX3_copyKept).2.1 69 = .ok (.aload_n 1, 1) := by decide +kernel
theorem dX3_copyKept_70 : decode (mX3_copyKept).2.1 70 = .ok (.getfield 37, 3) := by decide +kernel
theorem dX3_copyKept_73 : decode (mX3_copyKept).2.1 73 = .ok (.putfield 37, 3) := by decide +kernel
theorem dX3_copyKept_76 : decode (mX3_copyKept).2.1 76 = .ok (.aload_n 0, 1) := by decide +kernel
theorem dX3_copyKept_77 : decode (mX3_copyKept).2.1 77 = .ok (.aload_n 1, 1) := by decide +kernel
theorem dX3_copyKept_78 : decode (mX3_copyKept).2.1 78 = .ok (.getfield 40, 3) := by decide +kernel
theorem dX3_copyKept_81 : decode (mX3_copyKept).2.1 81 = .ok (.putfield 40, 3) := by decide +kernel
theorem dX3_copyKept_84 : decode (mX3_copyKept).2.1 84 = .ok (.aload_n 0, 1) := by decide +kernel
theorem dX3_copyKept_85 : decode (mX3_copyKept).2.1 85 = .ok (.aload_n 1, 1) := by decide +kernel
theorem dX3_copyKept_86 : decode (mX3_copyKept).2.1 86 = .ok (.getfield 48, 3) := by decide +kernel
theorem dX3_copyKept_89 : decode (mX3_copyKept).2.1 89 = .ok (.putfield 48, 3) := by decide +kernel
theorem dX3_copyKept_92 : decode (mX3_copyKept).2.1 92 = .ok (.return_, 1) := by decide +kernel
theorem dX3_copyAll_0 : decode (mX3_copyAll).2.1 0 = .ok (.aload_n 0, 1) := by decide +kernel
theorem dX3_copyAll_1 : decode (mX3_copyAll).2.1 1 = .ok (.aload_n 1, 1) := by decide +kernel
theorem dX3_copyAll_2 : decode (mX3_copyAll).2.1 2 = .ok (.invokevirtual 149, 3) := by decide +kernel
theorem dX3_copyAll_5 : decode (mX3_copyAll).2.1 5 = .ok (.aload_n 0, 1) := by decide +kernel
theorem dX3_copyAll_6 : decode (mX3_copyAll).2.1 6 = .ok (.getfield 23, 3) := by decide +kernel
theorem dX3_copyAll_9 : decode (mX3_copyAll).2.1 9 = .ok (.aload_n 1, 1) := by decide +kernel
theorem dX3_copyAll_10 : decode (mX3_copyAll).2.1 10 = .ok (.getfield 23, 3) := by decide +kernel
theorem dX3_copyAll_13 : decode (mX3_copyAll).2.1 13 = .ok (.getfield 152, 3) := by decide +kernel
theorem dX3_copyAll_16 : decode (mX3_copyAll).2.1 16 = .ok (.putfield 152, 3) := by decide +kernel
theorem dX3_copyAll_19 : decode (mX3_copyAll).2.1 19 = .ok (.aload_n 0, 1) := by decide +kernel
theorem dX3_copyAll_20 : decode (mX3_copyAll).2.1 20 = .ok (.getfield 23, 3) := by decide +kernel
theorem dX3_copyAll_23 : decode (mX3_copyAll).2.1 23 = .ok (.aload_n 1, 1) := by decide +kernel
theorem dX3_copyAll_24 : decode (mX3_copyAll).2.1 24 = .ok (.getfield 23, 3) := by decide +kernel
theorem dX3_copyAll_27 : decode (mX3_copyAll).2.1 27 = .ok (.getfield 155, 3) := by decide +kernel
theorem dX3_copyAll_30 : decode (mX3_copyAll).2.1 30 = .ok (.putfield 155, 3) := by decide +kernel
theorem dX3_copyAll_33 : decode (mX3_copyAll).2.1 33 = .ok (.aload_n 0, 1) := by decide +kernel
theorem dX3_copyAll_34 : decode (mX3_copyAll).2.1 34 = .ok (.getfield 27, 3) := by decide +kernel
theorem dX3_copyAll_37 : decode (mX3_copyAll).2.1 37 = .ok (.aload_n 1, 1) := by decide +kernel
theorem dX3_copyAll_38 : decode (mX3_copyAll).2.1 38 = .ok (.getfield 27, 3) := by decide +kernel
theorem dX3_copyAll_41 : decode (mX3_copyAll).2.1 41 = .ok (.getfield 152, 3) := by decide +kernel
theorem dX3_copyAll_44 : decode (mX3_copyAll).2.1 44 = .ok (.putfield 152, 3) := by decide +kernel
theorem dX3_copyAll_47 : decode (mX3_copyAll).2.1 47 = .ok (.aload_n 0, 1) := by decide +kernel
theorem dX3_copyAll_48 : decode (mX3_copyAll).2.1 48 = .ok (.getfield 27, 3) := by decide +kernel
theorem dX3_copyAll_51 : decode (mX3_copyAll).2.1 51 = .ok (.aload_n 1, 1) := by decide +kernel
theorem dX3_copyAll_52 : decode (mX3_copyAll).2.1 52 = .ok (.getfield 27, 3) := by decide +kernel
theorem dX3_copyAll_55 : decode (mX3_copyAll).2.1 55 = .ok (.getfield 155, 3) := by decide +kernel
theorem dX3_copyAll_58 : decode (mX3_copyAll).2.1 58 = .ok (.putfield 155, 3) := by decide +kernel
theorem dX3_copyAll_61 : decode (mX3_copyAll).2.1 61 = .ok (.aload_n 0, 1) := by decide +kernel
theorem dX3_copyAll_62 : decode (mX3_copyAll).2.1 62 = .ok (.invokevirtual 158, 3) := by decide +kernel
theorem dX3_copyAll_65 : decode (mX3_copyAll).2.1 65 = .ok (.return_, 1) := by decide +kernel
theorem dX4_init_0 : decode (mX4_init).2.1 0 = .ok (.aload_n 0, 1) := by decide +kernel
theorem dX4_init_1 : decode (mX4_init).2.1 1 = .ok (.invokespecial 1, 3) := by decide +kernel
theorem dX4_init_4 : decode (mX4_init).2.1 4 = .ok (.aload_n 0, 1) := by decide +kernel
theorem dX4_init_5 : decode (mX4_init).2.1 5 = .ok (.iconst 3, 1) := by decide +kernel
theorem dX4_init_6 : decode (mX4_init).2.1 6 = .ok (.newarray .boolean, 2) := by decide +kernel
theorem dX4_init_8 : decode (mX4_init).2.1 8 = .ok (.putfield 9, 3) := by decide +kernel
theorem dX4_init_11 : decode (mX4_init).2.1 11 = .ok (.aload_n 0, 1) := by decide +kernel
theorem dX4_init_12 : decode (mX4_init).2.1 12 = .ok (.bipush 40, 2) := by decide +kernel
theorem dX4_init_14 : decode (mX4_init).2.1 14 = .ok (.newarray .int, 2) := by decide +kernel
theorem dX4_init_16 : decode (mX4_init).2.1 16 = .ok (.putfield 13, 3) := by decide +kernel
theorem dX4_init_19 : decode (mX4_init).2.1 19 = .ok (.aload_n 0, 1) := by decide +kernel
theorem dX4_init_20 : decode (mX4_init).2.1 20 = .ok (.iload_n 1, 1) := by decide +kernel
theorem dX4_init_21 : decode (mX4_init).2.1 21 = .ok (.putfield 17, 3) := by decide +kernel
theorem dX4_init_24 : decode (mX4_init).2.1 24 = .ok (.aload_n 0, 1) := by decide +kernel
theorem dX4_init_25 : decode (mX4_init).2.1 25 = .ok (.aload_n 2, 1) := by decide +kernel
theorem dX4_init_26 : decode (mX4_init).2.1 26 = .ok (.putfield 21, 3) := by decide +kernel
theorem dX4_init_29 : decode (mX4_init).2.1 29 = .ok (.aload_n 0, 1) := by decide +kernel
theorem dX4_init_30 : decode (mX4_init).2.1 30 = .ok (.aload_n 3, 1) := by decide +kernel
theorem dX4_init_31 : decode (mX4_init).2.1 31 = .ok (.putfield 24, 3) := by decide +kernel
theorem dX4_init_34 : decode (mX4_init).2.1 34 = .ok (.iconst 0, 1) := by decide +kernel
theorem dX4_init_35 : decode (mX4_init).2.1 35 = .ok (.istore 4, 2) := by decide +kernel
theorem dX4_init_37 : decode (mX4_init).2.1 37 = .ok (.iload 4, 2) := by decide +kernel
theorem dX4_init_39 : decode (mX4_init).2.1 39 = .ok (.iconst 3, 1) := by decide +kernel
theorem dX4_init_40 : decode (mX4_init).2.1 40 = .ok (.if_icmp .ge 65, 3) := by decide +kernel
theorem dX4_init_43 : decode (mX4_init).2.1 43 = .ok (.iload 4, 2) := by decide +kernel
theorem dX4_init_45 : decode (mX4_init).2.1 45 = .ok (.iconst 1, 1) := by decide +kernel
theorem dX4_init_46 : decode (mX4_init).2.1 46 = .ok (.iadd, 1) := by decide +kernel
theorem dX4_init_47 : decode (mX4_init).2.1 47 = .ok (.aload_n 3, 1) := by decide +kernel
theorem dX4_init_48 : decode (mX4_init).2.1 48 = .ok (.arraylength, 1) := by decide +kernel
theorem dX4_init_49 : decode (mX4_init).2.1 49 = .ok (.if_icmp .ge 56, 3) := by decide +kernel
theorem dX4_init_52 : decode (mX4_init).2.1 52 = .ok (.aload_n 3, 1) := by decide +kernel
theorem dX4_init_53 : decode (mX4_init).2.1 53 = .ok (.iload 4, 2) := by decide +kernel
theorem dX4_init_55 : decode (mX4_init).2.1 55 = .ok (.iaload, 1) := by decide +kernel
theorem dX4_init_56 : decode (mX4_init).2.1 56 = .ok (.istore 5, 2) := by decide +kernel
theorem dX4_init_58 : decode (mX4_init).2.1 58 = .ok (.iload 5, 2) := by decide +kernel
theorem dX4_init_60 : decode (mX4_init).2.1 60 = .ok (.aload_n 3, 1) := by decide +kernel
theorem dX4_init_61 : decode (mX4_init).2.1 61 = .ok (.iload 4, 2) := by decide +kernel
theorem dX4_init_63 : decode (mX4_init).2.1 63 = .ok (.iconst 1, 1) := by decide +kernel
theorem dX4_init_64 : decode (mX4_init).2.1 64 = .ok (.iadd, 1) := by decide +kernel
theorem dX4_init_65 : decode (mX4_init).2.1 65 = .ok (.iaload, 1) := by decide +kernel
theorem dX4_init_66 : decode (mX4_init).2.1 66 = .ok (.if_icmp .ge 33, 3) := by decide +kernel
theorem dX4_init_69 : decode (mX4_init).2.1 69 = .ok (.iload 5, 2) := by decide +kernel
theorem dX4_init_71 : decode (mX4_init).2.1 71 = .ok (.aload_n 2, 1) := by decide +kernel
theorem dX4_init_72 : decode (mX4_init).2.1 72 = .ok (.arraylength, 1) := by decide +kernel
theorem dX4_init_73 : decode (mX4_init).2.1 73 = .ok (.if_icmp .ge 26, 3) := by decide +kernel
theorem dX4_init_76 : decode (mX4_init).2.1 76 = .ok (.aload_n 2, 1) := by decide +kernel
theorem dX4_init_77 : decode (mX4_init).2.1 77 = .ok (.iload 5, 2) := by decide +kernel
theorem dX4_init_79 : decode (mX4_init).2.1 79 = .ok (.iaload, 1) := by decide +kernel
theorem dX4_init_80 : decode (mX4_init).2.1 80 = .ok (.bipush (-5), 2) := by decide +kernel
theorem dX4_init_82 : decode (mX4_init).2.1 82 = .ok (.if_icmp .ne 11, 3) := by decide +kernel
theorem dX4_init_85 : decode (mX4_init).2.1 85 = .ok (.aload_n 0, 1) := by decide +kernel
theorem dX4_init_86 : decode (mX4_init).2.1 86 = .ok (.getfield 9, 3) := by decide +kernel
theorem dX4_init_89 : decode (mX4_init).2.1 89 = .ok (.iload 4, 2) := by decide +kernel
theorem dX4_init_91 : decode (mX4_init).2.1 91 = .ok (.iconst 1, 1) := by decide +kernel
theorem dX4_init_92 : decode (mX4_init).2.1 92 = .ok (.bastore, 1) := by decide +kernel
theorem dX4_init_93 : decode (mX4_init).2.1 93 = .ok (.iinc 5 1, 3) := by decide +kernel
theorem dX4_init_96 : decode (mX4_init).2.1 96 = .ok (.goto (-38), 3) := by decide +kernel
theorem dX4_init_99 : decode (mX4_init).2.1 99 = .ok (.iinc 4 1, 3) := by decide +kernel
theorem dX4_init_102 : decode (mX4_init).2.1 102 = .ok (.goto (-65), 3) := by decide +kernel
theorem dX4_init_105 : decode (mX4_init).2.1 105 = .ok (.return_, 1) := by decide +kernel
theorem dX4_valueOf_0 : decode (mX4_valueOf).2.1 0 = .ok (.iload_n 1, 1) := by decide +kernel
theorem dX4_valueOf_1 : decode (mX4_valueOf).2.1 1 = .ok (.ifCond .lt 21, 3) := by decide +kernel
theorem dX4_valueOf_4 : decode (mX4_valueOf).2.1 4 = .ok (.iload_n 1, 1) := by decide +kernel
theorem dX4_valueOf_5 : decode (mX4_valueOf).2.1 5 = .ok (.iconst 1, 1) := by decide +kernel
theorem dX4_valueOf_6 : decode (mX4_valueOf).2.1 6 = .ok (.iadd, 1) := by decide +kernel
theorem dX4_valueOf_7 : decode (mX4_valueOf).2.1 7 = .ok (.aload_n 0, 1) := by decide +kernel
theorem dX4_valueOf_8 : decode (mX4_valueOf).2.1 8 = .ok (.getfield 24, 3) := by decide +kernel
theorem dX4_valueOf_11 : decode (mX4_valueOf).2.1 11 = .ok (.arraylength, 1) := by decide +kernel
theorem dX4_valueOf_12 : decode (mX4_valueOf).2.1 12 = .ok (.if_icmp .ge 10, 3) := by decide +kernel
theorem dX4_valueOf_15 : decode (mX4_valueOf).2.1 15 = .ok (.aload_n 2, 1) := by decide +kernel
theorem dX4_valueOf_16 : decode (mX4_valueOf).2.1 16 = .ok (.arraylength, 1) := by decide +kernel
theorem dX4_valueOf_17 : decode (mX4_valueOf).2.1 17 = .ok (.bipush 6, 2) := by decide +kernel
theorem dX4_valueOf_19 : decode (mX4_valueOf).2.1 19 = .ok (.if_icmp .ge 5, 3) := by decide +kernel
theorem dX4_valueOf_22 : decode (mX4_valueOf).2.1 22 = .ok (.iconst 0, 1) := by decide +kernel
theorem dX4_valueOf_23 : decode (mX4_valueOf).2.1 23 = .ok (.ireturn, 1) := by decide +kernel
theorem dX4_valueOf_24 : decode (mX4_valueOf).2.1 24 = .ok (.aload_n 0, 1) := by decide +kernel
theorem dX4_valueOf_25 : decode (mX4_valueOf).2.1 25 = .ok (.getfield 24, 3) := by decide +kernel
theorem dX4_valueOf_28 : decode (mX4_valueOf).2.1 28 = .ok (.iload_n 1, 1) := by decide +kernel
theorem dX4_valueOf_29 : decode (mX4_valueOf).2.1 29 = .ok (.iconst 1, 1) := by decide +kernel
theorem dX4_valueOf_30 : decode (mX4_valueOf).2.1 30 = .ok (.iadd, 1) := by decide +kernel
theorem dX4_valueOf_31 : decode (mX4_valueOf).2.1 31 = .ok (.iaload, 1) := by decide +kernel
theorem dX4_valueOf_32 : decode (mX4_valueOf).2.1 32 = .ok (.aload_n 0, 1) := by decide +kernel
theorem dX4_valueOf_33 : decode (mX4_valueOf).2.1 33 = .ok (.getfield 21, 3) := by decide +kernel
theorem dX4_valueOf_36 : decode (mX4_valueOf).2.1 36 = .ok (.arraylength, 1) := by decide +kernel
theorem dX4_valueOf_37 : decode (mX4_valueOf).2.1 37 = .ok (.if_icmp .ge 14, 3) := by decide +kernel
theorem dX4_valueOf_40 : decode (mX4_valueOf).2.1 40 = .ok (.aload_n 0, 1) := by decide +kernel
theorem dX4_valueOf_41 : decode (mX4_valueOf).2.1 41 = .ok (.getfield 24, 3) := by decide +kernel
theorem dX4_valueOf_44 : decode (mX4_valueOf).2.1 44 = .ok (.iload_n 1, 1) := by decide +kernel
theorem dX4_valueOf_45 : decode (mX4_valueOf).2.1 45 = .ok (.iconst 1, 1) := by decide +kernel
theorem dX4_valueOf_46 : decode (mX4_valueOf).2.1 46 = .ok (.iadd, 1) := by decide +kernel
theorem dX4_valueOf_47 : decode (mX4_valueOf).2.1 47 = .ok (.iaload, 1) := by decide +kernel
theorem dX4_valueOf_48 : decode (mX4_valueOf).2.1 48 = .ok (.goto 8, 3) := by decide +kernel
theorem dX4_valueOf_51 : decode (mX4_valueOf).2.1 51 = .ok (.aload_n 0, 1) := by decide +kernel
theorem dX4_valueOf_52 : decode (mX4_valueOf).2.1 52 = .ok (.getfield 21, 3) := by decide +kernel
theorem dX4_valueOf_55 : decode (mX4_valueOf).2.1 55 = .ok (.arraylength, 1) := by decide +kernel
theorem dX4_valueOf_56 : decode (mX4_valueOf).2.1 56 = .ok (.istore_n 3, 1) := by decide +kernel
theorem dX4_valueOf_57 : decode (mX4_valueOf).2.1 57 = .ok (.iconst 0, 1) := by decide +kernel
theorem dX4_valueOf_58 : decode (mX4_valueOf).2.1 58 = .ok (.istore 4, 2) := by decide +kernel
theorem dX4_valueOf_60 : decode (mX4_valueOf).2.1 60 = .ok (.aload_n 0, 1) := by decide +kernel
theorem dX4_valueOf_61 : decode (mX4_valueOf).2.1 61 = .ok (.getfield 24, 3) := by decide +kernel
theorem dX4_valueOf_64 : decode (mX4_valueOf).2.1 64 = .ok (.iload_n 1, 1) := by decide +kernel
theorem dX4_valueOf_65 : decode (mX4_valueOf).2.1 65 = .ok (.iaload, 1) := by decide +kernel
theorem dX4_valueOf_66 : decode (mX4_valueOf).2.1 66 = .ok (.istore 5, 2) := by decide +kernel
theorem dX4_valueOf_68 : decode (mX4_valueOf).2.1 68 = .ok (.iload 5, 2) := by decide +kernel
theorem dX4_valueOf_70 : decode (mX4_valueOf).2.1 70 = .ok (.iload_n 3, 1) := by decide +kernel
theorem dX4_valueOf_71 : decode (mX4_valueOf).2.1 71 = .ok (.if_icmp .ge 322, 3) := by decide +kernel
theorem dX4_valueOf_74 : decode (mX4_valueOf).2.1 74 = .ok (.aload_n 0, 1) := by decide +kernel
theorem dX4_valueOf_75 : decode (mX4_valueOf).2.1 75 = .ok (.getfield 21, 3) := by decide +kernel
theorem dX4_valueOf_78 : decode (mX4_valueOf).2.1 78 = .ok (.iload 5, 2) := by decide +kernel
theorem dX4_valueOf_80 : decode (mX4_valueOf).2.1 80 = .ok (.iaload, 1) := by decide +kernel
theorem dX4_valueOf_81 : decode (mX4_valueOf).2.1 81 = .ok (.istore 6, 2) := by decide +kernel
theorem dX4_valueOf_83 : decode (mX4_valueOf).2.1 83 = .ok (.iload 6, 2) := by decide +kernel
theorem dX4_valueOf_85 : decode (mX4_valueOf).2.1 85 = .ok (.bipush (-6), 2) := by decide +kernel
theorem dX4_valueOf_87 : decode (mX4_valueOf).2.1 87 = .ok (.if_icmp .lt 41, 3) := by decide +kernel
theorem dX4_valueOf_90 : decode (mX4_valueOf).2.1 90 = .ok (.iload 4, 2) := by decide +kernel
theorem dX4_valueOf_92 : decode (mX4_valueOf).2.1 92 = .ok (.bipush 40, 2) := by decide +kernel
theorem dX4_valueOf_94 : decode (mX4_valueOf).2.1 94 = .ok (.if_icmp .lt 5, 3) := by decide +kernel
theorem dX4_valueOf_97 : decode (mX4_valueOf).2.1 97 = .ok (.iconst 0, 1) := by decide +kernel
theorem dX4_valueOf_98 : decode (mX4_valueOf).2.1 98 = .ok (.ireturn, 1) := by decide +kernel
theorem dX4_valueOf_99 : decode (mX4_valueOf).2.1 99 = .ok (.aload_n 0, 1) := by decide +kernel
theorem dX4_valueOf_100 : decode (mX4_valueOf).2.1 100 = .ok (.getfield 13, 3) := by decide +kernel
theorem dX4_valueOf_103 : decode (mX4_valueOf).2.1 103 = .ok (.iload 4, 2) := by decide +kernel
theorem dX4_valueOf_105 : decode (mX4_valueOf).2.1 105 = .ok (.iload 6, 2) := by decide +kernel
theorem dX4_valueOf_107 : decode (mX4_valueOf).2.1 107 = .ok (.ifCond .lt 8, 3) := by decide +kernel
theorem dX4_valueOf_110 : decode (mX4_valueOf).2.1 110 = .ok (.iload 6, 2) := by decide +kernel
theorem dX4_valueOf_112 : decode (mX4_valueOf).2.1 112 = .ok (.goto 9, 3) := by decide +kernel
theorem dX4_valueOf_115 : decode (mX4_valueOf).2.1 115 = .ok (.aload_n 2, 1) := by decide +kernel
theorem dX4_valueOf_116 : decode (mX4_valueOf).2.1 116 = .ok (.iconst (-1), 1) := by decide +kernel
theorem dX4_valueOf_117 : decode (mX4_valueOf).2.1 117 = .ok (.iload 6, 2) := by decide +kernel
theorem dX4_valueOf_119 : decode (mX4_valueOf).2.1 119 = .ok (.isub, 1) := by decide +kernel
theorem dX4_valueOf_120 : decode (mX4_valueOf).2.1 120 = .ok (.iaload, 1) := by decide +kernel
theorem dX4_valueOf_121 : decode (mX4_valueOf).2.1 121 = .ok (.iastore, 1) := by decide +kernel
theorem dX4_valueOf_122 : decode (mX4_valueOf).2.1 122 = .ok (.iinc 4 1, 3) := by decide +kernel
theorem dX4_valueOf_125 : decode (mX4_valueOf).2.1 125 = .ok (.goto 262, 3) := by decide +kernel
theorem dX4_valueOf_128 : decode (mX4_valueOf).2.1 128 = .ok (.iload 6, 2) := by decide +kernel
theorem dX4_valueOf_130 : decode (mX4_valueOf).2.1 130 = .ok (.bipush (-9), 2) := by decide +kernel
theorem dX4_valueOf_132 : decode (mX4_valueOf).2.1 132 = .ok (.if_icmp .eq 10, 3) := by decide +kernel
theorem dX4_valueOf_135 : decode (mX4_valueOf).2.1 135 = .ok (.iload 6, 2) := by decide +kernel
theorem dX4_valueOf_137 : decode (mX4_valueOf).2.1 137 = .ok (.bipush (-15), 2) := by decide +kernel
theorem dX4_valueOf_139 : decode (mX4_valueOf).2.1 139 = .ok (.if_icmp .ne 7, 3) := by decide +kernel
theorem dX4_valueOf_142 : decode (mX4_valueOf).2.1 142 = .ok (.iconst 1, 1) := by decide +kernel
theorem dX4_valueOf_143 : decode (mX4_valueOf).2.1 143 = .ok (.goto 4, 3) := by decide +kernel
theorem dX4_valueOf_146 : decode (mX4_valueOf).2.1 146 = .ok (.iconst 0, 1) := by decide +kernel
theorem dX4_valueOf_147 : decode (mX4_valueOf).2.1 147 = .ok (.istore 7, 2) := by decide +kernel
theorem dX4_valueOf_149 : decode (mX4_valueOf).2.1 149 = .ok (.iload 4, 2) := by decide +kernel
theorem dX4_valueOf_151 : decode (mX4_valueOf).2.1 151 = .ok (.iload 7, 2) := by decide +kernel
theorem dX4_valueOf_153 : decode (mX4_valueOf).2.1 153 = .ok (.ifCond .eq 7, 3) := by decide +kernel
theorem dX4_valueOf_156 : decode (mX4_valueOf).2.1 156 = .ok (.iconst 1, 1) := by decide +kernel
theorem dX4_valueOf_157 : decode (mX4_valueOf).2.1 157 = .ok (.goto 4, 3) := by decide +kernel
theorem dX4_valueOf_160 : decode (mX4_valueOf).2.1 160 = .ok (.iconst 2, 1) := by decide +kernel
theorem dX4_valueOf_161 : decode (mX4_valueOf).2.1 161 = .ok (.if_icmp .ge 5, 3) := by decide +kernel
theorem dX4_valueOf_164 : decode (mX4_valueOf).2.1 164 = .ok (.iconst 0, 1) := by decide +kernel
theorem dX4_valueOf_165 : decode (mX4_valueOf).2.1 165 = .ok (.ireturn, 1) := by decide +kernel
theorem dX4_valueOf_166 : decode (mX4_valueOf).2.1 166 = .ok (.iload 7, 2) := by decide +kernel
theorem dX4_valueOf_168 : decode (mX4_valueOf).2.1 168 = .ok (.ifCond .ne 6, 3) := by decide +kernel
theorem dX4_valueOf_171 : decode (mX4_valueOf).2.1 171 = .ok (.iinc 4 (-1), 3) := by decide +kernel
theorem dX4_valueOf_174 : decode (mX4_valueOf).2.1 174 = .ok (.aload_n 0, 1) := by decide +kernel
theorem dX4_valueOf_175 : decode (mX4_valueOf).2.1 175 = .ok (.getfield 13, 3) := by decide +kernel
theorem dX4_valueOf_178 : decode (mX4_valueOf).2.1 178 = .ok (.iload 4, 2) := by decide +kernel
theorem dX4_valueOf_180 : decode (mX4_valueOf).2.1 180 = .ok (.iconst 1, 1) := by decide +kernel
theorem dX4_valueOf_181 : decode (mX4_valueOf).2.1 181 = .ok (.isub, 1) := by decide +kernel
theorem dX4_valueOf_182 : decode (mX4_valueOf).2.1 182 = .ok (.iaload, 1) := by decide +kernel
theorem dX4_valueOf_183 : decode (mX4_valueOf).2.1 183 = .ok (.istore 8, 2) := by decide +kernel
theorem dX4_valueOf_185 : decode (mX4_valueOf).2.1 185 = .ok (.iload 7, 2) := by decide +kernel
theorem dX4_valueOf_187 : decode (mX4_valueOf).2.1 187 = .ok (.ifCond .eq 7, 3) := by decide +kernel
theorem dX4_valueOf_190 : decode (mX4_valueOf).2.1 190 = .ok (.iconst 0, 1) := by decide +kernel
theorem dX4_valueOf_191 : decode (mX4_valueOf).2.1 191 = .ok (.goto 10, 3) := by decide +kernel
theorem dX4_valueOf_194 : decode (mX4_valueOf).2.1 194 = .ok (.aload_n 0, 1) := by decide +kernel
theorem dX4_valueOf_195 : decode (mX4_valueOf).2.1 195 = .ok (.getfield 13, 3) := by decide +kernel
theorem dX4_valueOf_198 : decode (mX4_valueOf).2.1 198 = .ok (.iload 4, 2) := by decide +kernel
theorem dX4_valueOf_200 : decode (mX4_valueOf).2.1 200 = .ok (.iaload, 1) := by decide +kernel
theorem dX4_valueOf_201 : decode (mX4_valueOf).2.1 201 = .ok (.istore 9, 2) := by decide +kernel
theorem dX4_valueOf_203 : decode (mX4_valueOf).2.1 203 = .ok (.iload 6, 2) := by decide +kernel
theorem dX4_valueOf_205 : decode (mX4_valueOf).2.1 205 = .ok (.tableswitch 166 (-14) (-7) #[156, 146, 136, 119, 102, 87, 67, 47], 47) := by decide +kernel
theorem dX4_valueOf_252 : decode (mX4_valueOf).2.1 252 = .ok (.iload 8, 2) := by decide +kernel
theorem dX4_valueOf_254 : decode (mX4_valueOf).2.1 254 = .ok (.ifCond .ne 8, 3) := by decide +kernel
theorem dX4_valueOf_257 : decode (mX4_valueOf).2.1 257 = .ok (.iload 9, 2) := by decide +kernel
theorem dX4_valueOf_259 : decode (mX4_valueOf).2.1 259 = .ok (.ifCond .eq 7, 3) := by decide +kernel
theorem dX4_valueOf_262 : decode (mX4_valueOf).2.1 262 = .ok (.iconst 1, 1) := by decide +kernel
theorem dX4_valueOf_263 : decode (mX4_valueOf).2.1 263 = .ok (.goto 4, 3) := by decide +kernel
theorem dX4_valueOf_266 : decode (mX4_valueOf).2.1 266 = .ok (.iconst 0, 1) := by decide +kernel
theorem dX4_valueOf_267 : decode (mX4_valueOf).2.1 267 = .ok (.istore 10, 2) := by decide +kernel
theorem dX4_valueOf_269 : decode (mX4_valueOf).2.1 269 = .ok (.goto 107, 3) := by decide +kernel
theorem dX4_valueOf_272 : decode (mX4_valueOf).2.1 272 = .ok (.iload 8, 2) := by decide +kernel
theorem dX4_valueOf_274 : decode (mX4_valueOf).2.1 274 = .ok (.ifCond .eq 12, 3) := by decide +kernel
theorem dX4_valueOf_277 : decode (mX4_valueOf).2.1 277 = .ok (.iload 9, 2) := by decide +kernel
theorem dX4_valueOf_279 : decode (mX4_valueOf).2.1 279 = .ok (.ifCond .eq 7, 3) := by decide +kernel
theorem dX4_valueOf_282 : decode (mX4_valueOf).2.1 282 = .ok (.iconst 1, 1) := by decide +kernel
theorem dX4_valueOf_283 : decode (mX4_valueOf).2.1 283 = .ok (.goto 4, 3) := by decide +kernel
theorem dX4_valueOf_286 : decode (mX4_valueOf).2.1 286 = .ok (.iconst 0, 1) := by decide +kernel
theorem dX4_valueOf_287 : decode (mX4_valueOf).2.1 287 = .ok (.istore 10, 2) := by decide +kernel
theorem dX4_valueOf_289 : decode (mX4_valueOf).2.1 289 = .ok (.goto 87, 3) := by decide +kernel
theorem dX4_valueOf_292 : decode (mX4_valueOf).2.1 292 = .ok (.iload 8, 2) := by decide +kernel
theorem dX4_valueOf_294 : decode (mX4_valueOf).2.1 294 = .ok (.ifCond .ne 7, 3) := by decide +kernel
theorem dX4_valueOf_297 : decode (mX4_valueOf).2.1 297 = .ok (.iconst 1, 1) := by decide +kernel
theorem dX4_valueOf_298 : decode (mX4_valueOf).2.1 298 = .ok (.goto 4, 3) := by decide +kernel
theorem dX4_valueOf_301 : decode (mX4_valueOf).2.1 301 = .ok (.iconst 0, 1) := by decide +kernel
theorem dX4_valueOf_302 : decode (mX4_valueOf).2.1 302 = .ok (.istore 10, 2) := by decide +kernel
theorem dX4_valueOf_304 : decode (mX4_valueOf).2.1 304 = .ok (.goto 72, 3) := by decide +kernel
theorem dX4_valueOf_307 : decode (mX4_valueOf).2.1 307 = .ok (.iload 8, 2) := by decide +kernel
theorem dX4_valueOf_309 : decode (mX4_valueOf).2.1 309 = .ok (.iload 9, 2) := by decide +kernel
theorem dX4_valueOf_311 : decode (mX4_valueOf).2.1 311 = .ok (.if_icmp .ge 7, 3) := by decide +kernel
theorem dX4_valueOf_314 : decode (mX4_valueOf).2.1 314 = .ok (.iconst 1, 1) := by decide +kernel
theorem dX4_valueOf_315 : decode (mX4_valueOf).2.1 315 = .ok (.goto 4, 3) := by decide +kernel
theorem dX4_valueOf_318 : decode (mX4_valueOf).2.1 318 = .ok (.iconst 0, 1) := by decide +kernel
theorem dX4_valueOf_319 : decode (mX4_valueOf).2.1 319 = .ok (.istore 10, 2) := by decide +kernel
theorem dX4_valueOf_321 : decode (mX4_valueOf).2.1 321 = .ok (.goto 55, 3) := by decide +kernel
theorem dX4_valueOf_324 : decode (mX4_valueOf).2.1 324 = .ok (.iload 8, 2) := by decide +kernel
theorem dX4_valueOf_326 : decode (mX4_valueOf).2.1 326 = .ok (.iload 9, 2) := by decide +kernel
theorem dX4_valueOf_328 : decode (mX4_valueOf).2.1 328 = .ok (.if_icmp .ne 7, 3) := by decide +kernel
theorem dX4_valueOf_331 : decode (mX4_valueOf).2.1 331 = .ok (.iconst 1, 1) := by decide +kernel
theorem dX4_valueOf_332 : decode (mX4_valueOf).2.1 332 = .ok (.goto 4, 3) := by decide +kernel
theorem dX4_valueOf_335 : decode (mX4_valueOf).2.1 335 = .ok (.iconst 0, 1) := by decide +kernel
theorem dX4_valueOf_336 : decode (mX4_valueOf).2.1 336 = .ok (.istore 10, 2) := by decide +kernel
theorem dX4_valueOf_338 : decode (mX4_valueOf).2.1 338 = .ok (.goto 38, 3) := by decide +kernel
theorem dX4_valueOf_341 : decode (mX4_valueOf).2.1 341 = .ok (.iload 8, 2) := by decide +kernel
theorem dX4_valueOf_343 : decode (mX4_valueOf).2.1 343 = .ok (.iload 9, 2) := by decide +kernel
theorem dX4_valueOf_345 : decode (mX4_valueOf).2.1 345 = .ok (.iadd, 1) := by decide +kernel
theorem dX4_valueOf_346 : decode (mX4_valueOf).2.1 346 = .ok (.istore 10, 2) := by decide +kernel
theorem dX4_valueOf_348 : decode (mX4_valueOf).2.1 348 = .ok (.goto 28, 3) := by decide +kernel
theorem dX4_valueOf_351 : decode (mX4_valueOf).2.1 351 = .ok (.iload 8, 2) := by decide +kernel
theorem dX4_valueOf_353 : decode (mX4_valueOf).2.1 353 = .ok (.iload 9, 2) := by decide +kernel
theorem dX4_valueOf_355 : decode (mX4_valueOf).2.1 355 = .ok (.isub, 1) := by decide +kernel
theorem dX4_valueOf_356 : decode (mX4_valueOf).2.1 356 = .ok (.istore 10, 2) := by decide +kernel
theorem dX4_valueOf_358 : decode (mX4_valueOf).2.1 358 = .ok (.goto 18, 3) := by decide +kernel
theorem dX4_valueOf_361 : decode (mX4_valueOf).2.1 361 = .ok (.iload 8, 2) := by decide +kernel
theorem dX4_valueOf_363 : decode (mX4_valueOf).2.1 363 = .ok (.iload 9, 2) := by decide +kernel
theorem dX4_valueOf_365 : decode (mX4_valueOf).2.1 365 = .ok (.imul, 1) := by decide +kernel
theorem dX4_valueOf_366 : decode (mX4_valueOf).2.1 366 = .ok (.istore 10, 2) := by decide +kernel
theorem dX4_valueOf_368 : decode (mX4_valueOf).2.1 368 = .ok (.goto 8, 3) := by decide +kernel
theorem dX4_valueOf_371 : decode (mX4_valueOf).2.1 371 = .ok (.iload 8, 2) := by decide +kernel
theorem dX4_valueOf_373 : decode (mX4_valueOf).2.1 373 = .ok (.ineg, 1) := by decide +kernel
theorem dX4_valueOf_374 : decode (mX4_valueOf).2.1 374 = .ok (.istore 10, 2) := by decide +kernel
theorem dX4_valueOf_376 : decode (mX4_valueOf).2.1 376 = .ok (.aload_n 0, 1) := by decide +kernel
theorem dX4_valueOf_377 : decode (mX4_valueOf).2.1 377 = .ok (.getfield 13, 3) := by decide +kernel
theorem dX4_valueOf_380 : decode (mX4_valueOf).2.1 380 = .ok (.iload 4, 2) := by decide +kernel
theorem dX4_valueOf_382 : decode (mX4_valueOf).2.1 382 = .ok (.iconst 1, 1) := by decide +kernel
theorem dX4_valueOf_383 : decode (mX4_valueOf).2.1 383 = .ok (.isub, 1) := by decide +kernel
theorem dX4_valueOf_384 : decode (mX4_valueOf).2.1 384 = .ok (.iload 10, 2) := by decide +kernel
theorem dX4_valueOf_386 : decode (mX4_valueOf).2.1 386 = .ok (.iastore, 1) := by decide +kernel
theorem dX4_valueOf_387 : decode (mX4_valueOf).2.1 387 = .ok (.iinc 5 1, 3) := by decide +kernel
theorem dX4_valueOf_390 : decode (mX4_valueOf).2.1 390 = .ok (.goto (-322), 3) := by decide +kernel
theorem dX4_valueOf_393 : decode (mX4_valueOf).2.1 393 = .ok (.iload 4, 2) := by decide +kernel
theorem dX4_valueOf_395 : decode (mX4_valueOf).2.1 395 = .ok (.ifCond .le 12, 3) := by decide +kernel
theorem dX4_valueOf_398 : decode (mX4_valueOf).2.1 398 = .ok (.aload_n 0, 1) := by decide +kernel
theorem dX4_valueOf_399 : decode (mX4_valueOf).2.1 399 = .ok (.getfield 13, 3) := by decide +kernel
theorem dX4_valueOf_402 : decode (mX4_valueOf).2.1 402 = .ok (.iconst 0, 1) := by decide +kernel
theorem dX4_valueOf_403 : decode (mX4_valueOf).2.1 403 = .ok (.iaload, 1) := by decide +kernel
theorem dX4_valueOf_404 : decode (mX4_valueOf).2.1 404 = .ok (.goto 4, 3) := by decide +kernel
theorem dX4_valueOf_407 : decode (mX4_valueOf).2.1 407 = .ok (.iconst 0, 1) := by decide +kernel
theorem dX4_valueOf_408 : decode (mX4_valueOf).2.1 408 = .ok (.ireturn, 1) := by decide +kernel
theorem dX5_init_0 : decode (mX5_init).2.1 0 = .ok (.aload_n 0, 1) := by decide +kernel
theorem dX5_init_1 : decode (mX5_init).2.1 1 = .ok (.invokespecial 3, 3) := by decide +kernel
theorem dX5_init_4 : decode (mX5_init).2.1 4 = .ok (.aload_n 0, 1) := by decide +kernel
theorem dX5_init_5 : decode (mX5_init).2.1 5 = .ok (.bipush 40, 2) := by decide +kernel
theorem dX5_init_7 : decode (mX5_init).2.1 7 = .ok (.newarray .int, 2) := by decide +kernel
theorem dX5_init_9 : decode (mX5_init).2.1 9 = .ok (.putfield 9, 3) := by decide +kernel
theorem dX5_init_12 : decode (mX5_init).2.1 12 = .ok (.aload_n 0, 1) := by decide +kernel
theorem dX5_init_13 : decode (mX5_init).2.1 13 = .ok (.iconst (-1), 1) := by decide +kernel
theorem dX5_init_14 : decode (mX5_init).2.1 14 = .ok (.putfield 15, 3) := by decide +kernel
theorem dX5_init_17 : decode (mX5_init).2.1 17 = .ok (.aload_n 0, 1) := by decide +kernel
theorem dX5_init_18 : decode (mX5_init).2.1 18 = .ok (.iconst 0, 1) := by decide +kernel
theorem dX5_init_19 : decode (mX5_init).2.1 19 = .ok (.putfield 19, 3) := by decide +kernel
theorem dX5_init_22 : decode (mX5_init).2.1 22 = .ok (.return_, 1) := by decide +kernel
theorem dX5_isMissing_0 : decode (mX5_isMissing).2.1 0 = .ok (.aload_n 0, 1) := by decide +kernel
theorem dX5_isMissing_1 : decode (mX5_isMissing).2.1 1 = .ok (.getfield 15, 3) := by decide +kernel
theorem dX5_isMissing_4 : decode (mX5_isMissing).2.1 4 = .ok (.iconst (-1), 1) := by decide +kernel
theorem dX5_isMissing_5 : decode (mX5_isMissing).2.1 5 = .ok (.if_icmp .ne 7, 3) := by decide +kernel
theorem dX5_isMissing_8 : decode (mX5_isMissing).2.1 8 = .ok (.iconst 1, 1) := by decide +kernel
theorem dX5_isMissing_9 : decode (mX5_isMissing).2.1 9 = .ok (.goto 4, 3) := by decide +kernel
theorem dX5_isMissing_12 : decode (mX5_isMissing).2.1 12 = .ok (.iconst 0, 1) := by decide +kernel
theorem dX5_isMissing_13 : decode (mX5_isMissing).2.1 13 = .ok (.ireturn, 1) := by decide +kernel
theorem dX5_become_0 : decode (mX5_become).2.1 0 = .ok (.aload_n 0, 1) := by decide +kernel
theorem dX5_become_1 : decode (mX5_become).2.1 1 = .ok (.iload_n 1, 1) := by decide +kernel
theorem dX5_become_2 : decode (mX5_become).2.1 2 = .ok (.putfield 15, 3) := by decide +kernel
theorem dX5_become_5 : decode (mX5_become).2.1 5 = .ok (.aload_n 0, 1) := by decide +kernel
theorem dX5_become_6 : decode (mX5_become).2.1 6 = .ok (.iload_n 2, 1) := by decide +kernel
theorem dX5_become_7 : decode (mX5_become).2.1 7 = .ok (.putfield 19, 3) := by decide +kernel
theorem dX5_become_10 : decode (mX5_become).2.1 10 = .ok (.aload_n 0, 1) := by decide +kernel
theorem dX5_become_11 : decode (mX5_become).2.1 11 = .ok (.getfield 9, 3) := by decide +kernel
theorem dX5_become_14 : decode (mX5_become).2.1 14 = .ok (.iconst 0, 1) := by decide +kernel
theorem dX5_become_15 : decode (mX5_become).2.1 15 = .ok (.invokestatic 22, 3) := by decide +kernel
theorem dX5_become_18 : decode (mX5_become).2.1 18 = .ok (.return_, 1) := by decide +kernel
theorem dX5_has_0 : decode (mX5_has).2.1 0 = .ok (.iconst 0, 1) := by decide +kernel
theorem dX5_has_1 : decode (mX5_has).2.1 1 = .ok (.iload_n 1, 1) := by decide +kernel
theorem dX5_has_2 : decode (mX5_has).2.1 2 = .ok (.if_icmp .gt 15, 3) := by decide +kernel
theorem dX5_has_5 : decode (mX5_has).2.1 5 = .ok (.iload_n 1, 1) := by decide +kernel
theorem dX5_has_6 : decode (mX5_has).2.1 6 = .ok (.aload_n 0, 1) := by decide +kernel
theorem dX5_has_7 : decode (mX5_has).2.1 7 = .ok (.getfield 19, 3) := by decide +kernel
theorem dX5_has_10 : decode (mX5_has).2.1 10 = .ok (.if_icmp .ge 7, 3) := by decide +kernel
theorem dX5_has_13 : decode (mX5_has).2.1 13 = .ok (.iconst 1, 1) := by decide +kernel
theorem dX5_has_14 : decode (mX5_has).2.1 14 = .ok (.goto 4, 3) := by decide +kernel
theorem dX5_has_17 : decode (mX5_has).2.1 17 = .ok (.iconst 0, 1) := by decide +kernel
theorem dX5_has_18 : decode (mX5_has).2.1 18 = .ok (.ireturn, 1) := by decide +kernel
theorem dX5_hasSpan_0 : decode (mX5_hasSpan).2.1 0 = .ok (.iconst 0, 1) := by decide +kernel
theorem dX5_hasSpan_1 : decode (mX5_hasSpan).2.1 1 = .ok (.iload_n 1, 1) := by decide +kernel
theorem dX5_hasSpan_2 : decode (mX5_hasSpan).2.1 2 = .ok (.if_icmp .gt 30, 3) := by decide +kernel
theorem dX5_hasSpan_5 : decode (mX5_hasSpan).2.1 5 = .ok (.iconst 0, 1) := by decide +kernel
theorem dX5_hasSpan_6 : decode (mX5_hasSpan).2.1 6 = .ok (.iload_n 2, 1) := by decide +kernel
theorem dX5_hasSpan_7 : decode (mX5_hasSpan).2.1 7 = .ok (.if_icmp .gt 25, 3) := by decide +kernel
theorem dX5_hasSpan_10 : decode (mX5_hasSpan).2.1 10 = .ok (.iload_n 2, 1) := by decide +kernel
theorem dX5_hasSpan_11 : decode (mX5_hasSpan).2.1 11 = .ok (.aload_n 0, 1) := by decide +kernel
theorem dX5_hasSpan_12 : decode (mX5_hasSpan).2.1 12 = .ok (.getfield 19, 3) := by decide +kernel
theorem dX5_hasSpan_15 : decode (mX5_hasSpan).2.1 15 = .ok (.if_icmp .gt 17, 3) := by decide +kernel
theorem dX5_hasSpan_18 : decode (mX5_hasSpan).2.1 18 = .ok (.iload_n 1, 1) := by decide +kernel
theorem dX5_hasSpan_19 : decode (mX5_hasSpan).2.1 19 = .ok (.aload_n 0, 1) := by decide +kernel
theorem dX5_hasSpan_20 : decode (mX5_hasSpan).2.1 20 = .ok (.getfield 19, 3) := by decide +kernel
theorem dX5_hasSpan_23 : decode (mX5_hasSpan).2.1 23 = .ok (.iload_n 2, 1) := by decide +kernel
theorem dX5_hasSpan_24 : decode (mX5_hasSpan).2.1 24 = .ok (.isub, 1) := by decide +kernel
theorem dX5_hasSpan_25 : decode (mX5_hasSpan).2.1 25 = .ok (.if_icmp .gt 7, 3) := by decide +kernel
theorem dX5_hasSpan_28 : decode (mX5_hasSpan).2.1 28 = .ok (.iconst 1, 1) := by decide +kernel
theorem dX5_hasSpan_29 : decode (mX5_hasSpan).2.1 29 = .ok (.goto 4, 3) := by decide +kernel
theorem dX5_hasSpan_32 : decode (mX5_hasSpan).2.1 32 = .ok (.iconst 0, 1) := by decide +kernel
theorem dX5_hasSpan_33 : decode (mX5_hasSpan).2.1 33 = .ok (.ireturn, 1) := by decide +kernel
theorem dX5_cut_0 : decode (mX5_cut).2.1 0 = .ok (.aload_n 0, 1) := by decide +kernel
theorem dX5_cut_1 : decode (mX5_cut).2.1 1 = .ok (.getfield 15, 3) := by decide +kernel
theorem dX5_cut_4 : decode (mX5_cut).2.1 4 = .ok (.ifCond .ne 6, 3) := by decide +kernel
theorem dX5_cut_7 : decode (mX5_cut).2.1 7 = .ok (.iload_n 1, 1) := by decide +kernel
theorem dX5_cut_8 : decode (mX5_cut).2.1 8 = .ok (.i2b, 1) := by decide +kernel
theorem dX5_cut_9 : decode (mX5_cut).2.1 9 = .ok (.ireturn, 1) := by decide +kernel
theorem dX5_cut_10 : decode (mX5_cut).2.1 10 = .ok (.aload_n 0, 1) := by decide +kernel
theorem dX5_cut_11 : decode (mX5_cut).2.1 11 = .ok (.getfield 15, 3) := by decide +kernel
theorem dX5_cut_14 : decode (mX5_cut).2.1 14 = .ok (.iconst 1, 1) := by decide +kernel
theorem dX5_cut_15 : decode (mX5_cut).2.1 15 = .ok (.if_icmp .ne 8, 3) := by decide +kernel
theorem dX5_cut_18 : decode (mX5_cut).2.1 18 = .ok (.iload_n 1, 1) := by decide +kernel
theorem dX5_cut_19 : decode (mX5_cut).2.1 19 = .ok (.i2s, 1) := by decide +kernel
theorem dX5_cut_20 : decode (mX5_cut).2.1 20 = .ok (.goto 4, 3) := by decide +kernel
theorem dX5_cut_23 : decode (mX5_cut).2.1 23 = .ok (.iload_n 1, 1) := by decide +kernel
theorem dX5_cut_24 : decode (mX5_cut).2.1 24 = .ok (.ireturn, 1) := by decide +kernel
theorem dX6_init_0 : decode (mX6_init).2.1 0 = .ok (.aload_n 0, 1) := by decide +kernel
theorem dX6_init_1 : decode (mX6_init).2.1 1 = .ok (.invokespecial 1, 3) := by decide +kernel
theorem dX6_init_4 : decode (mX6_init).2.1 4 = .ok (.aload_n 0, 1) := by decide +kernel
theorem dX6_init_5 : decode (mX6_init).2.1 5 = .ok (.new 7, 3) := by decide +kernel
theorem dX6_init_8 : decode (mX6_init).2.1 8 = .ok (.dup, 1) := by decide +kernel
theorem dX6_init_9 : decode (mX6_init).2.1 9 = .ok (.invokespecial 9, 3) := by decide +kernel
theorem dX6_init_12 : decode (mX6_init).2.1 12 = .ok (.putfield 10, 3) := by decide +kernel
theorem dX6_init_15 : decode (mX6_init).2.1 15 = .ok (.aload_n 0, 1) := by decide +kernel
theorem dX6_init_16 : decode (mX6_init).2.1 16 = .ok (.new 16, 3) := by decide +kernel
theorem dX6_init_19 : decode (mX6_init).2.1 19 = .ok (.dup, 1) := by decide +kernel
theorem dX6_init_20 : decode (mX6_init).2.1 20 = .ok (.invokespecial 18, 3) := by decide +kernel
theorem dX6_init_23 : decode (mX6_init).2.1 23 = .ok (.putfield 19, 3) := by decide +kernel
theorem dX6_init_26 : decode (mX6_init).2.1 26 = .ok (.aload_n 0, 1) := by decide +kernel
theorem dX6_init_27 : decode (mX6_init).2.1 27 = .ok (.bipush 6, 2) := by decide +kernel
theorem dX6_init_29 : decode (mX6_init).2.1 29 = .ok (.anewarray 23, 3) := by decide +kernel
theorem dX6_init_32 : decode (mX6_init).2.1 32 = .ok (.putfield 25, 3) := by decide +kernel
theorem dX6_init_35 : decode (mX6_init).2.1 35 = .ok (.aload_n 0, 1) := by decide +kernel
theorem dX6_init_36 : decode (mX6_init).2.1 36 = .ok (.iconst 4, 1) := by decide +kernel
theorem dX6_init_37 : decode (mX6_init).2.1 37 = .ok (.anewarray 29, 3) := by decide +kernel
theorem dX6_init_40 : decode (mX6_init).2.1 40 = .ok (.putfield 31, 3) := by decide +kernel
theorem dX6_init_43 : decode (mX6_init).2.1 43 = .ok (.aload_n 0, 1) := by decide +kernel
theorem dX6_init_44 : decode (mX6_init).2.1 44 = .ok (.iconst 1, 1) := by decide +kernel
theorem dX6_init_45 : decode (mX6_init).2.1 45 = .ok (.putfield 35, 3) := by decide +kernel
theorem dX6_init_48 : decode (mX6_init).2.1 48 = .ok (.aload_n 0, 1) := by decide +kernel
theorem dX6_init_49 : decode (mX6_init).2.1 49 = .ok (.iconst 0, 1) := by decide +kernel
theorem dX6_init_50 : decode (mX6_init).2.1 50 = .ok (.putfield 39, 3) := by decide +kernel
theorem dX6_init_53 : decode (mX6_init).2.1 53 = .ok (.iconst 0, 1) := by decide +kernel
theorem dX6_init_54 : decode (mX6_init).2.1 54 = .ok (.istore_n 1, 1) := by decide +kernel
theorem dX6_init_55 : decode (mX6_init).2.1 55 = .ok (.iload_n 1, 1) := by decide +kernel
theorem dX6_init_56 : decode (mX6_init).2.1 56 = .ok (.ldc 43, 2) := by decide +kernel
theorem dX6_init_58 : decode (mX6_init).2.1 58 = .ok (.invokevirtual 45, 3) := by decide +kernel
theorem dX6_init_61 : decode (mX6_init).2.1 61 = .ok (.if_icmp .ge 23, 3) := by decide +kernel
theorem dX6_init_64 : decode (mX6_init).2.1 64 = .ok (.aload_n 0, 1) := by decide +kernel
theorem dX6_init_65 : decode (mX6_init).2.1 65 = .ok (.getfield 19, 3) := by decide +kernel
theorem dX6_init_68 : decode (mX6_init).2.1 68 = .ok (.ldc 43, 2) := by decide +kernel
theorem dX6_init_70 : decode (mX6_init).2.1 70 = .ok (.iload_n 1, 1) := by decide +kernel
theorem dX6_init_71 : decode (mX6_init).2.1 71 = .ok (.invokevirtual 51, 3) := by decide +kernel
theorem dX6_init_74 : decode (mX6_init).2.1 74 = .ok (.invokevirtual 55, 3) := by decide +kernel
theorem dX6_init_77 : decode (mX6_init).2.1 77 = .ok (.pop, 1) := by decide +kernel
theorem dX6_init_78 : decode (mX6_init).2.1 78 = .ok (.iinc 1 1, 3) := by decide +kernel
theorem dX6_init_81 : decode (mX6_init).2.1 81 = .ok (.goto (-26), 3) := by decide +kernel
theorem dX6_init_84 : decode (mX6_init).2.1 84 = .ok (.aload_n 0, 1) := by decide +kernel
theorem dX6_init_85 : decode (mX6_init).2.1 85 = .ok (.getfield 19, 3) := by decide +kernel
theorem dX6_init_88 : decode (mX6_init).2.1 88 = .ok (.invokevirtual 59, 3) := by decide +kernel
theorem dX6_init_91 : decode (mX6_init).2.1 91 = .ok (.aload_n 0, 1) := by decide +kernel
theorem dX6_init_92 : decode (mX6_init).2.1 92 = .ok (.getfield 19, 3) := by decide +kernel
theorem dX6_init_95 : decode (mX6_init).2.1 95 = .ok (.iconst 0, 1) := by decide +kernel
theorem dX6_init_96 : decode (mX6_init).2.1 96 = .ok (.putfield 62, 3) := by decide +kernel
theorem dX6_init_99 : decode (mX6_init).2.1 99 = .ok (.aload_n 0, 1) := by decide +kernel
theorem dX6_init_100 : decode (mX6_init).2.1 100 = .ok (.getfield 19, 3) := by decide +kernel
theorem dX6_init_103 : decode (mX6_init).2.1 103 = .ok (.iconst 0, 1) := by decide +kernel
theorem dX6_init_104 : decode (mX6_init).2.1 104 = .ok (.invokevirtual 65, 3) := by decide +kernel
theorem dX6_init_107 : decode (mX6_init).2.1 107 = .ok (.astore_n 1, 1) := by decide +kernel
theorem dX6_init_108 : decode (mX6_init).2.1 108 = .ok (.aload_n 0, 1) := by decide +kernel
theorem dX6_init_109 : decode (mX6_init).2.1 109 = .ok (.getfield 25, 3) := by decide +kernel
theorem dX6_init_112 : decode (mX6_init).2.1 112 = .ok (.iconst 0, 1) := by decide +kernel
theorem dX6_init_113 : decode (mX6_init).2.1 113 = .ok (.aload_n 1, 1) := by decide +kernel
theorem dX6_init_114 : decode (mX6_init).2.1 114 = .ok (.aastore, 1) := by decide +kernel
theorem dX6_init_115 : decode (mX6_init).2.1 115 = .ok (.aload_n 0, 1) := by decide +kernel
theorem dX6_init_116 : decode (mX6_init).2.1 116 = .ok (.new 69, 3) := by decide +kernel
theorem dX6_init_119 : decode (mX6_init).2.1 119 = .ok (.dup, 1) := by decide +kernel
theorem dX6_init_120 : decode (mX6_init).2.1 120 = .ok (.aload_n 1, 1) := by decide +kernel
theorem dX6_init_121 : decode (mX6_init).2.1 121 = .ok (.invokespecial 71, 3) := by decide +kernel
theorem dX6_init_124 : decode (mX6_init).2.1 124 = .ok (.putfield 74, 3) := by decide +kernel
theorem dX6_init_127 : decode (mX6_init).2.1 127 = .ok (.aload_n 0, 1) := by decide +kernel
theorem dX6_init_128 : decode (mX6_init).2.1 128 = .ok (.new 69, 3) := by decide +kernel
theorem dX6_init_131 : decode (mX6_init).2.1 131 = .ok (.dup, 1) := by decide +kernel
theorem dX6_init_132 : decode (mX6_init).2.1 132 = .ok (.aload_n 1, 1) := by decide +kernel
theorem dX6_init_133 : decode (mX6_init).2.1 133 = .ok (.invokespecial 71, 3) := by decide +kernel
theorem dX6_init_136 : decode (mX6_init).2.1 136 = .ok (.putfield 78, 3) := by decide +kernel
theorem dX6_init_139 : decode (mX6_init).2.1 139 = .ok (.aload_n 0, 1) := by decide +kernel
theorem dX6_init_140 : decode (mX6_init).2.1 140 = .ok (.new 69, 3) := by decide +kernel
theorem dX6_init_143 : decode (mX6_init).2.1 143 = .ok (.dup, 1) := by decide +kernel
theorem dX6_init_144 : decode (mX6_init).2.1 144 = .ok (.aload_n 1, 1) := by decide +kernel
theorem dX6_init_145 : decode (mX6_init).2.1 145 = .ok (.invokespecial 71, 3) := by decide +kernel
theorem dX6_init_148 : decode (mX6_init).2.1 148 = .ok (.putfield 81, 3) := by decide +kernel
theorem dX6_init_151 : decode (mX6_init).2.1 151 = .ok (.aload_n 0, 1) := by decide +kernel
theorem dX6_init_152 : decode (mX6_init).2.1 152 = .ok (.new 69, 3) := by decide +kernel
theorem dX6_init_155 : decode (mX6_init).2.1 155 = .ok (.dup, 1) := by decide +kernel
theorem dX6_init_156 : decode (mX6_init).2.1 156 = .ok (.aload_n 1, 1) := by decide +kernel
theorem dX6_init_157 : decode (mX6_init).2.1 157 = .ok (.invokespecial 71, 3) := by decide +kernel
theorem dX6_init_160 : decode (mX6_init).2.1 160 = .ok (.putfield 84, 3) := by decide +kernel
theorem dX6_init_163 : decode (mX6_init).2.1 163 = .ok (.iconst 0, 1) := by decide +kernel
theorem dX6_init_164 : decode (mX6_init).2.1 164 = .ok (.istore_n 2, 1) := by decide +kernel
theorem dX6_init_165 : decode (mX6_init).2.1 165 = .ok (.iload_n 2, 1) := by decide +kernel
theorem dX6_init_166 : decode (mX6_init).2.1 166 = .ok (.iconst 4, 1) := by decide +kernel
theorem dX6_init_167 : decode (mX6_init).2.1 167 = .ok (.if_icmp .ge 22, 3) := by decide +kernel
theorem dX6_init_170 : decode (mX6_init).2.1 170 = .ok (.aload_n 0, 1) := by decide +kernel
theorem dX6_init_171 : decode (mX6_init).2.1 171 = .ok (.getfield 31, 3) := by decide +kernel
theorem dX6_init_174 : decode (mX6_init).2.1 174 = .ok (.iload_n 2, 1) := by decide +kernel
theorem dX6_init_175 : decode (mX6_init).2.1 175 = .ok (.new 29, 3) := by decide +kernel
theorem dX6_init_178 : decode (mX6_init).2.1 178 = .ok (.dup, 1) := by decide +kernel
theorem dX6_init_179 : decode (mX6_init).2.1 179 = .ok (.invokespecial 87, 3) := by decide +kernel
theorem dX6_init_182 : decode (mX6_init).2.1 182 = .ok (.aastore, 1) := by decide +kernel
theorem dX6_init_183 : decode (mX6_init).2.1 183 = .ok (.iinc 2 1, 3) := by decide +kernel
theorem dX6_init_186 : decode (mX6_init).2.1 186 = .ok (.goto (-21), 3) := by decide +kernel
theorem dX6_init_189 : decode (mX6_init).2.1 189 = .ok (.return_, 1) := by decide +kernel
theorem dX6_ground_0 : decode (mX6_ground).2.1 0 = .ok (.iload_n 1, 1) := by decide +kernel
theorem dX6_ground_1 : decode (mX6_ground).2.1 1 = .ok (.invokestatic 88, 3) := by decide +kernel
theorem dX6_ground_4 : decode (mX6_ground).2.1 4 = .ok (.ifCond .eq 12, 3) := by decide +kernel
theorem dX6_ground_7 : decode (mX6_ground).2.1 7 = .ok (.iload_n 2, 1) := by decide +kernel
theorem dX6_ground_8 : decode (mX6_ground).2.1 8 = .ok (.iconst 0, 1) := by decide +kernel
theorem dX6_ground_9 : decode (mX6_ground).2.1 9 = .ok (.iconst 1, 1) := by decide +kernel
theorem dX6_ground_10 : decode (mX6_ground).2.1 10 = .ok (.invokestatic 91, 3) := by decide +kernel
theorem dX6_ground_13 : decode (mX6_ground).2.1 13 = .ok (.ifCond .ne 6, 3) := by decide +kernel
theorem dX6_ground_16 : decode (mX6_ground).2.1 16 = .ok (.bipush (-2), 2) := by decide +kernel
theorem dX6_ground_18 : decode (mX6_ground).2.1 18 = .ok (.ireturn, 1) := by decide +kernel
theorem dX6_ground_19 : decode (mX6_ground).2.1 19 = .ok (.iload_n 3, 1) := by decide +kernel
theorem dX6_ground_20 : decode (mX6_ground).2.1 20 = .ok (.iconst 0, 1) := by decide +kernel
theorem dX6_ground_21 : decode (mX6_ground).2.1 21 = .ok (.iload_n 2, 1) := by decide +kernel
theorem dX6_ground_22 : decode (mX6_ground).2.1 22 = .ok (.ifCond .ne 7, 3) := by decide +kernel
theorem dX6_ground_25 : decode (mX6_ground).2.1 25 = .ok (.iconst 3, 1) := by decide +kernel
theorem dX6_ground_26 : decode (mX6_ground).2.1 26 = .ok (.goto 4, 3) := by decide +kernel
theorem dX6_ground_29 : decode (mX6_ground).2.1 29 = .ok (.iconst 1, 1) := by decide +kernel
theorem dX6_ground_30 : decode (mX6_ground).2.1 30 = .ok (.invokestatic 91, 3) := by decide +kernel
theorem dX6_ground_33 : decode (mX6_ground).2.1 33 = .ok (.ifCond .ne 6, 3) := by decide +kernel
theorem dX6_ground_36 : decode (mX6_ground).2.1 36 = .ok (.bipush (-2), 2) := by decide +kernel
theorem dX6_ground_38 : decode (mX6_ground).2.1 38 = .ok (.ireturn, 1) := by decide +kernel
theorem dX6_ground_39 : decode (mX6_ground).2.1 39 = .ok (.iload_n 2, 1) := by decide +kernel
theorem dX6_ground_40 : decode (mX6_ground).2.1 40 = .ok (.ifCond .ne 18, 3) := by decide +kernel
theorem dX6_ground_43 : decode (mX6_ground).2.1 43 = .ok (.aload_n 0, 1) := by decide +kernel
theorem dX6_ground_44 : decode (mX6_ground).2.1 44 = .ok (.getfield 74, 3) := by decide +kernel
theorem dX6_ground_47 : decode (mX6_ground).2.1 47 = .ok (.iload_n 1, 1) := by decide +kernel
theorem dX6_ground_48 : decode (mX6_ground).2.1 48 = .ok (.invokevirtual 95, 3) := by decide +kernel
theorem dX6_ground_51 : decode (mX6_ground).2.1 51 = .ok (.iconst (-1), 1) := by decide +kernel
theorem dX6_ground_52 : decode (mX6_ground).2.1 52 = .ok (.if_icmp .eq 6, 3) := by decide +kernel
theorem dX6_ground_55 : decode (mX6_ground).2.1 55 = .ok (.bipush (-3), 2) := by decide +kernel
theorem dX6_ground_57 : decode (mX6_ground).2.1 57 = .ok (.ireturn, 1) := by decide +kernel
theorem dX6_ground_58 : decode (mX6_ground).2.1 58 = .ok (.iload_n 2, 1) := by decide +kernel
theorem dX6_ground_59 : decode (mX6_ground).2.1 59 = .ok (.ifCond .ne 13, 3) := by decide +kernel
theorem dX6_ground_62 : decode (mX6_ground).2.1 62 = .ok (.aload_n 0, 1) := by decide +kernel
theorem dX6_ground_63 : decode (mX6_ground).2.1 63 = .ok (.getfield 74, 3) := by decide +kernel
theorem dX6_ground_66 : decode (mX6_ground).2.1 66 = .ok (.getfield 99, 3) := by decide +kernel
theorem dX6_ground_69 : decode (mX6_ground).2.1 69 = .ok (.goto 10, 3) := by decide +kernel
theorem dX6_ground_72 : decode (mX6_ground).2.1 72 = .ok (.aload_n 0, 1) := by decide +kernel
theorem dX6_ground_73 : decode (mX6_ground).2.1 73 = .ok (.getfield 74, 3) := by decide +kernel
theorem dX6_ground_76 : decode (mX6_ground).2.1 76 = .ok (.getfield 103, 3) := by decide +kernel
theorem dX6_ground_79 : decode (mX6_ground).2.1 79 = .ok (.astore 4, 2) := by decide +kernel
theorem dX6_ground_81 : decode (mX6_ground).2.1 81 = .ok (.aload 4, 2) := by decide +kernel
theorem dX6_ground_83 : decode (mX6_ground).2.1 83 = .ok (.iload_n 1, 1) := by decide +kernel
theorem dX6_ground_84 : decode (mX6_ground).2.1 84 = .ok (.iaload, 1) := by decide +kernel
theorem dX6_ground_85 : decode (mX6_ground).2.1 85 = .ok (.istore 5, 2) := by decide +kernel
theorem dX6_ground_87 : decode (mX6_ground).2.1 87 = .ok (.aload 4, 2) := by decide +kernel
theorem dX6_ground_89 : decode (mX6_ground).2.1 89 = .ok (.iload_n 1, 1) := by decide +kernel
theorem dX6_ground_90 : decode (mX6_ground).2.1 90 = .ok (.iload_n 3, 1) := by decide +kernel
theorem dX6_ground_91 : decode (mX6_ground).2.1 91 = .ok (.iastore, 1) := by decide +kernel
theorem dX6_ground_92 : decode (mX6_ground).2.1 92 = .ok (.iload 5, 2) := by decide +kernel
theorem dX6_ground_94 : decode (mX6_ground).2.1 94 = .ok (.ireturn, 1) := by decide +kernel
theorem dX6_yard_0 : decode (mX6_yard).2.1 0 = .ok (.iload_n 1, 1) := by decide +kernel
theorem dX6_yard_1 : decode (mX6_yard).2.1 1 = .ok (.invokestatic 88, 3) := by decide +kernel
theorem dX6_yard_4 : decode (mX6_yard).2.1 4 = .ok (.ifCond .ne 6, 3) := by decide +kernel
theorem dX6_yard_7 : decode (mX6_yard).2.1 7 = .ok (.bipush (-2), 2) := by decide +kernel
theorem dX6_yard_9 : decode (mX6_yard).2.1 9 = .ok (.ireturn, 1) := by decide +kernel
theorem dX6_yard_10 : decode (mX6_yard).2.1 10 = .ok (.iload_n 2, 1) := by decide +kernel
theorem dX6_yard_11 : decode (mX6_yard).2.1 11 = .ok (.tableswitch 78 0 3 #[29, 39, 49, 58], 29) := by decide +kernel
theorem dX6_yard_40 : decode (mX6_yard).2.1 40 = .ok (.aload_n 0, 1) := by decide +kernel
theorem dX6_yard_41 : decode (mX6_yard).2.1 41 = .ok (.getfield 74, 3) := by decide +kernel
theorem dX6_yard_44 : decode (mX6_yard).2.1 44 = .ok (.getfield 99, 3) := by decide +kernel
theorem dX6_yard_47 : decode (mX6_yard).2.1 47 = .ok (.iload_n 1, 1) := by decide +kernel
theorem dX6_yard_48 : decode (mX6_yard).2.1 48 = .ok (.iaload, 1) := by decide +kernel
theorem dX6_yard_49 : decode (mX6_yard).2.1 49 = .ok (.ireturn, 1) := by decide +kernel
theorem dX6_yard_50 : decode (mX6_yard).2.1 50 = .ok (.aload_n 0, 1) := by decide +kernel
theorem dX6_yard_51 : decode (mX6_yard).2.1 51 = .ok (.getfield 74, 3) := by decide +kernel
theorem dX6_yard_54 : decode (mX6_yard).2.1 54 = .ok (.getfield 103, 3) := by decide +kernel
theorem dX6_yard_57 : decode (mX6_yard).2.1 57 = .ok (.iload_n 1, 1) := by decide +kernel
theorem dX6_yard_58 : decode (mX6_yard).2.1 58 = .ok (.iaload, 1) := by decide +kernel
theorem dX6_yard_59 : decode (mX6_yard).2.1 59 = .ok (.ireturn, 1) := by decide +kernel
theorem dX6_yard_60 : decode (mX6_yard).2.1 60 = .ok (.aload_n 0, 1) := by decide +kernel
theorem dX6_yard_61 : decode (mX6_yard).2.1 61 = .ok (.getfield 74, 3) := by decide +kernel
theorem dX6_yard_64 : decode (mX6_yard).2.1 64 = .ok (.iload_n 1, 1) := by decide +kernel
theorem dX6_yard_65 : decode (mX6_yard).2.1 65 = .ok (.invokevirtual 95, 3) := by decide +kernel
theorem dX6_yard_68 : decode (mX6_yard).2.1 68 = .ok (.ireturn, 1) := by decide +kernel
theorem dX6_yard_69 : decode (mX6_yard).2.1 69 = .ok (.aload_n 0, 1) := by decide +kernel
theorem dX6_yard_70 : decode (mX6_yard).2.1 70 = .ok (.getfield 74, 3) := by decide +kernel
theorem dX6_yard_73 : decode (mX6_yard).2.1 73 = .ok (.iconst 1, 1) := by decide +kernel
theorem dX6_yard_74 : decode (mX6_yard).2.1 74 = .ok (.iload_n 1, 1) := by decide +kernel
theorem dX6_yard_75 : decode (mX6_yard).2.1 75 = .ok (.aload_n 0, 1) := by decide +kernel
theorem dX6_yard_76 : decode (mX6_yard).2.1 76 = .ok (.getfield 74, 3) := by decide +kernel
theorem dX6_yard_79 : decode (mX6_yard).2.1 79 = .ok (.getfield 106, 3) := by decide +kernel
theorem dX6_yard_82 : decode (mX6_yard).2.1 82 = .ok (.getfield 110, 3) := by decide +kernel
theorem dX6_yard_85 : decode (mX6_yard).2.1 85 = .ok (.invokevirtual 115, 3) := by decide +kernel
theorem dX6_yard_88 : decode (mX6_yard).2.1 88 = .ok (.ireturn, 1) := by decide +kernel
theorem dX6_yard_89 : decode (mX6_yard).2.1 89 = .ok (.bipush (-2), 2) := by decide +kernel
theorem dX6_yard_91 : decode (mX6_yard).2.1 91 = .ok (.ireturn, 1) := by decide +kernel
theorem dX6_gang_0 : decode (mX6_gang).2.1 0 = .ok (.iload_n 1, 1) := by decide +kernel
theorem dX6_gang_1 : decode (mX6_gang).2.1 1 = .ok (.invokestatic 119, 3) := by decide +kernel
theorem dX6_gang_4 : decode (mX6_gang).2.1 4 = .ok (.ifCond .eq 22, 3) := by decide +kernel
theorem dX6_gang_7 : decode (mX6_gang).2.1 7 = .ok (.iload_n 2, 1) := by decide +kernel
theorem dX6_gang_8 : decode (mX6_gang).2.1 8 = .ok (.iconst 0, 1) := by decide +kernel
theorem dX6_gang_9 : decode (mX6_gang).2.1 9 = .ok (.iconst 5, 1) := by decide +kernel
theorem dX6_gang_10 : decode (mX6_gang).2.1 10 = .ok (.invokestatic 91, 3) := by decide +kernel
theorem dX6_gang_13 : decode (mX6_gang).2.1 13 = .ok (.ifCond .eq 13, 3) := by decide +kernel
theorem dX6_gang_16 : decode (mX6_gang).2.1 16 = .ok (.iload_n 3, 1) := by decide +kernel
theorem dX6_gang_17 : decode (mX6_gang).2.1 17 = .ok (.iconst 0, 1) := by decide +kernel
theorem dX6_gang_18 : decode (mX6_gang).2.1 18 = .ok (.bipush 9, 2) := by decide +kernel
theorem dX6_gang_20 : decode (mX6_gang).2.1 20 = .ok (.invokestatic 91, 3) := by decide +kernel
theorem dX6_gang_23 : decode (mX6_gang).2.1 23 = .ok (.ifCond .ne 6, 3) := by decide +kernel
theorem dX6_gang_26 : decode (mX6_gang).2.1 26 = .ok (.bipush (-2), 2) := by decide +kernel
theorem dX6_gang_28 : decode (mX6_gang).2.1 28 = .ok (.ireturn, 1) := by decide +kernel
theorem dX6_gang_29 : decode (mX6_gang).2.1 29 = .ok (.aload_n 0, 1) := by decide +kernel
theorem dX6_gang_30 : decode (mX6_gang).2.1 30 = .ok (.getfield 74, 3) := by decide +kernel
theorem dX6_gang_33 : decode (mX6_gang).2.1 33 = .ok (.iload_n 1, 1) := by decide +kernel
theorem dX6_gang_34 : decode (mX6_gang).2.1 34 = .ok (.invokevirtual 122, 3) := by decide +kernel
theorem dX6_gang_37 : decode (mX6_gang).2.1 37 = .ok (.astore 4, 2) := by decide +kernel
theorem dX6_gang_39 : decode (mX6_gang).2.1 39 = .ok (.aload 4, 2) := by decide +kernel
theorem dX6_gang_41 : decode (mX6_gang).2.1 41 = .ok (.getfield 126, 3) := by decide +kernel
theorem dX6_gang_44 : decode (mX6_gang).2.1 44 = .ok (.istore 5, 2) := by decide +kernel
theorem dX6_gang_46 : decode (mX6_gang).2.1 46 = .ok (.aload 4, 2) := by decide +kernel
theorem dX6_gang_48 : decode (mX6_gang).2.1 48 = .ok (.iload_n 2, 1) := by decide +kernel
theorem dX6_gang_49 : decode (mX6_gang).2.1 49 = .ok (.putfield 126, 3) := by decide +kernel
theorem dX6_gang_52 : decode (mX6_gang).2.1 52 = .ok (.aload 4, 2) := by decide +kernel
theorem dX6_gang_54 : decode (mX6_gang).2.1 54 = .ok (.iload_n 3, 1) := by decide +kernel
theorem dX6_gang_55 : decode (mX6_gang).2.1 55 = .ok (.putfield 129, 3) := by decide +kernel
theorem dX6_gang_58 : decode (mX6_gang).2.1 58 = .ok (.iload 5, 2) := by decide +kernel
theorem dX6_gang_60 : decode (mX6_gang).2.1 60 = .ok (.ireturn, 1) := by decide +kernel
theorem dX6_set_0 : decode (mX6_set).2.1 0 = .ok (.iload_n 1, 1) := by decide +kernel
theorem dX6_set_1 : decode (mX6_set).2.1 1 = .ok (.iconst 0, 1) := by decide +kernel
theorem dX6_set_2 : decode (mX6_set).2.1 2 = .ok (.getstatic 132, 3) := by decide +kernel
theorem dX6_set_5 : decode (mX6_set).2.1 5 = .ok (.arraylength, 1) := by decide +kernel
theorem dX6_set_6 : decode (mX6_set).2.1 6 = .ok (.iconst 1, 1) := by decide +kernel
theorem dX6_set_7 : decode (mX6_set).2.1 7 = .ok (.isub, 1) := by decide +kernel
theorem dX6_set_8 : decode (mX6_set).2.1 8 = .ok (.invokestatic 91, 3) := by decide +kernel
theorem dX6_set_11 : decode (mX6_set).2.1 11 = .ok (.ifCond .eq 20, 3) := by decide +kernel
theorem dX6_set_14 : decode (mX6_set).2.1 14 = .ok (.iload_n 2, 1) := by decide +kernel
theorem dX6_set_15 : decode (mX6_set).2.1 15 = .ok (.getstatic 135, 3) := by decide +kernel
theorem dX6_set_18 : decode (mX6_set).2.1 18 = .ok (.iload_n 1, 1) := by decide +kernel
theorem dX6_set_19 : decode (mX6_set).2.1 19 = .ok (.iaload, 1) := by decide +kernel
theorem dX6_set_20 : decode (mX6_set).2.1 20 = .ok (.getstatic 132, 3) := by decide +kernel
theorem dX6_set_23 : decode (mX6_set).2.1 23 = .ok (.iload_n 1, 1) := by decide +kernel
theorem dX6_set_24 : decode (mX6_set).2.1 24 = .ok (.iaload, 1) := by decide +kernel
theorem dX6_set_25 : decode (mX6_set).2.1 25 = .ok (.invokestatic 91, 3) := by decide +kernel
theorem dX6_set_28 : decode (mX6_set).2.1 28 = .ok (.ifCond .ne 6, 3) := by decide +kernel
theorem dX6_set_31 : decode (mX6_set).2.1 31 = .ok (.bipush (-2), 2) := by decide +kernel
theorem dX6_set_33 : decode (mX6_set).2.1 33 = .ok (.ireturn, 1) := by decide +kernel
theorem dX6_set_34 : decode (mX6_set).2.1 34 = .ok (.iload_n 1, 1) := by decide +kernel
theorem dX6_set_35 : decode (mX6_set).2.1 35 = .ok (.tableswitch 89 0 3 #[29, 29, 53, 71], 29) := by decide +kernel
theorem dX6_set_64 : decode (mX6_set).2.1 64 = .ok (.aload_n 0, 1) := by decide +kernel
theorem dX6_set_65 : decode (mX6_set).2.1 65 = .ok (.getfield 74, 3) := by decide +kernel
theorem dX6_set_68 : decode (mX6_set).2.1 68 = .ok (.iload_n 1, 1) := by decide +kernel
theorem dX6_set_69 : decode (mX6_set).2.1 69 = .ok (.invokevirtual 122, 3) := by decide +kernel
theorem dX6_set_72 : decode (mX6_set).2.1 72 = .ok (.astore 4, 2) := by decide +kernel
theorem dX6_set_74 : decode (mX6_set).2.1 74 = .ok (.aload 4, 2) := by decide +kernel
theorem dX6_set_76 : decode (mX6_set).2.1 76 = .ok (.getfield 110, 3) := by decide +kernel
theorem dX6_set_79 : decode (mX6_set).2.1 79 = .ok (.istore_n 3, 1) := by decide +kernel
theorem dX6_set_80 : decode (mX6_set).2.1 80 = .ok (.aload 4, 2) := by decide +kernel
theorem dX6_set_82 : decode (mX6_set).2.1 82 = .ok (.iload_n 2, 1) := by decide +kernel
theorem dX6_set_83 : decode (mX6_set).2.1 83 = .ok (.putfield 110, 3) := by decide +kernel
theorem dX6_set_86 : decode (mX6_set).2.1 86 = .ok (.iload_n 3, 1) := by decide +kernel
theorem dX6_set_87 : decode (mX6_set).2.1 87 = .ok (.ireturn, 1) := by decide +kernel
theorem dX6_set_88 : decode (mX6_set).2.1 88 = .ok (.aload_n 0, 1) := by decide +kernel
theorem dX6_set_89 : decode (mX6_set).2.1 89 = .ok (.getfield 74, 3) := by decide +kernel
theorem dX6_set_92 : decode (mX6_set).2.1 92 = .ok (.getfield 138, 3) := by decide +kernel
theorem dX6_set_95 : decode (mX6_set).2.1 95 = .ok (.istore_n 3, 1) := by decide +kernel
theorem dX6_set_96 : decode (mX6_set).2.1 96 = .ok (.aload_n 0, 1) := by decide +kernel
theorem dX6_set_97 : decode (mX6_set).2.1 97 = .ok (.getfield 74, 3) := by decide +kernel
theorem dX6_set_100 : decode (mX6_set).2.1 100 = .ok (.iload_n 2, 1) := by decide +kernel
theorem dX6_set_101 : decode (mX6_set).2.1 101 = .ok (.putfield 138, 3) := by decide +kernel
theorem dX6_set_104 : decode (mX6_set).2.1 104 = .ok (.iload_n 3, 1) := by decide +kernel
theorem dX6_set_105 : decode (mX6_set).2.1 105 = .ok (.ireturn, 1) := by decide +kernel
theorem dX6_set_106 : decode (mX6_set).2.1 106 = .ok (.aload_n 0, 1) := by decide +kernel
theorem dX6_set_107 : decode (mX6_set).2.1 107 = .ok (.getfield 74, 3) := by decide +kernel
theorem dX6_set_110 : decode (mX6_set).2.1 110 = .ok (.getfield 141, 3) := by decide +kernel
theorem dX6_set_113 : decode (mX6_set).2.1 113 = .ok (.istore_n 3, 1) := by decide +kernel
theorem dX6_set_114 : decode (mX6_set).2.1 114 = .ok (.aload_n 0, 1) := by decide +kernel
theorem dX6_set_115 : decode (mX6_set).2.1 115 = .ok (.getfield 74, 3) := by decide +kernel
theorem dX6_set_118 : decode (mX6_set).2.1 118 = .ok (.iload_n 2, 1) := by decide +kernel
theorem dX6_set_119 : decode (mX6_set).2.1 119 = .ok (.putfield 141, 3) := by decide +kernel
theorem dX6_set_122 : decode (mX6_set).2.1 122 = .ok (.iload_n 3, 1) := by decide +kernel
theorem dX6_set_123 : decode (mX6_set).2.1 123 = .ok (.ireturn, 1) := by decide +kernel
theorem dX6_set_124 : decode (mX6_set).2.1 124 = .ok (.aload_n 0, 1) := by decide +kernel
theorem dX6_set_125 : decode (mX6_set).2.1 125 = .ok (.getfield 74, 3) := by decide +kernel
theorem dX6_set_128 : decode (mX6_set).2.1 128 = .ok (.getfield 144, 3) := by decide +kernel
theorem dX6_set_131 : decode (mX6_set).2.1 131 = .ok (.istore_n 3, 1) := by decide +kernel
theorem dX6_set_132 : decode (mX6_set).2.1 132 = .ok (.aload_n 0, 1) := by decide +kernel
theorem dX6_set_133 : decode (mX6_set).2.1 133 = .ok (.getfield 74, 3) := by decide +kernel
theorem dX6_set_136 : decode (mX6_set).2.1 136 = .ok (.iload_n 2, 1) := by decide +kernel
theorem dX6_set_137 : decode (mX6_set).2.1 137 = .ok (.putfield 144, 3) := by decide +kernel
theorem dX6_set_140 : decode (mX6_set).2.1 140 = .ok (.iload_n 3, 1) := by decide +kernel
theorem dX6_set_141 : decode (mX6_set).2.1 141 = .ok (.ireturn, 1) := by decide +kernel
theorem dX6_told_0 : decode (mX6_told).2.1 0 = .ok (.iload_n 1, 1) := by decide +kernel
theorem dX6_told_1 : decode (mX6_told).2.1 1 = .ok (.invokestatic 119, 3) := by decide +kernel
theorem dX6_told_4 : decode (mX6_told).2.1 4 = .ok (.ifCond .ne 6, 3) := by decide +kernel
theorem dX6_told_7 : decode (mX6_told).2.1 7 = .ok (.bipush (-2), 2) := by decide +kernel
theorem dX6_told_9 : decode (mX6_told).2.1 9 = .ok (.ireturn, 1) := by decide +kernel
theorem dX6_told_10 : decode (mX6_told).2.1 10 = .ok (.aload_n 0, 1) := by decide +kernel
theorem dX6_told_11 : decode (mX6_told).2.1 11 = .ok (.getfield 74, 3) := by decide +kernel
theorem dX6_told_14 : decode (mX6_told).2.1 14 = .ok (.iload_n 1, 1) := by decide +kernel
theorem dX6_told_15 : decode (mX6_told).2.1 15 = .ok (.invokevirtual 122, 3) := by decide +kernel
theorem dX6_told_18 : decode (mX6_told).2.1 18 = .ok (.astore_n 3, 1) := by decide +kernel
theorem dX6_told_19 : decode (mX6_told).2.1 19 = .ok (.iload_n 2, 1) := by decide +kernel
theorem dX6_told_20 : decode (mX6_told).2.1 20 = .ok (.tableswitch 112 0 8 #[52, 57, 62, 67, 72, 77, 82, 87, 107], 52) := by decide +kernel
theorem dX6_told_72 : decode (mX6_told).2.1 72 = .ok (.aload_n 3, 1) := by decide +kernel
theorem dX6_told_73 : decode (mX6_told).2.1 73 = .ok (.getfield 126, 3) := by decide +kernel
theorem dX6_told_76 : decode (mX6_told).2.1 76 = .ok (.ireturn, 1) := by decide +kernel
theorem dX6_told_77 : decode (mX6_told).2.1 77 = .ok (.aload_n 3, 1) := by decide +kernel
theorem dX6_told_78 : decode (mX6_told).2.1 78 = .ok (.getfield 129, 3) := by decide +kernel
theorem dX6_told_81 : decode (mX6_told).2.1 81 = .ok (.ireturn, 1) := by decide +kernel
theorem dX6_told_82 : decode (mX6_told).2.1 82 = .ok (.aload_n 3, 1) := by decide +kernel
theorem dX6_told_83 : decode (mX6_told).2.1 83 = .ok (.getfield 110, 3) := by decide +kernel
theorem dX6_told_86 : decode (mX6_told).2.1 86 = .ok (.ireturn, 1) := by decide +kernel
theorem dX6_told_87 : decode (mX6_told).2.1 87 = .ok (.aload_n 3, 1) := by decide +kernel
theorem dX6_told_88 : decode (mX6_told).2.1 88 = .ok (.getfield 147, 3) := by decide +kernel
theorem dX6_told_91 : decode (mX6_told).2.1 91 = .ok (.ireturn, 1) := by decide +kernel
theorem dX6_told_92 : decode (mX6_told).2.1 92 = .ok (.aload_n 3, 1) := by decide +kernel
theorem dX6_told_93 : decode (mX6_told).2.1 93 = .ok (.getfield 150, 3) := by decide +kernel
theorem dX6_told_96 : decode (mX6_told).2.1 96 = .ok (.ireturn, 1) := by decide +kernel
theorem dX6_told_97 : decode (mX6_told).2.1 97 = .ok (.aload_n 3, 1) := by decide +kernel
theorem dX6_told_98 : decode (mX6_told).2.1 98 = .ok (.getfield 153, 3) := by decide +kernel
theorem dX6_told_101 : decode (mX6_told).2.1 101 = .ok (.ireturn, 1) := by decide +kernel
theorem dX6_told_102 : decode (mX6_told).2.1 102 = .ok (.aload_n 3, 1) := by decide +kernel
theorem dX6_told_103 : decode (mX6_told).2.1 103 = .ok (.getfield 156, 3) := by decide +kernel
theorem dX6_told_106 : decode (mX6_told).2.1 106 = .ok (.ireturn, 1) := by decide +kernel
theorem dX6_told_107 : decode (mX6_told).2.1 107 = .ok (.aload_n 0, 1) := by decide +kernel
theorem dX6_told_108 : decode (mX6_told).2.1 108 = .ok (.getfield 74, 3) := by decide +kernel
theorem dX6_told_111 : decode (mX6_told).2.1 111 = .ok (.invokevirtual 159, 3) := by decide +kernel
theorem dX6_told_114 : decode (mX6_told).2.1 114 = .ok (.ifCond .ne 7, 3) := by decide +kernel
theorem dX6_told_117 : decode (mX6_told).2.1 117 = .ok (.iconst 0, 1) := by decide +kernel
theorem dX6_told_118 : decode (mX6_told).2.1 118 = .ok (.goto 8, 3) := by decide +kernel
theorem dX6_told_121 : decode (mX6_told).2.1 121 = .ok (.aload_n 0, 1) := by decide +kernel
theorem dX6_told_122 : decode (mX6_told).2.1 122 = .ok (.aload_n 3, 1) := by decide +kernel
theorem dX6_told_123 : decode (mX6_told).2.1 123 = .ok (.invokevirtual 162, 3) := by decide +kernel
theorem dX6_told_126 : decode (mX6_told).2.1 126 = .ok (.ireturn, 1) := by decide +kernel
theorem dX6_told_127 : decode (mX6_told).2.1 127 = .ok (.aload_n 3, 1) := by decide +kernel
theorem dX6_told_128 : decode (mX6_told).2.1 128 = .ok (.invokevirtual 166, 3) := by decide +kernel
theorem dX6_told_131 : decode (mX6_told).2.1 131 = .ok (.ireturn, 1) := by decide +kernel
theorem dX6_told_132 : decode (mX6_told).2.1 132 = .ok (.bipush (-2), 2) := by decide +kernel
theorem dX6_told_134 : decode (mX6_told).2.1 134 = .ok (.ireturn, 1) := by decide +kernel
theorem dX6_doesToday_0 : decode (mX6_doesToday).2.1 0 = .ok (.aload_n 1, 1) := by decide +kernel
theorem dX6_doesToday_1 : decode (mX6_doesToday).2.1 1 = .ok (.invokevirtual 169, 3) := by decide +kernel
theorem dX6_doesToday_4 : decode (mX6_doesToday).2.1 4 = .ok (.istore_n 2, 1) := by decide +kernel
theorem dX6_doesToday_5 : decode (mX6_doesToday).2.1 5 = .ok (.aload_n 1, 1) := by decide +kernel
theorem dX6_doesToday_6 : decode (mX6_doesToday).2.1 6 = .ok (.aload_n 0, 1) := by decide +kernel
theorem dX6_doesToday_7 : decode (mX6_doesToday).2.1 7 = .ok (.getfield 74, 3) := by decide +kernel
theorem dX6_doesToday_10 : decode (mX6_doesToday).2.1 10 = .ok (.iload_n 2, 1) := by decide +kernel
theorem dX6_doesToday_11 : decode (mX6_doesToday).2.1 11 = .ok (.invokevirtual 172, 3) := by decide +kernel
theorem dX6_doesToday_14 : decode (mX6_doesToday).2.1 14 = .ok (.aload_n 0, 1) := by decide +kernel
theorem dX6_doesToday_15 : decode (mX6_doesToday).2.1 15 = .ok (.getfield 74, 3) := by decide +kernel
theorem dX6_doesToday_18 : decode (mX6_doesToday).2.1 18 = .ok (.getfield 175, 3) := by decide +kernel
theorem dX6_doesToday_21 : decode (mX6_doesToday).2.1 21 = .ok (.aload_n 0, 1) := by decide +kernel
theorem dX6_doesToday_22 : decode (mX6_doesToday).2.1 22 = .ok (.getfield 74, 3) := by decide +kernel
theorem dX6_doesToday_25 : decode (mX6_doesToday).2.1 25 = .ok (.iconst 0, 1) := by decide +kernel
theorem dX6_doesToday_26 : decode (mX6_doesToday).2.1 26 = .ok (.iload_n 2, 1) := by decide +kernel
theorem dX6_doesToday_27 : decode (mX6_doesToday).2.1 27 = .ok (.aload_n 1, 1) := by decide +kernel
theorem dX6_doesToday_28 : decode (mX6_doesToday).2.1 28 = .ok (.getfield 110, 3) := by decide +kernel
theorem dX6_doesToday_31 : decode (mX6_doesToday).2.1 31 = .ok (.invokevirtual 115, 3) := by decide +kernel
theorem dX6_doesToday_34 : decode (mX6_doesToday).2.1 34 = .ok (.invokevirtual 178, 3) := by decide +kernel
theorem dX6_doesToday_37 : decode (mX6_doesToday).2.1 37 = .ok (.ireturn, 1) := by decide +kernel
theorem dX6_feed_0 : decode (mX6_feed).2.1 0 = .ok (.iload_n 1, 1) := by decide +kernel
theorem dX6_feed_1 : decode (mX6_feed).2.1 1 = .ok (.iconst 0, 1) := by decide +kernel
theorem dX6_feed_2 : decode (mX6_feed).2.1 2 = .ok (.sipush 255, 3) := by decide +kernel
theorem dX6_feed_5 : decode (mX6_feed).2.1 5 = .ok (.invokestatic 91, 3) := by decide +kernel
theorem dX6_feed_8 : decode (mX6_feed).2.1 8 = .ok (.ifCond .ne 6, 3) := by decide +kernel
theorem dX6_feed_11 : decode (mX6_feed).2.1 11 = .ok (.bipush (-2), 2) := by decide +kernel
theorem dX6_feed_13 : decode (mX6_feed).2.1 13 = .ok (.ireturn, 1) := by decide +kernel
theorem dX6_feed_14 : decode (mX6_feed).2.1 14 = .ok (.aload_n 0, 1) := by decide +kernel
theorem dX6_feed_15 : decode (mX6_feed).2.1 15 = .ok (.getfield 19, 3) := by decide +kernel
theorem dX6_feed_18 : decode (mX6_feed).2.1 18 = .ok (.iload_n 1, 1) := by decide +kernel
theorem dX6_feed_19 : decode (mX6_feed).2.1 19 = .ok (.invokevirtual 55, 3) := by decide +kernel
theorem dX6_feed_22 : decode (mX6_feed).2.1 22 = .ok (.ifCond .eq 13, 3) := by decide +kernel
theorem dX6_feed_25 : decode (mX6_feed).2.1 25 = .ok (.aload_n 0, 1) := by decide +kernel
theorem dX6_feed_26 : decode (mX6_feed).2.1 26 = .ok (.getfield 19, 3) := by decide +kernel
theorem dX6_feed_29 : decode (mX6_feed).2.1 29 = .ok (.getfield 62, 3) := by decide +kernel
theorem dX6_feed_32 : decode (mX6_feed).2.1 32 = .ok (.goto 5, 3) := by decide +kernel
theorem dX6_feed_35 : decode (mX6_feed).2.1 35 = .ok (.bipush (-4), 2) := by decide +kernel
theorem dX6_feed_37 : decode (mX6_feed).2.1 37 = .ok (.ireturn, 1) := by decide +kernel
theorem dX6_text_0 : decode (mX6_text).2.1 0 = .ok (.aload_n 0, 1) := by decide +kernel
theorem dX6_text_1 : decode (mX6_text).2.1 1 = .ok (.getfield 35, 3) := by decide +kernel
theorem dX6_text_4 : decode (mX6_text).2.1 4 = .ok (.bipush 6, 2) := by decide +kernel
theorem dX6_text_6 : decode (mX6_text).2.1 6 = .ok (.if_icmp .lt 6, 3) := by decide +kernel
theorem dX6_text_9 : decode (mX6_text).2.1 9 = .ok (.bipush (-4), 2) := by decide +kernel
theorem dX6_text_11 : decode (mX6_text).2.1 11 = .ok (.ireturn, 1) := by decide +kernel
theorem dX6_text_12 : decode (mX6_text).2.1 12 = .ok (.aload_n 0, 1) := by decide +kernel
theorem dX6_text_13 : decode (mX6_text).2.1 13 = .ok (.getfield 19, 3) := by decide +kernel
theorem dX6_text_16 : decode (mX6_text).2.1 16 = .ok (.invokevirtual 59, 3) := by decide +kernel
theorem dX6_text_19 : decode (mX6_text).2.1 19 = .ok (.aload_n 0, 1) := by decide +kernel
theorem dX6_text_20 : decode (mX6_text).2.1 20 = .ok (.getfield 19, 3) := by decide +kernel
theorem dX6_text_23 : decode (mX6_text).2.1 23 = .ok (.iconst 0, 1) := by decide +kernel
theorem dX6_text_24 : decode (mX6_text).2.1 24 = .ok (.putfield 62, 3) := by decide +kernel
theorem dX6_text_27 : decode (mX6_text).2.1 27 = .ok (.aload_n 0, 1) := by decide +kernel
theorem dX6_text_28 : decode (mX6_text).2.1 28 = .ok (.getfield 19, 3) := by decide +kernel
theorem dX6_text_31 : decode (mX6_text).2.1 31 = .ok (.getfield 181, 3) := by decide +kernel
theorem dX6_text_34 : decode (mX6_text).2.1 34 = .ok (.ifCond .lt 14, 3) := by decide +kernel
theorem dX6_text_37 : decode (mX6_text).2.1 37 = .ok (.bipush (-100), 2) := by decide +kernel
theorem dX6_text_39 : decode (mX6_text).2.1 39 = .ok (.aload_n 0, 1) := by decide +kernel
theorem dX6_text_40 : decode (mX6_text).2.1 40 = .ok (.getfield 19, 3) := by decide +kernel
theorem dX6_text_43 : decode (mX6_text).2.1 43 = .ok (.getfield 181, 3) := by decide +kernel
theorem dX6_text_46 : decode (mX6_text).2.1 46 = .ok (.isub, 1) := by decide +kernel
theorem dX6_text_47 : decode (mX6_text).2.1 47 = .ok (.ireturn, 1) := by decide +kernel
theorem dX6_text_48 : decode (mX6_text).2.1 48 = .ok (.aload_n 0, 1) := by decide +kernel
theorem dX6_text_49 : decode (mX6_text).2.1 49 = .ok (.getfield 35, 3) := by decide +kernel
theorem dX6_text_52 : decode (mX6_text).2.1 52 = .ok (.istore_n 1, 1) := by decide +kernel
theorem dX6_text_53 : decode (mX6_text).2.1 53 = .ok (.aload_n 0, 1) := by decide +kernel
theorem dX6_text_54 : decode (mX6_text).2.1 54 = .ok (.getfield 25, 3) := by decide +kernel
theorem dX6_text_57 : decode (mX6_text).2.1 57 = .ok (.iload_n 1, 1) := by decide +kernel
theorem dX6_text_58 : decode (mX6_text).2.1 58 = .ok (.aload_n 0, 1) := by decide +kernel
theorem dX6_text_59 : decode (mX6_text).2.1 59 = .ok (.getfield 19, 3) := by decide +kernel
theorem dX6_text_62 : decode (mX6_text).2.1 62 = .ok (.iload_n 1, 1) := by decide +kernel
theorem dX6_text_63 : decode (mX6_text).2.1 63 = .ok (.invokevirtual 65, 3) := by decide +kernel
theorem dX6_text_66 : decode (mX6_text).2.1 66 = .ok (.aastore, 1) := by decide +kernel
theorem dX6_text_67 : decode (mX6_text).2.1 67 = .ok (.aload_n 0, 1) := by decide +kernel
theorem dX6_text_68 : decode (mX6_text).2.1 68 = .ok (.dup, 1) := by decide +kernel
theorem dX6_text_69 : decode (mX6_text).2.1 69 = .ok (.getfield 35, 3) := by decide +kernel
theorem dX6_text_72 : decode (mX6_text).2.1 72 = .ok (.iconst 1, 1) := by decide +kernel
theorem dX6_text_73 : decode (mX6_text).2.1 73 = .ok (.iadd, 1) := by decide +kernel
theorem dX6_text_74 : decode (mX6_text).2.1 74 = .ok (.putfield 35, 3) := by decide +kernel
theorem dX6_text_77 : decode (mX6_text).2.1 77 = .ok (.iload_n 1, 1) := by decide +kernel
theorem dX6_text_78 : decode (mX6_text).2.1 78 = .ok (.ireturn, 1) := by decide +kernel
theorem dX6_force_0 : decode (mX6_force).2.1 0 = .ok (.iload_n 1, 1) := by decide +kernel
theorem dX6_force_1 : decode (mX6_force).2.1 1 = .ok (.iconst 0, 1) := by decide +kernel
theorem dX6_force_2 : decode (mX6_force).2.1 2 = .ok (.aload_n 0, 1) := by decide +kernel
theorem dX6_force_3 : decode (mX6_force).2.1 3 = .ok (.getfield 35, 3) := by decide +kernel
theorem dX6_force_6 : decode (mX6_force).2.1 6 = .ok (.iconst 1, 1) := by decide +kernel
theorem dX6_force_7 : decode (mX6_force).2.1 7 = .ok (.isub, 1) := by decide +kernel
theorem dX6_force_8 : decode (mX6_force).2.1 8 = .ok (.invokestatic 91, 3) := by decide +kernel
theorem dX6_force_11 : decode (mX6_force).2.1 11 = .ok (.ifCond .ne 6, 3) := by decide +kernel
theorem dX6_force_14 : decode (mX6_force).2.1 14 = .ok (.bipush (-2), 2) := by decide +kernel
theorem dX6_force_16 : decode (mX6_force).2.1 16 = .ok (.ireturn, 1) := by decide +kernel
theorem dX6_force_17 : decode (mX6_force).2.1 17 = .ok (.aload_n 0, 1) := by decide +kernel
theorem dX6_force_18 : decode (mX6_force).2.1 18 = .ok (.getfield 25, 3) := by decide +kernel
theorem dX6_force_21 : decode (mX6_force).2.1 21 = .ok (.iload_n 1, 1) := by decide +kernel
theorem dX6_force_22 : decode (mX6_force).2.1 22 = .ok (.aaload, 1) := by decide +kernel
theorem dX6_force_23 : decode (mX6_force).2.1 23 = .ok (.astore_n 2, 1) := by decide +kernel
theorem dX6_force_24 : decode (mX6_force).2.1 24 = .ok (.aload_n 2, 1) := by decide +kernel
theorem dX6_force_25 : decode (mX6_force).2.1 25 = .ok (.ifnonnull 6, 3) := by decide +kernel
theorem dX6_force_28 : decode (mX6_force).2.1 28 = .ok (.bipush (-2), 2) := by decide +kernel
theorem dX6_force_30 : decode (mX6_force).2.1 30 = .ok (.ireturn, 1) := by decide +kernel
theorem dX6_force_31 : decode (mX6_force).2.1 31 = .ok (.aload_n 0, 1) := by decide +kernel
theorem dX6_force_32 : decode (mX6_force).2.1 32 = .ok (.getfield 74, 3) := by decide +kernel
theorem dX6_force_35 : decode (mX6_force).2.1 35 = .ok (.getfield 184, 3) := by decide +kernel
theorem dX6_force_38 : decode (mX6_force).2.1 38 = .ok (.getfield 188, 3) := by decide +kernel
theorem dX6_force_41 : decode (mX6_force).2.1 41 = .ok (.istore_n 3, 1) := by decide +kernel
theorem dX6_force_42 : decode (mX6_force).2.1 42 = .ok (.aload_n 0, 1) := by decide +kernel
theorem dX6_force_43 : decode (mX6_force).2.1 43 = .ok (.getfield 74, 3) := by decide +kernel
theorem dX6_force_46 : decode (mX6_force).2.1 46 = .ok (.aload_n 2, 1) := by decide +kernel
theorem dX6_force_47 : decode (mX6_force).2.1 47 = .ok (.putfield 184, 3) := by decide +kernel
theorem dX6_force_50 : decode (mX6_force).2.1 50 = .ok (.iload_n 3, 1) := by decide +kernel
theorem dX6_force_51 : decode (mX6_force).2.1 51 = .ok (.ireturn, 1) := by decide +kernel
theorem dX6_day_0 : decode (mX6_day).2.1 0 = .ok (.aload_n 0, 1) := by decide +kernel
theorem dX6_day_1 : decode (mX6_day).2.1 1 = .ok (.getfield 74, 3) := by decide +kernel
theorem dX6_day_4 : decode (mX6_day).2.1 4 = .ok (.invokevirtual 189, 3) := by decide +kernel
theorem dX6_day_7 : decode (mX6_day).2.1 7 = .ok (.aload_n 0, 1) := by decide +kernel
theorem dX6_day_8 : decode (mX6_day).2.1 8 = .ok (.getfield 74, 3) := by decide +kernel
theorem dX6_day_11 : decode (mX6_day).2.1 11 = .ok (.iconst (-1), 1) := by decide +kernel
theorem dX6_day_12 : decode (mX6_day).2.1 12 = .ok (.invokevirtual 192, 3) := by decide +kernel
theorem dX6_day_15 : decode (mX6_day).2.1 15 = .ok (.aload_n 0, 1) := by decide +kernel
theorem dX6_day_16 : decode (mX6_day).2.1 16 = .ok (.getfield 74, 3) := by decide +kernel
theorem dX6_day_19 : decode (mX6_day).2.1 19 = .ok (.invokevirtual 159, 3) := by decide +kernel
theorem dX6_day_22 : decode (mX6_day).2.1 22 = .ok (.ireturn, 1) := by decide +kernel
theorem dX6_run_0 : decode (mX6_run).2.1 0 = .ok (.iload_n 1, 1) := by decide +kernel
theorem dX6_run_1 : decode (mX6_run).2.1 1 = .ok (.iconst 0, 1) := by decide +kernel
theorem dX6_run_2 : decode (mX6_run).2.1 2 = .ok (.iconst 5, 1) := by decide +kernel
theorem dX6_run_3 : decode (mX6_run).2.1 3 = .ok (.invokestatic 91, 3) := by decide +kernel
theorem dX6_run_6 : decode (mX6_run).2.1 6 = .ok (.ifCond .ne 6, 3) := by decide +kernel
theorem dX6_run_9 : decode (mX6_run).2.1 9 = .ok (.ldc 196, 2) := by decide +kernel
theorem dX6_run_11 : decode (mX6_run).2.1 11 = .ok (.ireturn, 1) := by decide +kernel
theorem dX6_run_12 : decode (mX6_run).2.1 12 = .ok (.aload_n 0, 1) := by decide +kernel
theorem dX6_run_13 : decode (mX6_run).2.1 13 = .ok (.getfield 84, 3) := by decide +kernel
theorem dX6_run_16 : decode (mX6_run).2.1 16 = .ok (.aload_n 0, 1) := by decide +kernel
theorem dX6_run_17 : decode (mX6_run).2.1 17 = .ok (.getfield 74, 3) := by decide +kernel
theorem dX6_run_20 : decode (mX6_run).2.1 20 = .ok (.invokevirtual 197, 3) := by decide +kernel
theorem dX6_run_23 : decode (mX6_run).2.1 23 = .ok (.aload_n 0, 1) := by decide +kernel
theorem dX6_run_24 : decode (mX6_run).2.1 24 = .ok (.getfield 84, 3) := by decide +kernel
theorem dX6_run_27 : decode (mX6_run).2.1 27 = .ok (.iconst (-1), 1) := by decide +kernel
theorem dX6_run_28 : decode (mX6_run).2.1 28 = .ok (.iconst 0, 1) := by decide +kernel
theorem dX6_run_29 : decode (mX6_run).2.1 29 = .ok (.invokevirtual 201, 3) := by decide +kernel
theorem dX6_run_32 : decode (mX6_run).2.1 32 = .ok (.istore_n 2, 1) := by decide +kernel
theorem dX6_run_33 : decode (mX6_run).2.1 33 = .ok (.iload_n 1, 1) := by decide +kernel
theorem dX6_run_34 : decode (mX6_run).2.1 34 = .ok (.tableswitch 77 0 4 #[34, 36, 47, 58, 69], 34) := by decide +kernel
theorem dX6_run_68 : decode (mX6_run).2.1 68 = .ok (.iload_n 2, 1) := by decide +kernel
theorem dX6_run_69 : decode (mX6_run).2.1 69 = .ok (.ireturn, 1) := by decide +kernel
theorem dX6_run_70 : decode (mX6_run).2.1 70 = .ok (.aload_n 0, 1) := by decide +kernel
theorem dX6_run_71 : decode (mX6_run).2.1 71 = .ok (.getfield 84, 3) := by decide +kernel
theorem dX6_run_74 : decode (mX6_run).2.1 74 = .ok (.getfield 106, 3) := by decide +kernel
theorem dX6_run_77 : decode (mX6_run).2.1 77 = .ok (.getfield 147, 3) := by decide +kernel
theorem dX6_run_80 : decode (mX6_run).2.1 80 = .ok (.ireturn, 1) := by decide +kernel
theorem dX6_run_81 : decode (mX6_run).2.1 81 = .ok (.aload_n 0, 1) := by decide +kernel
theorem dX6_run_82 : decode (mX6_run).2.1 82 = .ok (.getfield 84, 3) := by decide +kernel
theorem dX6_run_85 : decode (mX6_run).2.1 85 = .ok (.getfield 106, 3) := by decide +kernel
theorem dX6_run_88 : decode (mX6_run).2.1 88 = .ok (.invokevirtual 205, 3) := by decide +kernel
theorem dX6_run_91 : decode (mX6_run).2.1 91 = .ok (.ireturn, 1) := by decide +kernel
theorem dX6_run_92 : decode (mX6_run).2.1 92 = .ok (.aload_n 0, 1) := by decide +kernel
theorem dX6_run_93 : decode (mX6_run).2.1 93 = .ok (.getfield 84, 3) := by decide +kernel
theorem dX6_run_96 : decode (mX6_run).2.1 96 = .ok (.getfield 208, 3) := by decide +kernel
theorem dX6_run_99 : decode (mX6_run).2.1 99 = .ok (.invokevirtual 205, 3) := by decide +kernel
theorem dX6_run_102 : decode (mX6_run).2.1 102 = .ok (.ireturn, 1) := by decide +kernel
theorem dX6_run_103 : decode (mX6_run).2.1 103 = .ok (.aload_n 0, 1) := by decide +kernel
theorem dX6_run_104 : decode (mX6_run).2.1 104 = .ok (.getfield 84, 3) := by decide +kernel
theorem dX6_run_107 : decode (mX6_run).2.1 107 = .ok (.invokevirtual 211, 3) := by decide +kernel
theorem dX6_run_110 : decode (mX6_run).2.1 110 = .ok (.ireturn, 1) := by decide +kernel
theorem dX6_run_111 : decode (mX6_run).2.1 111 = .ok (.aload_n 0, 1) := by decide +kernel
theorem dX6_run_112 : decode (mX6_run).2.1 112 = .ok (.getfield 74, 3) := by decide +kernel
theorem dX6_run_115 : decode (mX6_run).2.1 115 = .ok (.invokevirtual 214, 3) := by decide +kernel
theorem dX6_run_118 : decode (mX6_run).2.1 118 = .ok (.aload_n 0, 1) := by decide +kernel
theorem dX6_run_119 : decode (mX6_run).2.1 119 = .ok (.getfield 84, 3) := by decide +kernel
theorem dX6_run_122 : decode (mX6_run).2.1 122 = .ok (.invokevirtual 211, 3) := by decide +kernel
theorem dX6_run_125 : decode (mX6_run).2.1 125 = .ok (.isub, 1) := by decide +kernel
theorem dX6_run_126 : decode (mX6_run).2.1 126 = .ok (.ireturn, 1) := by decide +kernel
theorem dX6_done_0 : decode (mX6_done).2.1 0 = .ok (.iload_n 1, 1) := by decide +kernel
theorem dX6_done_1 : decode (mX6_done).2.1 1 = .ok (.invokestatic 119, 3) := by decide +kernel
theorem dX6_done_4 : decode (mX6_done).2.1 4 = .ok (.ifCond .eq 14, 3) := by decide +kernel
theorem dX6_done_7 : decode (mX6_done).2.1 7 = .ok (.iload_n 2, 1) := by decide +kernel
theorem dX6_done_8 : decode (mX6_done).2.1 8 = .ok (.iconst 0, 1) := by decide +kernel
theorem dX6_done_9 : decode (mX6_done).2.1 9 = .ok (.sipush 300, 3) := by decide +kernel
theorem dX6_done_12 : decode (mX6_done).2.1 12 = .ok (.invokestatic 91, 3) := by decide +kernel
theorem dX6_done_15 : decode (mX6_done).2.1 15 = .ok (.ifCond .ne 6, 3) := by decide +kernel
theorem dX6_done_18 : decode (mX6_done).2.1 18 = .ok (.bipush (-2), 2) := by decide +kernel
theorem dX6_done_20 : decode (mX6_done).2.1 20 = .ok (.ireturn, 1) := by decide +kernel
theorem dX6_done_21 : decode (mX6_done).2.1 21 = .ok (.aload_n 0, 1) := by decide +kernel
theorem dX6_done_22 : decode (mX6_done).2.1 22 = .ok (.getfield 84, 3) := by decide +kernel
theorem dX6_done_25 : decode (mX6_done).2.1 25 = .ok (.aload_n 0, 1) := by decide +kernel
theorem dX6_done_26 : decode (mX6_done).2.1 26 = .ok (.getfield 74, 3) := by decide +kernel
theorem dX6_done_29 : decode (mX6_done).2.1 29 = .ok (.invokevirtual 197, 3) := by decide +kernel
theorem dX6_done_32 : decode (mX6_done).2.1 32 = .ok (.iconst 0, 1) := by decide +kernel
theorem dX6_done_33 : decode (mX6_done).2.1 33 = .ok (.istore_n 3, 1) := by decide +kernel
theorem dX6_done_34 : decode (mX6_done).2.1 34 = .ok (.iload_n 3, 1) := by decide +kernel
theorem dX6_done_35 : decode (mX6_done).2.1 35 = .ok (.iload_n 2, 1) := by decide +kernel
theorem dX6_done_36 : decode (mX6_done).2.1 36 = .ok (.if_icmp .ge 17, 3) := by decide +kernel
theorem dX6_done_39 : decode (mX6_done).2.1 39 = .ok (.aload_n 0, 1) := by decide +kernel
theorem dX6_done_40 : decode (mX6_done).2.1 40 = .ok (.getfield 84, 3) := by decide +kernel
theorem dX6_done_43 : decode (mX6_done).2.1 43 = .ok (.iconst (-1), 1) := by decide +kernel
theorem dX6_done_44 : decode (mX6_done).2.1 44 = .ok (.invokevirtual 192, 3) := by decide +kernel
theorem dX6_done_47 : decode (mX6_done).2.1 47 = .ok (.iinc 3 1, 3) := by decide +kernel
theorem dX6_done_50 : decode (mX6_done).2.1 50 = .ok (.goto (-16), 3) := by decide +kernel
theorem dX6_done_53 : decode (mX6_done).2.1 53 = .ok (.aload_n 0, 1) := by decide +kernel
theorem dX6_done_54 : decode (mX6_done).2.1 54 = .ok (.getfield 84, 3) := by decide +kernel
theorem dX6_done_57 : decode (mX6_done).2.1 57 = .ok (.iload_n 1, 1) := by decide +kernel
theorem dX6_done_58 : decode (mX6_done).2.1 58 = .ok (.invokevirtual 122, 3) := by decide +kernel
theorem dX6_done_61 : decode (mX6_done).2.1 61 = .ok (.getfield 147, 3) := by decide +kernel
theorem dX6_done_64 : decode (mX6_done).2.1 64 = .ok (.ireturn, 1) := by decide +kernel
theorem dX6_ease_0 : decode (mX6_ease).2.1 0 = .ok (.iload_n 1, 1) := by decide +kernel
theorem dX6_ease_1 : decode (mX6_ease).2.1 1 = .ok (.invokestatic 119, 3) := by decide +kernel
theorem dX6_ease_4 : decode (mX6_ease).2.1 4 = .ok (.ifCond .eq 12, 3) := by decide +kernel
theorem dX6_ease_7 : decode (mX6_ease).2.1 7 = .ok (.iload_n 2, 1) := by decide +kernel
theorem dX6_ease_8 : decode (mX6_ease).2.1 8 = .ok (.iconst 0, 1) := by decide +kernel
theorem dX6_ease_9 : decode (mX6_ease).2.1 9 = .ok (.iconst 1, 1) := by decide +kernel
theorem dX6_ease_10 : decode (mX6_ease).2.1 10 = .ok (.invokestatic 91, 3) := by decide +kernel
theorem dX6_ease_13 : decode (mX6_ease).2.1 13 = .ok (.ifCond .ne 6, 3) := by decide +kernel
theorem dX6_ease_16 : decode (mX6_ease).2.1 16 = .ok (.ldc 196, 2) := by decide +kernel
theorem dX6_ease_18 : decode (mX6_ease).2.1 18 = .ok (.ireturn, 1) := by decide +kernel
theorem dX6_ease_19 : decode (mX6_ease).2.1 19 = .ok (.aload_n 0, 1) := by decide +kernel
theorem dX6_ease_20 : decode (mX6_ease).2.1 20 = .ok (.getfield 10, 3) := by decide +kernel
theorem dX6_ease_23 : decode (mX6_ease).2.1 23 = .ok (.invokevirtual 217, 3) := by decide +kernel
theorem dX6_ease_26 : decode (mX6_ease).2.1 26 = .ok (.iconst 0, 1) := by decide +kernel
theorem dX6_ease_27 : decode (mX6_ease).2.1 27 = .ok (.istore_n 3, 1) := by decide +kernel
theorem dX6_ease_28 : decode (mX6_ease).2.1 28 = .ok (.iload_n 3, 1) := by decide +kernel
theorem dX6_ease_29 : decode (mX6_ease).2.1 29 = .ok (.bipush 10, 2) := by decide +kernel
theorem dX6_ease_31 : decode (mX6_ease).2.1 31 = .ok (.if_icmp .gt 49, 3) := by decide +kernel
theorem dX6_ease_34 : decode (mX6_ease).2.1 34 = .ok (.aload_n 0, 1) := by decide +kernel
theorem dX6_ease_35 : decode (mX6_ease).2.1 35 = .ok (.getfield 84, 3) := by decide +kernel
theorem dX6_ease_38 : decode (mX6_ease).2.1 38 = .ok (.aload_n 0, 1) := by decide +kernel
theorem dX6_ease_39 : decode (mX6_ease).2.1 39 = .ok (.getfield 74, 3) := by decide +kernel
theorem dX6_ease_42 : decode (mX6_ease).2.1 42 = .ok (.invokevirtual 197, 3) := by decide +kernel
theorem dX6_ease_45 : decode (mX6_ease).2.1 45 = .ok (.aload_n 0, 1) := by decide +kernel
theorem dX6_ease_46 : decode (mX6_ease).2.1 46 = .ok (.getfield 84, 3) := by decide +kernel
theorem dX6_ease_49 : decode (mX6_ease).2.1 49 = .ok (.iload_n 1, 1) := by decide +kernel
theorem dX6_ease_50 : decode (mX6_ease).2.1 50 = .ok (.iload_n 3, 1) := by decide +kernel
theorem dX6_ease_51 : decode (mX6_ease).2.1 51 = .ok (.invokevirtual 201, 3) := by decide +kernel
theorem dX6_ease_54 : decode (mX6_ease).2.1 54 = .ok (.pop, 1) := by decide +kernel
theorem dX6_ease_55 : decode (mX6_ease).2.1 55 = .ok (.aload_n 0, 1) := by decide +kernel
theorem dX6_ease_56 : decode (mX6_ease).2.1 56 = .ok (.getfield 10, 3) := by decide +kernel
theorem dX6_ease_59 : decode (mX6_ease).2.1 59 = .ok (.iload_n 3, 1) := by decide +kernel
theorem dX6_ease_60 : decode (mX6_ease).2.1 60 = .ok (.aload_n 0, 1) := by decide +kernel
theorem dX6_ease_61 : decode (mX6_ease).2.1 61 = .ok (.getfield 84, 3) := by decide +kernel
theorem dX6_ease_64 : decode (mX6_ease).2.1 64 = .ok (.iload_n 1, 1) := by decide +kernel
theorem dX6_ease_65 : decode (mX6_ease).2.1 65 = .ok (.invokevirtual 122, 3) := by decide +kernel
theorem dX6_ease_68 : decode (mX6_ease).2.1 68 = .ok (.invokevirtual 205, 3) := by decide +kernel
theorem dX6_ease_71 : decode (mX6_ease).2.1 71 = .ok (.invokevirtual 220, 3) := by decide +kernel
theorem dX6_ease_74 : decode (mX6_ease).2.1 74 = .ok (.iinc 3 1, 3) := by decide +kernel
theorem dX6_ease_77 : decode (mX6_ease).2.1 77 = .ok (.goto (-49), 3) := by decide +kernel
theorem dX6_ease_80 : decode (mX6_ease).2.1 80 = .ok (.iload_n 2, 1) := by decide +kernel
theorem dX6_ease_81 : decode (mX6_ease).2.1 81 = .ok (.ifCond .ne 13, 3) := by decide +kernel
theorem dX6_ease_84 : decode (mX6_ease).2.1 84 = .ok (.aload_n 0, 1) := by decide +kernel
theorem dX6_ease_85 : decode (mX6_ease).2.1 85 = .ok (.getfield 10, 3) := by decide +kernel
theorem dX6_ease_88 : decode (mX6_ease).2.1 88 = .ok (.getfield 224, 3) := by decide +kernel
theorem dX6_ease_91 : decode (mX6_ease).2.1 91 = .ok (.goto 10, 3) := by decide +kernel
theorem dX6_ease_94 : decode (mX6_ease).2.1 94 = .ok (.aload_n 0, 1) := by decide +kernel
theorem dX6_ease_95 : decode (mX6_ease).2.1 95 = .ok (.getfield 10, 3) := by decide +kernel
theorem dX6_ease_98 : decode (mX6_ease).2.1 98 = .ok (.getfield 227, 3) := by decide +kernel
theorem dX6_ease_101 : decode (mX6_ease).2.1 101 = .ok (.ireturn, 1) := by decide +kernel
theorem dX6_men_0 : decode (mX6_men).2.1 0 = .ok (.iload_n 1, 1) := by decide +kernel
theorem dX6_men_1 : decode (mX6_men).2.1 1 = .ok (.invokestatic 119, 3) := by decide +kernel
theorem dX6_men_4 : decode (mX6_men).2.1 4 = .ok (.ifCond .eq 12, 3) := by decide +kernel
theorem dX6_men_7 : decode (mX6_men).2.1 7 = .ok (.iload_n 2, 1) := by decide +kernel
theorem dX6_men_8 : decode (mX6_men).2.1 8 = .ok (.iconst 0, 1) := by decide +kernel
theorem dX6_men_9 : decode (mX6_men).2.1 9 = .ok (.iconst 1, 1) := by decide +kernel
theorem dX6_men_10 : decode (mX6_men).2.1 10 = .ok (.invokestatic 91, 3) := by decide +kernel
theorem dX6_men_13 : decode (mX6_men).2.1 13 = .ok (.ifCond .ne 6, 3) := by decide +kernel
theorem dX6_men_16 : decode (mX6_men).2.1 16 = .ok (.ldc 196, 2) := by decide +kernel
theorem dX6_men_18 : decode (mX6_men).2.1 18 = .ok (.ireturn, 1) := by decide +kernel
theorem dX6_men_19 : decode (mX6_men).2.1 19 = .ok (.aload_n 0, 1) := by decide +kernel
theorem dX6_men_20 : decode (mX6_men).2.1 20 = .ok (.aload_n 0, 1) := by decide +kernel
theorem dX6_men_21 : decode (mX6_men).2.1 21 = .ok (.getfield 74, 3) := by decide +kernel
theorem dX6_men_24 : decode (mX6_men).2.1 24 = .ok (.iload_n 1, 1) := by decide +kernel
theorem dX6_men_25 : decode (mX6_men).2.1 25 = .ok (.invokevirtual 229, 3) := by decide +kernel
theorem dX6_men_28 : decode (mX6_men).2.1 28 = .ok (.pop, 1) := by decide +kernel
theorem dX6_men_29 : decode (mX6_men).2.1 29 = .ok (.iload_n 2, 1) := by decide +kernel
theorem dX6_men_30 : decode (mX6_men).2.1 30 = .ok (.ifCond .ne 13, 3) := by decide +kernel
theorem dX6_men_33 : decode (mX6_men).2.1 33 = .ok (.aload_n 0, 1) := by decide +kernel
theorem dX6_men_34 : decode (mX6_men).2.1 34 = .ok (.getfield 10, 3) := by decide +kernel
theorem dX6_men_37 : decode (mX6_men).2.1 37 = .ok (.getfield 224, 3) := by decide +kernel
theorem dX6_men_40 : decode (mX6_men).2.1 40 = .ok (.goto 10, 3) := by decide +kernel
theorem dX6_men_43 : decode (mX6_men).2.1 43 = .ok (.aload_n 0, 1) := by decide +kernel
theorem dX6_men_44 : decode (mX6_men).2.1 44 = .ok (.getfield 10, 3) := by decide +kernel
theorem dX6_men_47 : decode (mX6_men).2.1 47 = .ok (.getfield 227, 3) := by decide +kernel
theorem dX6_men_50 : decode (mX6_men).2.1 50 = .ok (.ireturn, 1) := by decide +kernel
theorem dX6_seekMen_0 : decode (mX6_seekMen).2.1 0 = .ok (.aload_n 0, 1) := by decide +kernel
theorem dX6_seekMen_1 : decode (mX6_seekMen).2.1 1 = .ok (.getfield 84, 3) := by decide +kernel
theorem dX6_seekMen_4 : decode (mX6_seekMen).2.1 4 = .ok (.iload_n 2, 1) := by decide +kernel
theorem dX6_seekMen_5 : decode (mX6_seekMen).2.1 5 = .ok (.invokevirtual 122, 3) := by decide +kernel
theorem dX6_seekMen_8 : decode (mX6_seekMen).2.1 8 = .ok (.astore_n 3, 1) := by decide +kernel
theorem dX6_seekMen_9 : decode (mX6_seekMen).2.1 9 = .ok (.aload_n 1, 1) := by decide +kernel
theorem dX6_seekMen_10 : decode (mX6_seekMen).2.1 10 = .ok (.iload_n 2, 1) := by decide +kernel
theorem dX6_seekMen_11 : decode (mX6_seekMen).2.1 11 = .ok (.invokevirtual 122, 3) := by decide +kernel
theorem dX6_seekMen_14 : decode (mX6_seekMen).2.1 14 = .ok (.getfield 110, 3) := by decide +kernel
theorem dX6_seekMen_17 : decode (mX6_seekMen).2.1 17 = .ok (.istore 4, 2) := by decide +kernel
theorem dX6_seekMen_19 : decode (mX6_seekMen).2.1 19 = .ok (.iconst 0, 1) := by decide +kernel
theorem dX6_seekMen_20 : decode (mX6_seekMen).2.1 20 = .ok (.istore 5, 2) := by decide +kernel
theorem dX6_seekMen_22 : decode (mX6_seekMen).2.1 22 = .ok (.aload_n 0, 1) := by decide +kernel
theorem dX6_seekMen_23 : decode (mX6_seekMen).2.1 23 = .ok (.getfield 10, 3) := by decide +kernel
theorem dX6_seekMen_26 : decode (mX6_seekMen).2.1 26 = .ok (.invokevirtual 217, 3) := by decide +kernel
theorem dX6_seekMen_29 : decode (mX6_seekMen).2.1 29 = .ok (.iconst 1, 1) := by decide +kernel
theorem dX6_seekMen_30 : decode (mX6_seekMen).2.1 30 = .ok (.istore 6, 2) := by decide +kernel
theorem dX6_seekMen_32 : decode (mX6_seekMen).2.1 32 = .ok (.iload 6, 2) := by decide +kernel
theorem dX6_seekMen_34 : decode (mX6_seekMen).2.1 34 = .ok (.bipush 30, 2) := by decide +kernel
theorem dX6_seekMen_36 : decode (mX6_seekMen).2.1 36 = .ok (.if_icmp .gt 59, 3) := by decide +kernel
theorem dX6_seekMen_39 : decode (mX6_seekMen).2.1 39 = .ok (.aload_n 0, 1) := by decide +kernel
theorem dX6_seekMen_40 : decode (mX6_seekMen).2.1 40 = .ok (.getfield 84, 3) := by decide +kernel
theorem dX6_seekMen_43 : decode (mX6_seekMen).2.1 43 = .ok (.aload_n 1, 1) := by decide +kernel
theorem dX6_seekMen_44 : decode (mX6_seekMen).2.1 44 = .ok (.invokevirtual 197, 3) := by decide +kernel
theorem dX6_seekMen_47 : decode (mX6_seekMen).2.1 47 = .ok (.aload_n 3, 1) := by decide +kernel
theorem dX6_seekMen_48 : decode (mX6_seekMen).2.1 48 = .ok (.iload 6, 2) := by decide +kernel
theorem dX6_seekMen_50 : decode (mX6_seekMen).2.1 50 = .ok (.putfield 110, 3) := by decide +kernel
theorem dX6_seekMen_53 : decode (mX6_seekMen).2.1 53 = .ok (.aload_n 0, 1) := by decide +kernel
theorem dX6_seekMen_54 : decode (mX6_seekMen).2.1 54 = .ok (.getfield 84, 3) := by decide +kernel
theorem dX6_seekMen_57 : decode (mX6_seekMen).2.1 57 = .ok (.iconst (-1), 1) := by decide +kernel
theorem dX6_seekMen_58 : decode (mX6_seekMen).2.1 58 = .ok (.iconst 0, 1) := by decide +kernel
theorem dX6_seekMen_59 : decode (mX6_seekMen).2.1 59 = .ok (.invokevirtual 201, 3) := by decide +kernel
theorem dX6_seekMen_62 : decode (mX6_seekMen).2.1 62 = .ok (.pop, 1) := by decide +kernel
theorem dX6_seekMen_63 : decode (mX6_seekMen).2.1 63 = .ok (.aload_n 0, 1) := by decide +kernel
theorem dX6_seekMen_64 : decode (mX6_seekMen).2.1 64 = .ok (.getfield 10, 3) := by decide +kernel
theorem dX6_seekMen_67 : decode (mX6_seekMen).2.1 67 = .ok (.iload 6, 2) := by decide +kernel
theorem dX6_seekMen_69 : decode (mX6_seekMen).2.1 69 = .ok (.aload_n 3, 1) := by decide +kernel
theorem dX6_seekMen_70 : decode (mX6_seekMen).2.1 70 = .ok (.invokevirtual 205, 3) := by decide +kernel
theorem dX6_seekMen_73 : decode (mX6_seekMen).2.1 73 = .ok (.invokevirtual 220, 3) := by decide +kernel
theorem dX6_seekMen_76 : decode (mX6_seekMen).2.1 76 = .ok (.iload 6, 2) := by decide +kernel
theorem dX6_seekMen_78 : decode (mX6_seekMen).2.1 78 = .ok (.iload 4, 2) := by decide +kernel
theorem dX6_seekMen_80 : decode (mX6_seekMen).2.1 80 = .ok (.if_icmp .ne 9, 3) := by decide +kernel
theorem dX6_seekMen_83 : decode (mX6_seekMen).2.1 83 = .ok (.aload_n 3, 1) := by decide +kernel
theorem dX6_seekMen_84 : decode (mX6_seekMen).2.1 84 = .ok (.invokevirtual 205, 3) := by decide +kernel
theorem dX6_seekMen_87 : decode (mX6_seekMen).2.1 87 = .ok (.istore 5, 2) := by decide +kernel
theorem dX6_seekMen_89 : decode (mX6_seekMen).2.1 89 = .ok (.iinc 6 1, 3) := by decide +kernel
theorem dX6_seekMen_92 : decode (mX6_seekMen).2.1 92 = .ok (.goto (-60), 3) := by decide +kernel
theorem dX6_seekMen_95 : decode (mX6_seekMen).2.1 95 = .ok (.iload 5, 2) := by decide +kernel
theorem dX6_seekMen_97 : decode (mX6_seekMen).2.1 97 = .ok (.ireturn, 1) := by decide +kernel
theorem dX6_quarrel_0 : decode (mX6_quarrel).2.1 0 = .ok (.iload_n 1, 1) := by decide +kernel
theorem dX6_quarrel_1 : decode (mX6_quarrel).2.1 1 = .ok (.iconst 0, 1) := by decide +kernel
theorem dX6_quarrel_2 : decode (mX6_quarrel).2.1 2 = .ok (.iconst 2, 1) := by decide +kernel
theorem dX6_quarrel_3 : decode (mX6_quarrel).2.1 3 = .ok (.invokestatic 91, 3) := by decide +kernel
theorem dX6_quarrel_6 : decode (mX6_quarrel).2.1 6 = .ok (.ifCond .ne 6, 3) := by decide +kernel
theorem dX6_quarrel_9 : decode (mX6_quarrel).2.1 9 = .ok (.bipush (-2), 2) := by decide +kernel
theorem dX6_quarrel_11 : decode (mX6_quarrel).2.1 11 = .ok (.ireturn, 1) := by decide +kernel
theorem dX6_quarrel_12 : decode (mX6_quarrel).2.1 12 = .ok (.aload_n 0, 1) := by decide +kernel
theorem dX6_quarrel_13 : decode (mX6_quarrel).2.1 13 = .ok (.getfield 81, 3) := by decide +kernel
theorem dX6_quarrel_16 : decode (mX6_quarrel).2.1 16 = .ok (.aload_n 0, 1) := by decide +kernel
theorem dX6_quarrel_17 : decode (mX6_quarrel).2.1 17 = .ok (.getfield 74, 3) := by decide +kernel
theorem dX6_quarrel_20 : decode (mX6_quarrel).2.1 20 = .ok (.invokevirtual 197, 3) := by decide +kernel
theorem dX6_quarrel_23 : decode (mX6_quarrel).2.1 23 = .ok (.iconst 0, 1) := by decide +kernel
theorem dX6_quarrel_24 : decode (mX6_quarrel).2.1 24 = .ok (.istore_n 2, 1) := by decide +kernel
theorem dX6_quarrel_25 : decode (mX6_quarrel).2.1 25 = .ok (.iconst 0, 1) := by decide +kernel
theorem dX6_quarrel_26 : decode (mX6_quarrel).2.1 26 = .ok (.istore_n 3, 1) := by decide +kernel
theorem dX6_quarrel_27 : decode (mX6_quarrel).2.1 27 = .ok (.iconst 0, 1) := by decide +kernel
theorem dX6_quarrel_28 : decode (mX6_quarrel).2.1 28 = .ok (.istore 4, 2) := by decide +kernel
theorem dX6_quarrel_30 : decode (mX6_quarrel).2.1 30 = .ok (.iload 4, 2) := by decide +kernel
theorem dX6_quarrel_32 : decode (mX6_quarrel).2.1 32 = .ok (.bipush 8, 2) := by decide +kernel
theorem dX6_quarrel_34 : decode (mX6_quarrel).2.1 34 = .ok (.if_icmp .ge 74, 3) := by decide +kernel
theorem dX6_quarrel_37 : decode (mX6_quarrel).2.1 37 = .ok (.iload_n 3, 1) := by decide +kernel
theorem dX6_quarrel_38 : decode (mX6_quarrel).2.1 38 = .ok (.iconst 2, 1) := by decide +kernel
theorem dX6_quarrel_39 : decode (mX6_quarrel).2.1 39 = .ok (.if_icmp .ge 69, 3) := by decide +kernel
theorem dX6_quarrel_42 : decode (mX6_quarrel).2.1 42 = .ok (.iload 4, 2) := by decide +kernel
theorem dX6_quarrel_44 : decode (mX6_quarrel).2.1 44 = .ok (.iconst 2, 1) := by decide +kernel
theorem dX6_quarrel_45 : decode (mX6_quarrel).2.1 45 = .ok (.irem, 1) := by decide +kernel
theorem dX6_quarrel_46 : decode (mX6_quarrel).2.1 46 = .ok (.istore 5, 2) := by decide +kernel
theorem dX6_quarrel_48 : decode (mX6_quarrel).2.1 48 = .ok (.aload_n 0, 1) := by decide +kernel
theorem dX6_quarrel_49 : decode (mX6_quarrel).2.1 49 = .ok (.aload_n 0, 1) := by decide +kernel
theorem dX6_quarrel_50 : decode (mX6_quarrel).2.1 50 = .ok (.getfield 81, 3) := by decide +kernel
theorem dX6_quarrel_53 : decode (mX6_quarrel).2.1 53 = .ok (.iload 5, 2) := by decide +kernel
theorem dX6_quarrel_55 : decode (mX6_quarrel).2.1 55 = .ok (.invokevirtual 229, 3) := by decide +kernel
theorem dX6_quarrel_58 : decode (mX6_quarrel).2.1 58 = .ok (.istore 6, 2) := by decide +kernel
theorem dX6_quarrel_60 : decode (mX6_quarrel).2.1 60 = .ok (.aload_n 0, 1) := by decide +kernel
theorem dX6_quarrel_61 : decode (mX6_quarrel).2.1 61 = .ok (.getfield 10, 3) := by decide +kernel
theorem dX6_quarrel_64 : decode (mX6_quarrel).2.1 64 = .ok (.getfield 227, 3) := by decide +kernel
theorem dX6_quarrel_67 : decode (mX6_quarrel).2.1 67 = .ok (.iload 6, 2) := by decide +kernel
theorem dX6_quarrel_69 : decode (mX6_quarrel).2.1 69 = .ok (.if_icmp .le 30, 3) := by decide +kernel
theorem dX6_quarrel_72 : decode (mX6_quarrel).2.1 72 = .ok (.aload_n 0, 1) := by decide +kernel
theorem dX6_quarrel_73 : decode (mX6_quarrel).2.1 73 = .ok (.getfield 81, 3) := by decide +kernel
theorem dX6_quarrel_76 : decode (mX6_quarrel).2.1 76 = .ok (.iload 5, 2) := by decide +kernel
theorem dX6_quarrel_78 : decode (mX6_quarrel).2.1 78 = .ok (.invokevirtual 122, 3) := by decide +kernel
theorem dX6_quarrel_81 : decode (mX6_quarrel).2.1 81 = .ok (.aload_n 0, 1) := by decide +kernel
theorem dX6_quarrel_82 : decode (mX6_quarrel).2.1 82 = .ok (.getfield 10, 3) := by decide +kernel
theorem dX6_quarrel_85 : decode (mX6_quarrel).2.1 85 = .ok (.getfield 224, 3) := by decide +kernel
theorem dX6_quarrel_88 : decode (mX6_quarrel).2.1 88 = .ok (.putfield 110, 3) := by decide +kernel
theorem dX6_quarrel_91 : decode (mX6_quarrel).2.1 91 = .ok (.iinc 2 1, 3) := by decide +kernel
theorem dX6_quarrel_94 : decode (mX6_quarrel).2.1 94 = .ok (.iconst 0, 1) := by decide +kernel
theorem dX6_quarrel_95 : decode (mX6_quarrel).2.1 95 = .ok (.istore_n 3, 1) := by decide +kernel
theorem dX6_quarrel_96 : decode (mX6_quarrel).2.1 96 = .ok (.goto 6, 3) := by decide +kernel
theorem dX6_quarrel_99 : decode (mX6_quarrel).2.1 99 = .ok (.iinc 3 1, 3) := by decide +kernel
theorem dX6_quarrel_102 : decode (mX6_quarrel).2.1 102 = .ok (.iinc 4 1, 3) := by decide +kernel
theorem dX6_quarrel_105 : decode (mX6_quarrel).2.1 105 = .ok (.goto (-75), 3) := by decide +kernel
theorem dX6_quarrel_108 : decode (mX6_quarrel).2.1 108 = .ok (.iload_n 1, 1) := by decide +kernel
theorem dX6_quarrel_109 : decode (mX6_quarrel).2.1 109 = .ok (.ifCond .ne 7, 3) := by decide +kernel
theorem dX6_quarrel_112 : decode (mX6_quarrel).2.1 112 = .ok (.iload_n 2, 1) := by decide +kernel
theorem dX6_quarrel_113 : decode (mX6_quarrel).2.1 113 = .ok (.goto 16, 3) := by decide +kernel
theorem dX6_quarrel_116 : decode (mX6_quarrel).2.1 116 = .ok (.aload_n 0, 1) := by decide +kernel
theorem dX6_quarrel_117 : decode (mX6_quarrel).2.1 117 = .ok (.getfield 81, 3) := by decide +kernel
theorem dX6_quarrel_120 : decode (mX6_quarrel).2.1 120 = .ok (.iload_n 1, 1) := by decide +kernel
theorem dX6_quarrel_121 : decode (mX6_quarrel).2.1 121 = .ok (.iconst 1, 1) := by decide +kernel
theorem dX6_quarrel_122 : decode (mX6_quarrel).2.1 122 = .ok (.isub, 1) := by decide +kernel
theorem dX6_quarrel_123 : decode (mX6_quarrel).2.1 123 = .ok (.invokevirtual 122, 3) := by decide +kernel
theorem dX6_quarrel_126 : decode (mX6_quarrel).2.1 126 = .ok (.getfield 110, 3) := by decide +kernel
theorem dX6_quarrel_129 : decode (mX6_quarrel).2.1 129 = .ok (.ireturn, 1) := by decide +kernel
theorem dX6_bore_0 : decode (mX6_bore).2.1 0 = .ok (.iload_n 1, 1) := by decide +kernel
theorem dX6_bore_1 : decode (mX6_bore).2.1 1 = .ok (.invokestatic 88, 3) := by decide +kernel
theorem dX6_bore_4 : decode (mX6_bore).2.1 4 = .ok (.ifCond .eq 21, 3) := by decide +kernel
theorem dX6_bore_7 : decode (mX6_bore).2.1 7 = .ok (.iload_n 2, 1) := by decide +kernel
theorem dX6_bore_8 : decode (mX6_bore).2.1 8 = .ok (.iconst 1, 1) := by decide +kernel
theorem dX6_bore_9 : decode (mX6_bore).2.1 9 = .ok (.bipush 24, 2) := by decide +kernel
theorem dX6_bore_11 : decode (mX6_bore).2.1 11 = .ok (.invokestatic 91, 3) := by decide +kernel
theorem dX6_bore_14 : decode (mX6_bore).2.1 14 = .ok (.ifCond .eq 11, 3) := by decide +kernel
theorem dX6_bore_17 : decode (mX6_bore).2.1 17 = .ok (.iload_n 1, 1) := by decide +kernel
theorem dX6_bore_18 : decode (mX6_bore).2.1 18 = .ok (.iload_n 2, 1) := by decide +kernel
theorem dX6_bore_19 : decode (mX6_bore).2.1 19 = .ok (.iadd, 1) := by decide +kernel
theorem dX6_bore_20 : decode (mX6_bore).2.1 20 = .ok (.bipush 24, 2) := by decide +kernel
theorem dX6_bore_22 : decode (mX6_bore).2.1 22 = .ok (.if_icmp .le 6, 3) := by decide +kernel
theorem dX6_bore_25 : decode (mX6_bore).2.1 25 = .ok (.bipush (-2), 2) := by decide +kernel
theorem dX6_bore_27 : decode (mX6_bore).2.1 27 = .ok (.ireturn, 1) := by decide +kernel
theorem dX6_bore_28 : decode (mX6_bore).2.1 28 = .ok (.iconst 0, 1) := by decide +kernel
theorem dX6_bore_29 : decode (mX6_bore).2.1 29 = .ok (.istore_n 3, 1) := by decide +kernel
theorem dX6_bore_30 : decode (mX6_bore).2.1 30 = .ok (.iload_n 1, 1) := by decide +kernel
theorem dX6_bore_31 : decode (mX6_bore).2.1 31 = .ok (.istore 4, 2) := by decide +kernel
theorem dX6_bore_33 : decode (mX6_bore).2.1 33 = .ok (.iload 4, 2) := by decide +kernel
theorem dX6_bore_35 : decode (mX6_bore).2.1 35 = .ok (.iload_n 1, 1) := by decide +kernel
theorem dX6_bore_36 : decode (mX6_bore).2.1 36 = .ok (.iload_n 2, 1) := by decide +kernel
theorem dX6_bore_37 : decode (mX6_bore).2.1 37 = .ok (.iadd, 1) := by decide +kernel
theorem dX6_bore_38 : decode (mX6_bore).2.1 38 = .ok (.if_icmp .ge 36, 3) := by decide +kernel
theorem dX6_bore_41 : decode (mX6_bore).2.1 41 = .ok (.aload_n 0, 1) := by decide +kernel
theorem dX6_bore_42 : decode (mX6_bore).2.1 42 = .ok (.getfield 74, 3) := by decide +kernel
theorem dX6_bore_45 : decode (mX6_bore).2.1 45 = .ok (.getfield 103, 3) := by decide +kernel
theorem dX6_bore_48 : decode (mX6_bore).2.1 48 = .ok (.iload 4, 2) := by decide +kernel
theorem dX6_bore_50 : decode (mX6_bore).2.1 50 = .ok (.iaload, 1) := by decide +kernel
theorem dX6_bore_51 : decode (mX6_bore).2.1 51 = .ok (.ifCond .ne 6, 3) := by decide +kernel
theorem dX6_bore_54 : decode (mX6_bore).2.1 54 = .ok (.iinc 3 1, 3) := by decide +kernel
theorem dX6_bore_57 : decode (mX6_bore).2.1 57 = .ok (.aload_n 0, 1) := by decide +kernel
theorem dX6_bore_58 : decode (mX6_bore).2.1 58 = .ok (.getfield 74, 3) := by decide +kernel
theorem dX6_bore_61 : decode (mX6_bore).2.1 61 = .ok (.getfield 103, 3) := by decide +kernel
theorem dX6_bore_64 : decode (mX6_bore).2.1 64 = .ok (.iload 4, 2) := by decide +kernel
theorem dX6_bore_66 : decode (mX6_bore).2.1 66 = .ok (.iconst 1, 1) := by decide +kernel
theorem dX6_bore_67 : decode (mX6_bore).2.1 67 = .ok (.iastore, 1) := by decide +kernel
theorem dX6_bore_68 : decode (mX6_bore).2.1 68 = .ok (.iinc 4 1, 3) := by decide +kernel
theorem dX6_bore_71 : decode (mX6_bore).2.1 71 = .ok (.goto (-38), 3) := by decide +kernel
theorem dX6_bore_74 : decode (mX6_bore).2.1 74 = .ok (.iload_n 3, 1) := by decide +kernel
theorem dX6_bore_75 : decode (mX6_bore).2.1 75 = .ok (.ireturn, 1) := by decide +kernel
theorem dX6_well_0 : decode (mX6_well).2.1 0 = .ok (.iload_n 1, 1) := by decide +kernel
theorem dX6_well_1 : decode (mX6_well).2.1 1 = .ok (.invokestatic 119, 3) := by decide +kernel
theorem dX6_well_4 : decode (mX6_well).2.1 4 = .ok (.ifCond .ne 6, 3) := by decide +kernel
theorem dX6_well_7 : decode (mX6_well).2.1 7 = .ok (.bipush (-2), 2) := by decide +kernel
theorem dX6_well_9 : decode (mX6_well).2.1 9 = .ok (.ireturn, 1) := by decide +kernel
theorem dX6_well_10 : decode (mX6_well).2.1 10 = .ok (.aload_n 0, 1) := by decide +kernel
theorem dX6_well_11 : decode (mX6_well).2.1 11 = .ok (.getfield 74, 3) := by decide +kernel
theorem dX6_well_14 : decode (mX6_well).2.1 14 = .ok (.iload_n 1, 1) := by decide +kernel
theorem dX6_well_15 : decode (mX6_well).2.1 15 = .ok (.invokevirtual 122, 3) := by decide +kernel
theorem dX6_well_18 : decode (mX6_well).2.1 18 = .ok (.invokevirtual 169, 3) := by decide +kernel
theorem dX6_well_21 : decode (mX6_well).2.1 21 = .ok (.istore_n 2, 1) := by decide +kernel
theorem dX6_well_22 : decode (mX6_well).2.1 22 = .ok (.iload_n 1, 1) := by decide +kernel
theorem dX6_well_23 : decode (mX6_well).2.1 23 = .ok (.ifCond .ne 7, 3) := by decide +kernel
theorem dX6_well_26 : decode (mX6_well).2.1 26 = .ok (.iconst 1, 1) := by decide +kernel
theorem dX6_well_27 : decode (mX6_well).2.1 27 = .ok (.goto 4, 3) := by decide +kernel
theorem dX6_well_30 : decode (mX6_well).2.1 30 = .ok (.iconst (-1), 1) := by decide +kernel
theorem dX6_well_31 : decode (mX6_well).2.1 31 = .ok (.istore_n 3, 1) := by decide +kernel
theorem dX6_well_32 : decode (mX6_well).2.1 32 = .ok (.aload_n 0, 1) := by decide +kernel
theorem dX6_well_33 : decode (mX6_well).2.1 33 = .ok (.getfield 74, 3) := by decide +kernel
theorem dX6_well_36 : decode (mX6_well).2.1 36 = .ok (.invokevirtual 159, 3) := by decide +kernel
theorem dX6_well_39 : decode (mX6_well).2.1 39 = .ok (.istore 4, 2) := by decide +kernel
theorem dX6_well_41 : decode (mX6_well).2.1 41 = .ok (.iconst 0, 1) := by decide +kernel
theorem dX6_well_42 : decode (mX6_well).2.1 42 = .ok (.istore 5, 2) := by decide +kernel
theorem dX6_well_44 : decode (mX6_well).2.1 44 = .ok (.iload 5, 2) := by decide +kernel
theorem dX6_well_46 : decode (mX6_well).2.1 46 = .ok (.iload 4, 2) := by decide +kernel
theorem dX6_well_48 : decode (mX6_well).2.1 48 = .ok (.if_icmp .ge 29, 3) := by decide +kernel
theorem dX6_well_51 : decode (mX6_well).2.1 51 = .ok (.aload_n 0, 1) := by decide +kernel
theorem dX6_well_52 : decode (mX6_well).2.1 52 = .ok (.getfield 74, 3) := by decide +kernel
theorem dX6_well_55 : decode (mX6_well).2.1 55 = .ok (.iload_n 2, 1) := by decide +kernel
theorem dX6_well_56 : decode (mX6_well).2.1 56 = .ok (.iload_n 3, 1) := by decide +kernel
theorem dX6_well_57 : decode (mX6_well).2.1 57 = .ok (.iload 5, 2) := by decide +kernel
theorem dX6_well_59 : decode (mX6_well).2.1 59 = .ok (.imul, 1) := by decide +kernel
theorem dX6_well_60 : decode (mX6_well).2.1 60 = .ok (.iadd, 1) := by decide +kernel
theorem dX6_well_61 : decode (mX6_well).2.1 61 = .ok (.invokevirtual 172, 3) := by decide +kernel
theorem dX6_well_64 : decode (mX6_well).2.1 64 = .ok (.iconst 2, 1) := by decide +kernel
theorem dX6_well_65 : decode (mX6_well).2.1 65 = .ok (.if_icmp .lt 6, 3) := by decide +kernel
theorem dX6_well_68 : decode (mX6_well).2.1 68 = .ok (.iload 5, 2) := by decide +kernel
theorem dX6_well_70 : decode (mX6_well).2.1 70 = .ok (.ireturn, 1) := by decide +kernel
theorem dX6_well_71 : decode (mX6_well).2.1 71 = .ok (.iinc 5 1, 3) := by decide +kernel
theorem dX6_well_74 : decode (mX6_well).2.1 74 = .ok (.goto (-30), 3) := by decide +kernel
theorem dX6_well_77 : decode (mX6_well).2.1 77 = .ok (.iconst (-1), 1) := by decide +kernel
theorem dX6_well_78 : decode (mX6_well).2.1 78 = .ok (.ireturn, 1) := by decide +kernel
theorem dX6_slowed_0 : decode (mX6_slowed).2.1 0 = .ok (.aload_n 0, 1) := by decide +kernel
theorem dX6_slowed_1 : decode (mX6_slowed).2.1 1 = .ok (.iload_n 2, 1) := by decide +kernel
theorem dX6_slowed_2 : decode (mX6_slowed).2.1 2 = .ok (.invokevirtual 233, 3) := by decide +kernel
theorem dX6_slowed_5 : decode (mX6_slowed).2.1 5 = .ok (.astore_n 3, 1) := by decide +kernel
theorem dX6_slowed_6 : decode (mX6_slowed).2.1 6 = .ok (.iload_n 1, 1) := by decide +kernel
theorem dX6_slowed_7 : decode (mX6_slowed).2.1 7 = .ok (.invokestatic 119, 3) := by decide +kernel
theorem dX6_slowed_10 : decode (mX6_slowed).2.1 10 = .ok (.ifCond .eq 7, 3) := by decide +kernel
theorem dX6_slowed_13 : decode (mX6_slowed).2.1 13 = .ok (.aload_n 3, 1) := by decide +kernel
theorem dX6_slowed_14 : decode (mX6_slowed).2.1 14 = .ok (.ifnonnull 6, 3) := by decide +kernel
theorem dX6_slowed_17 : decode (mX6_slowed).2.1 17 = .ok (.bipush (-2), 2) := by decide +kernel
theorem dX6_slowed_19 : decode (mX6_slowed).2.1 19 = .ok (.ireturn, 1) := by decide +kernel
theorem dX6_slowed_20 : decode (mX6_slowed).2.1 20 = .ok (.aload_n 3, 1) := by decide +kernel
theorem dX6_slowed_21 : decode (mX6_slowed).2.1 21 = .ok (.invokevirtual 237, 3) := by decide +kernel
theorem dX6_slowed_24 : decode (mX6_slowed).2.1 24 = .ok (.ifCond .eq 6, 3) := by decide +kernel
theorem dX6_slowed_27 : decode (mX6_slowed).2.1 27 = .ok (.bipush (-11), 2) := by decide +kernel
theorem dX6_slowed_29 : decode (mX6_slowed).2.1 29 = .ok (.ireturn, 1) := by decide +kernel
theorem dX6_slowed_30 : decode (mX6_slowed).2.1 30 = .ok (.aload_n 0, 1) := by decide +kernel
theorem dX6_slowed_31 : decode (mX6_slowed).2.1 31 = .ok (.getfield 74, 3) := by decide +kernel
theorem dX6_slowed_34 : decode (mX6_slowed).2.1 34 = .ok (.iload_n 1, 1) := by decide +kernel
theorem dX6_slowed_35 : decode (mX6_slowed).2.1 35 = .ok (.invokevirtual 122, 3) := by decide +kernel
theorem dX6_slowed_38 : decode (mX6_slowed).2.1 38 = .ok (.invokevirtual 169, 3) := by decide +kernel
theorem dX6_slowed_41 : decode (mX6_slowed).2.1 41 = .ok (.istore 4, 2) := by decide +kernel
theorem dX6_slowed_43 : decode (mX6_slowed).2.1 43 = .ok (.aload_n 0, 1) := by decide +kernel
theorem dX6_slowed_44 : decode (mX6_slowed).2.1 44 = .ok (.getfield 74, 3) := by decide +kernel
theorem dX6_slowed_47 : decode (mX6_slowed).2.1 47 = .ok (.invokevirtual 159, 3) := by decide +kernel
theorem dX6_slowed_50 : decode (mX6_slowed).2.1 50 = .ok (.ifCond .eq 11, 3) := by decide +kernel
theorem dX6_slowed_53 : decode (mX6_slowed).2.1 53 = .ok (.iload 4, 2) := by decide +kernel
theorem dX6_slowed_55 : decode (mX6_slowed).2.1 55 = .ok (.invokestatic 88, 3) := by decide +kernel
theorem dX6_slowed_58 : decode (mX6_slowed).2.1 58 = .ok (.ifCond .ne 6, 3) := by decide +kernel
theorem dX6_slowed_61 : decode (mX6_slowed).2.1 61 = .ok (.bipush (-3), 2) := by decide +kernel
theorem dX6_slowed_63 : decode (mX6_slowed).2.1 63 = .ok (.ireturn, 1) := by decide +kernel
theorem dX6_slowed_64 : decode (mX6_slowed).2.1 64 = .ok (.iconst 0, 1) := by decide +kernel
theorem dX6_slowed_65 : decode (mX6_slowed).2.1 65 = .ok (.istore 5, 2) := by decide +kernel
theorem dX6_slowed_67 : decode (mX6_slowed).2.1 67 = .ok (.iconst 0, 1) := by decide +kernel
theorem dX6_slowed_68 : decode (mX6_slowed).2.1 68 = .ok (.istore 6, 2) := by decide +kernel
theorem dX6_slowed_70 : decode (mX6_slowed).2.1 70 = .ok (.iload 6, 2) := by decide +kernel
theorem dX6_slowed_72 : decode (mX6_slowed).2.1 72 = .ok (.iconst 3, 1) := by decide +kernel
theorem dX6_slowed_73 : decode (mX6_slowed).2.1 73 = .ok (.if_icmp .gt 50, 3) := by decide +kernel
theorem dX6_slowed_76 : decode (mX6_slowed).2.1 76 = .ok (.aload_n 0, 1) := by decide +kernel
theorem dX6_slowed_77 : decode (mX6_slowed).2.1 77 = .ok (.getfield 84, 3) := by decide +kernel
theorem dX6_slowed_80 : decode (mX6_slowed).2.1 80 = .ok (.aload_n 0, 1) := by decide +kernel
theorem dX6_slowed_81 : decode (mX6_slowed).2.1 81 = .ok (.getfield 74, 3) := by decide +kernel
theorem dX6_slowed_84 : decode (mX6_slowed).2.1 84 = .ok (.invokevirtual 197, 3) := by decide +kernel
theorem dX6_slowed_87 : decode (mX6_slowed).2.1 87 = .ok (.aload_n 0, 1) := by decide +kernel
theorem dX6_slowed_88 : decode (mX6_slowed).2.1 88 = .ok (.getfield 84, 3) := by decide +kernel
theorem dX6_slowed_91 : decode (mX6_slowed).2.1 91 = .ok (.getfield 99, 3) := by decide +kernel
theorem dX6_slowed_94 : decode (mX6_slowed).2.1 94 = .ok (.iload 4, 2) := by decide +kernel
theorem dX6_slowed_96 : decode (mX6_slowed).2.1 96 = .ok (.iload 6, 2) := by decide +kernel
theorem dX6_slowed_98 : decode (mX6_slowed).2.1 98 = .ok (.iastore, 1) := by decide +kernel
theorem dX6_slowed_99 : decode (mX6_slowed).2.1 99 = .ok (.aload_n 0, 1) := by decide +kernel
theorem dX6_slowed_100 : decode (mX6_slowed).2.1 100 = .ok (.aload_n 3, 1) := by decide +kernel
theorem dX6_slowed_101 : decode (mX6_slowed).2.1 101 = .ok (.iload_n 1, 1) := by decide +kernel
theorem dX6_slowed_102 : decode (mX6_slowed).2.1 102 = .ok (.invokevirtual 241, 3) := by decide +kernel
theorem dX6_slowed_105 : decode (mX6_slowed).2.1 105 = .ok (.ifCond .eq 12, 3) := by decide +kernel
theorem dX6_slowed_108 : decode (mX6_slowed).2.1 108 = .ok (.iload 5, 2) := by decide +kernel
theorem dX6_slowed_110 : decode (mX6_slowed).2.1 110 = .ok (.iconst 1, 1) := by decide +kernel
theorem dX6_slowed_111 : decode (mX6_slowed).2.1 111 = .ok (.iload 6, 2) := by decide +kernel
theorem dX6_slowed_113 : decode (mX6_slowed).2.1 113 = .ok (.ishl, 1) := by decide +kernel
theorem dX6_slowed_114 : decode (mX6_slowed).2.1 114 = .ok (.ior, 1) := by decide +kernel
theorem dX6_slowed_115 : decode (mX6_slowed).2.1 115 = .ok (.istore 5, 2) := by decide +kernel
theorem dX6_slowed_117 : decode (mX6_slowed).2.1 117 = .ok (.iinc 6 1, 3) := by decide +kernel
theorem dX6_slowed_120 : decode (mX6_slowed).2.1 120 = .ok (.goto (-50), 3) := by decide +kernel
theorem dX6_slowed_123 : decode (mX6_slowed).2.1 123 = .ok (.iload 5, 2) := by decide +kernel
theorem dX6_slowed_125 : decode (mX6_slowed).2.1 125 = .ok (.ireturn, 1) := by decide +kernel
theorem dX6_goesAs_0 : decode (mX6_goesAs).2.1 0 = .ok (.aload_n 0, 1) := by decide +kernel
theorem dX6_goesAs_1 : decode (mX6_goesAs).2.1 1 = .ok (.getfield 84, 3) := by decide +kernel
theorem dX6_goesAs_4 : decode (mX6_goesAs).2.1 4 = .ok (.iload_n 2, 1) := by decide +kernel
theorem dX6_goesAs_5 : decode (mX6_goesAs).2.1 5 = .ok (.invokevirtual 122, 3) := by decide +kernel
theorem dX6_goesAs_8 : decode (mX6_goesAs).2.1 8 = .ok (.astore_n 3, 1) := by decide +kernel
theorem dX6_goesAs_9 : decode (mX6_goesAs).2.1 9 = .ok (.iconst 0, 1) := by decide +kernel
theorem dX6_goesAs_10 : decode (mX6_goesAs).2.1 10 = .ok (.istore 4, 2) := by decide +kernel
theorem dX6_goesAs_12 : decode (mX6_goesAs).2.1 12 = .ok (.iload 4, 2) := by decide +kernel
theorem dX6_goesAs_14 : decode (mX6_goesAs).2.1 14 = .ok (.aload_n 1, 1) := by decide +kernel
theorem dX6_goesAs_15 : decode (mX6_goesAs).2.1 15 = .ok (.getfield 245, 3) := by decide +kernel
theorem dX6_goesAs_18 : decode (mX6_goesAs).2.1 18 = .ok (.if_icmp .ge 40, 3) := by decide +kernel
theorem dX6_goesAs_21 : decode (mX6_goesAs).2.1 21 = .ok (.iload 4, 2) := by decide +kernel
theorem dX6_goesAs_23 : decode (mX6_goesAs).2.1 23 = .ok (.bipush 40, 2) := by decide +kernel
theorem dX6_goesAs_25 : decode (mX6_goesAs).2.1 25 = .ok (.if_icmp .ge 33, 3) := by decide +kernel
theorem dX6_goesAs_28 : decode (mX6_goesAs).2.1 28 = .ok (.aload_n 0, 1) := by decide +kernel
theorem dX6_goesAs_29 : decode (mX6_goesAs).2.1 29 = .ok (.getfield 84, 3) := by decide +kernel
theorem dX6_goesAs_32 : decode (mX6_goesAs).2.1 32 = .ok (.iconst (-1), 1) := by decide +kernel
theorem dX6_goesAs_33 : decode (mX6_goesAs).2.1 33 = .ok (.invokevirtual 192, 3) := by decide +kernel
theorem dX6_goesAs_36 : decode (mX6_goesAs).2.1 36 = .ok (.aload_n 3, 1) := by decide +kernel
theorem dX6_goesAs_37 : decode (mX6_goesAs).2.1 37 = .ok (.getfield 147, 3) := by decide +kernel
theorem dX6_goesAs_40 : decode (mX6_goesAs).2.1 40 = .ok (.aload_n 1, 1) := by decide +kernel
theorem dX6_goesAs_41 : decode (mX6_goesAs).2.1 41 = .ok (.getfield 246, 3) := by decide +kernel
theorem dX6_goesAs_44 : decode (mX6_goesAs).2.1 44 = .ok (.iload 4, 2) := by decide +kernel
theorem dX6_goesAs_46 : decode (mX6_goesAs).2.1 46 = .ok (.iaload, 1) := by decide +kernel
theorem dX6_goesAs_47 : decode (mX6_goesAs).2.1 47 = .ok (.if_icmp .eq 5, 3) := by decide +kernel
theorem dX6_goesAs_50 : decode (mX6_goesAs).2.1 50 = .ok (.iconst 0, 1) := by decide +kernel
theorem dX6_goesAs_51 : decode (mX6_goesAs).2.1 51 = .ok (.ireturn, 1) := by decide +kernel
theorem dX6_goesAs_52 : decode (mX6_goesAs).2.1 52 = .ok (.iinc 4 1, 3) := by decide +kernel
theorem dX6_goesAs_55 : decode (mX6_goesAs).2.1 55 = .ok (.goto (-43), 3) := by decide +kernel
theorem dX6_goesAs_58 : decode (mX6_goesAs).2.1 58 = .ok (.iconst 1, 1) := by decide +kernel
theorem dX6_goesAs_59 : decode (mX6_goesAs).2.1 59 = .ok (.ireturn, 1) := by decide +kernel
theorem dX6_bet_0 : decode (mX6_bet).2.1 0 = .ok (.iload_n 1, 1) := by decide +kernel
theorem dX6_bet_1 : decode (mX6_bet).2.1 1 = .ok (.iconst 0, 1) := by decide +kernel
theorem dX6_bet_2 : decode (mX6_bet).2.1 2 = .ok (.bipush 24, 2) := by decide +kernel
theorem dX6_bet_4 : decode (mX6_bet).2.1 4 = .ok (.invokestatic 91, 3) := by decide +kernel
theorem dX6_bet_7 : decode (mX6_bet).2.1 7 = .ok (.ifCond .eq 23, 3) := by decide +kernel
theorem dX6_bet_10 : decode (mX6_bet).2.1 10 = .ok (.iload_n 2, 1) := by decide +kernel
theorem dX6_bet_11 : decode (mX6_bet).2.1 11 = .ok (.iconst 0, 1) := by decide +kernel
theorem dX6_bet_12 : decode (mX6_bet).2.1 12 = .ok (.bipush 24, 2) := by decide +kernel
theorem dX6_bet_14 : decode (mX6_bet).2.1 14 = .ok (.invokestatic 91, 3) := by decide +kernel
theorem dX6_bet_17 : decode (mX6_bet).2.1 17 = .ok (.ifCond .eq 13, 3) := by decide +kernel
theorem dX6_bet_20 : decode (mX6_bet).2.1 20 = .ok (.iload_n 3, 1) := by decide +kernel
theorem dX6_bet_21 : decode (mX6_bet).2.1 21 = .ok (.iconst 0, 1) := by decide +kernel
theorem dX6_bet_22 : decode (mX6_bet).2.1 22 = .ok (.bipush 24, 2) := by decide +kernel
theorem dX6_bet_24 : decode (mX6_bet).2.1 24 = .ok (.invokestatic 91, 3) := by decide +kernel
theorem dX6_bet_27 : decode (mX6_bet).2.1 27 = .ok (.ifCond .ne 6, 3) := by decide +kernel
theorem dX6_bet_30 : decode (mX6_bet).2.1 30 = .ok (.bipush (-2), 2) := by decide +kernel
theorem dX6_bet_32 : decode (mX6_bet).2.1 32 = .ok (.ireturn, 1) := by decide +kernel
theorem dX6_bet_33 : decode (mX6_bet).2.1 33 = .ok (.aload_n 0, 1) := by decide +kernel
theorem dX6_bet_34 : decode (mX6_bet).2.1 34 = .ok (.getfield 84, 3) := by decide +kernel
theorem dX6_bet_37 : decode (mX6_bet).2.1 37 = .ok (.aload_n 0, 1) := by decide +kernel
theorem dX6_bet_38 : decode (mX6_bet).2.1 38 = .ok (.getfield 74, 3) := by decide +kernel
theorem dX6_bet_41 : decode (mX6_bet).2.1 41 = .ok (.invokevirtual 197, 3) := by decide +kernel
theorem dX6_bet_44 : decode (mX6_bet).2.1 44 = .ok (.aload_n 0, 1) := by decide +kernel
theorem dX6_bet_45 : decode (mX6_bet).2.1 45 = .ok (.getfield 84, 3) := by decide +kernel
theorem dX6_bet_48 : decode (mX6_bet).2.1 48 = .ok (.iconst (-1), 1) := by decide +kernel
theorem dX6_bet_49 : decode (mX6_bet).2.1 49 = .ok (.iconst 0, 1) := by decide +kernel
theorem dX6_bet_50 : decode (mX6_bet).2.1 50 = .ok (.invokevirtual 201, 3) := by decide +kernel
theorem dX6_bet_53 : decode (mX6_bet).2.1 53 = .ok (.pop, 1) := by decide +kernel
theorem dX6_bet_54 : decode (mX6_bet).2.1 54 = .ok (.aload_n 0, 1) := by decide +kernel
theorem dX6_bet_55 : decode (mX6_bet).2.1 55 = .ok (.getfield 84, 3) := by decide +kernel
theorem dX6_bet_58 : decode (mX6_bet).2.1 58 = .ok (.getfield 106, 3) := by decide +kernel
theorem dX6_bet_61 : decode (mX6_bet).2.1 61 = .ok (.getfield 147, 3) := by decide +kernel
theorem dX6_bet_64 : decode (mX6_bet).2.1 64 = .ok (.istore 4, 2) := by decide +kernel
theorem dX6_bet_66 : decode (mX6_bet).2.1 66 = .ok (.aload_n 0, 1) := by decide +kernel
theorem dX6_bet_67 : decode (mX6_bet).2.1 67 = .ok (.getfield 10, 3) := by decide +kernel
theorem dX6_bet_70 : decode (mX6_bet).2.1 70 = .ok (.invokevirtual 217, 3) := by decide +kernel
theorem dX6_bet_73 : decode (mX6_bet).2.1 73 = .ok (.aload_n 0, 1) := by decide +kernel
theorem dX6_bet_74 : decode (mX6_bet).2.1 74 = .ok (.getfield 10, 3) := by decide +kernel
theorem dX6_bet_77 : decode (mX6_bet).2.1 77 = .ok (.iload_n 1, 1) := by decide +kernel
theorem dX6_bet_78 : decode (mX6_bet).2.1 78 = .ok (.iload_n 1, 1) := by decide +kernel
theorem dX6_bet_79 : decode (mX6_bet).2.1 79 = .ok (.iload 4, 2) := by decide +kernel
theorem dX6_bet_81 : decode (mX6_bet).2.1 81 = .ok (.isub, 1) := by decide +kernel
theorem dX6_bet_82 : decode (mX6_bet).2.1 82 = .ok (.invokestatic 249, 3) := by decide +kernel
theorem dX6_bet_85 : decode (mX6_bet).2.1 85 = .ok (.ineg, 1) := by decide +kernel
theorem dX6_bet_86 : decode (mX6_bet).2.1 86 = .ok (.invokevirtual 220, 3) := by decide +kernel
theorem dX6_bet_89 : decode (mX6_bet).2.1 89 = .ok (.aload_n 0, 1) := by decide +kernel
theorem dX6_bet_90 : decode (mX6_bet).2.1 90 = .ok (.getfield 10, 3) := by decide +kernel
theorem dX6_bet_93 : decode (mX6_bet).2.1 93 = .ok (.iload_n 2, 1) := by decide +kernel
theorem dX6_bet_94 : decode (mX6_bet).2.1 94 = .ok (.iload_n 2, 1) := by decide +kernel
theorem dX6_bet_95 : decode (mX6_bet).2.1 95 = .ok (.iload 4, 2) := by decide +kernel
theorem dX6_bet_97 : decode (mX6_bet).2.1 97 = .ok (.isub, 1) := by decide +kernel
theorem dX6_bet_98 : decode (mX6_bet).2.1 98 = .ok (.invokestatic 249, 3) := by decide +kernel
theorem dX6_bet_101 : decode (mX6_bet).2.1 101 = .ok (.ineg, 1) := by decide +kernel
theorem dX6_bet_102 : decode (mX6_bet).2.1 102 = .ok (.invokevirtual 220, 3) := by decide +kernel
theorem dX6_bet_105 : decode (mX6_bet).2.1 105 = .ok (.aload_n 0, 1) := by decide +kernel
theorem dX6_bet_106 : decode (mX6_bet).2.1 106 = .ok (.getfield 10, 3) := by decide +kernel
theorem dX6_bet_109 : decode (mX6_bet).2.1 109 = .ok (.iload_n 3, 1) := by decide +kernel
theorem dX6_bet_110 : decode (mX6_bet).2.1 110 = .ok (.iload_n 3, 1) := by decide +kernel
theorem dX6_bet_111 : decode (mX6_bet).2.1 111 = .ok (.iload 4, 2) := by decide +kernel
theorem dX6_bet_113 : decode (mX6_bet).2.1 113 = .ok (.isub, 1) := by decide +kernel
theorem dX6_bet_114 : decode (mX6_bet).2.1 114 = .ok (.invokestatic 249, 3) := by decide +kernel
theorem dX6_bet_117 : decode (mX6_bet).2.1 117 = .ok (.ineg, 1) := by decide +kernel
theorem dX6_bet_118 : decode (mX6_bet).2.1 118 = .ok (.invokevirtual 220, 3) := by decide +kernel
theorem dX6_bet_121 : decode (mX6_bet).2.1 121 = .ok (.aload_n 0, 1) := by decide +kernel
theorem dX6_bet_122 : decode (mX6_bet).2.1 122 = .ok (.getfield 10, 3) := by decide +kernel
theorem dX6_bet_125 : decode (mX6_bet).2.1 125 = .ok (.getfield 224, 3) := by decide +kernel
theorem dX6_bet_128 : decode (mX6_bet).2.1 128 = .ok (.ireturn, 1) := by decide +kernel
theorem dX6_soonest_0 : decode (mX6_soonest).2.1 0 = .ok (.iload_n 1, 1) := by decide +kernel
theorem dX6_soonest_1 : decode (mX6_soonest).2.1 1 = .ok (.iconst 0, 1) := by decide +kernel
theorem dX6_soonest_2 : decode (mX6_soonest).2.1 2 = .ok (.iconst 1, 1) := by decide +kernel
theorem dX6_soonest_3 : decode (mX6_soonest).2.1 3 = .ok (.invokestatic 91, 3) := by decide +kernel
theorem dX6_soonest_6 : decode (mX6_soonest).2.1 6 = .ok (.ifCond .ne 6, 3) := by decide +kernel
theorem dX6_soonest_9 : decode (mX6_soonest).2.1 9 = .ok (.bipush (-2), 2) := by decide +kernel
theorem dX6_soonest_11 : decode (mX6_soonest).2.1 11 = .ok (.ireturn, 1) := by decide +kernel
theorem dX6_soonest_12 : decode (mX6_soonest).2.1 12 = .ok (.aload_n 0, 1) := by decide +kernel
theorem dX6_soonest_13 : decode (mX6_soonest).2.1 13 = .ok (.getfield 10, 3) := by decide +kernel
theorem dX6_soonest_16 : decode (mX6_soonest).2.1 16 = .ok (.invokevirtual 217, 3) := by decide +kernel
theorem dX6_soonest_19 : decode (mX6_soonest).2.1 19 = .ok (.iconst 1, 1) := by decide +kernel
theorem dX6_soonest_20 : decode (mX6_soonest).2.1 20 = .ok (.istore_n 2, 1) := by decide +kernel
theorem dX6_soonest_21 : decode (mX6_soonest).2.1 21 = .ok (.iload_n 2, 1) := by decide +kernel
theorem dX6_soonest_22 : decode (mX6_soonest).2.1 22 = .ok (.bipush 20, 2) := by decide +kernel
theorem dX6_soonest_24 : decode (mX6_soonest).2.1 24 = .ok (.if_icmp .ge 63, 3) := by decide +kernel
theorem dX6_soonest_27 : decode (mX6_soonest).2.1 27 = .ok (.aload_n 0, 1) := by decide +kernel
theorem dX6_soonest_28 : decode (mX6_soonest).2.1 28 = .ok (.getfield 84, 3) := by decide +kernel
theorem dX6_soonest_31 : decode (mX6_soonest).2.1 31 = .ok (.aload_n 0, 1) := by decide +kernel
theorem dX6_soonest_32 : decode (mX6_soonest).2.1 32 = .ok (.getfield 74, 3) := by decide +kernel
theorem dX6_soonest_35 : decode (mX6_soonest).2.1 35 = .ok (.invokevirtual 197, 3) := by decide +kernel
theorem dX6_soonest_38 : decode (mX6_soonest).2.1 38 = .ok (.aload_n 0, 1) := by decide +kernel
theorem dX6_soonest_39 : decode (mX6_soonest).2.1 39 = .ok (.getfield 84, 3) := by decide +kernel
theorem dX6_soonest_42 : decode (mX6_soonest).2.1 42 = .ok (.getfield 106, 3) := by decide +kernel
theorem dX6_soonest_45 : decode (mX6_soonest).2.1 45 = .ok (.iload_n 2, 1) := by decide +kernel
theorem dX6_soonest_46 : decode (mX6_soonest).2.1 46 = .ok (.putfield 110, 3) := by decide +kernel
theorem dX6_soonest_49 : decode (mX6_soonest).2.1 49 = .ok (.aload_n 0, 1) := by decide +kernel
theorem dX6_soonest_50 : decode (mX6_soonest).2.1 50 = .ok (.getfield 84, 3) := by decide +kernel
theorem dX6_soonest_53 : decode (mX6_soonest).2.1 53 = .ok (.getfield 208, 3) := by decide +kernel
theorem dX6_soonest_56 : decode (mX6_soonest).2.1 56 = .ok (.bipush 20, 2) := by decide +kernel
theorem dX6_soonest_58 : decode (mX6_soonest).2.1 58 = .ok (.iload_n 2, 1) := by decide +kernel
theorem dX6_soonest_59 : decode (mX6_soonest).2.1 59 = .ok (.isub, 1) := by decide +kernel
theorem dX6_soonest_60 : decode (mX6_soonest).2.1 60 = .ok (.putfield 110, 3) := by decide +kernel
theorem dX6_soonest_63 : decode (mX6_soonest).2.1 63 = .ok (.aload_n 0, 1) := by decide +kernel
theorem dX6_soonest_64 : decode (mX6_soonest).2.1 64 = .ok (.getfield 10, 3) := by decide +kernel
theorem dX6_soonest_67 : decode (mX6_soonest).2.1 67 = .ok (.iload_n 2, 1) := by decide +kernel
theorem dX6_soonest_68 : decode (mX6_soonest).2.1 68 = .ok (.aload_n 0, 1) := by decide +kernel
theorem dX6_soonest_69 : decode (mX6_soonest).2.1 69 = .ok (.getfield 84, 3) := by decide +kernel
theorem dX6_soonest_72 : decode (mX6_soonest).2.1 72 = .ok (.iconst (-1), 1) := by decide +kernel
theorem dX6_soonest_73 : decode (mX6_soonest).2.1 73 = .ok (.iconst 0, 1) := by decide +kernel
theorem dX6_soonest_74 : decode (mX6_soonest).2.1 74 = .ok (.invokevirtual 201, 3) := by decide +kernel
theorem dX6_soonest_77 : decode (mX6_soonest).2.1 77 = .ok (.ineg, 1) := by decide +kernel
theorem dX6_soonest_78 : decode (mX6_soonest).2.1 78 = .ok (.invokevirtual 220, 3) := by decide +kernel
theorem dX6_soonest_81 : decode (mX6_soonest).2.1 81 = .ok (.iinc 2 1, 3) := by decide +kernel
theorem dX6_soonest_84 : decode (mX6_soonest).2.1 84 = .ok (.goto (-63), 3) := by decide +kernel
theorem dX6_soonest_87 : decode (mX6_soonest).2.1 87 = .ok (.iload_n 1, 1) := by decide +kernel
theorem dX6_soonest_88 : decode (mX6_soonest).2.1 88 = .ok (.ifCond .ne 13, 3) := by decide +kernel
theorem dX6_soonest_91 : decode (mX6_soonest).2.1 91 = .ok (.aload_n 0, 1) := by decide +kernel
theorem dX6_soonest_92 : decode (mX6_soonest).2.1 92 = .ok (.getfield 10, 3) := by decide +kernel
theorem dX6_soonest_95 : decode (mX6_soonest).2.1 95 = .ok (.getfield 224, 3) := by decide +kernel
theorem dX6_soonest_98 : decode (mX6_soonest).2.1 98 = .ok (.goto 11, 3) := by decide +kernel
theorem dX6_soonest_101 : decode (mX6_soonest).2.1 101 = .ok (.aload_n 0, 1) := by decide +kernel
theorem dX6_soonest_102 : decode (mX6_soonest).2.1 102 = .ok (.getfield 10, 3) := by decide +kernel
theorem dX6_soonest_105 : decode (mX6_soonest).2.1 105 = .ok (.getfield 227, 3) := by decide +kernel
theorem dX6_soonest_108 : decode (mX6_soonest).2.1 108 = .ok (.ineg, 1) := by decide +kernel
theorem dX6_soonest_109 : decode (mX6_soonest).2.1 109 = .ok (.ireturn, 1) := by decide +kernel
theorem dX6_cheapest_0 : decode (mX6_cheapest).2.1 0 = .ok (.iconst 0, 1) := by decide +kernel
theorem dX6_cheapest_1 : decode (mX6_cheapest).2.1 1 = .ok (.istore_n 1, 1) := by decide +kernel
theorem dX6_cheapest_2 : decode (mX6_cheapest).2.1 2 = .ok (.iload_n 1, 1) := by decide +kernel
theorem dX6_cheapest_3 : decode (mX6_cheapest).2.1 3 = .ok (.bipush 100, 2) := by decide +kernel
theorem dX6_cheapest_5 : decode (mX6_cheapest).2.1 5 = .ok (.if_icmp .gt 66, 3) := by decide +kernel
theorem dX6_cheapest_8 : decode (mX6_cheapest).2.1 8 = .ok (.aload_n 0, 1) := by decide +kernel
theorem dX6_cheapest_9 : decode (mX6_cheapest).2.1 9 = .ok (.getfield 84, 3) := by decide +kernel
theorem dX6_cheapest_12 : decode (mX6_cheapest).2.1 12 = .ok (.aload_n 0, 1) := by decide +kernel
theorem dX6_cheapest_13 : decode (mX6_cheapest).2.1 13 = .ok (.getfield 74, 3) := by decide +kernel
theorem dX6_cheapest_16 : decode (mX6_cheapest).2.1 16 = .ok (.invokevirtual 197, 3) := by decide +kernel
theorem dX6_cheapest_19 : decode (mX6_cheapest).2.1 19 = .ok (.aload_n 0, 1) := by decide +kernel
theorem dX6_cheapest_20 : decode (mX6_cheapest).2.1 20 = .ok (.getfield 84, 3) := by decide +kernel
theorem dX6_cheapest_23 : decode (mX6_cheapest).2.1 23 = .ok (.iload_n 1, 1) := by decide +kernel
theorem dX6_cheapest_24 : decode (mX6_cheapest).2.1 24 = .ok (.putfield 138, 3) := by decide +kernel
theorem dX6_cheapest_27 : decode (mX6_cheapest).2.1 27 = .ok (.aload_n 0, 1) := by decide +kernel
theorem dX6_cheapest_28 : decode (mX6_cheapest).2.1 28 = .ok (.getfield 84, 3) := by decide +kernel
theorem dX6_cheapest_31 : decode (mX6_cheapest).2.1 31 = .ok (.iconst (-1), 1) := by decide +kernel
theorem dX6_cheapest_32 : decode (mX6_cheapest).2.1 32 = .ok (.iconst 0, 1) := by decide +kernel
theorem dX6_cheapest_33 : decode (mX6_cheapest).2.1 33 = .ok (.invokevirtual 201, 3) := by decide +kernel
theorem dX6_cheapest_36 : decode (mX6_cheapest).2.1 36 = .ok (.pop, 1) := by decide +kernel
theorem dX6_cheapest_37 : decode (mX6_cheapest).2.1 37 = .ok (.aload_n 0, 1) := by decide +kernel
theorem dX6_cheapest_38 : decode (mX6_cheapest).2.1 38 = .ok (.getfield 84, 3) := by decide +kernel
theorem dX6_cheapest_41 : decode (mX6_cheapest).2.1 41 = .ok (.getfield 106, 3) := by decide +kernel
theorem dX6_cheapest_44 : decode (mX6_cheapest).2.1 44 = .ok (.invokevirtual 205, 3) := by decide +kernel
theorem dX6_cheapest_47 : decode (mX6_cheapest).2.1 47 = .ok (.ifCond .lt 18, 3) := by decide +kernel
theorem dX6_cheapest_50 : decode (mX6_cheapest).2.1 50 = .ok (.aload_n 0, 1) := by decide +kernel
theorem dX6_cheapest_51 : decode (mX6_cheapest).2.1 51 = .ok (.getfield 84, 3) := by decide +kernel
theorem dX6_cheapest_54 : decode (mX6_cheapest).2.1 54 = .ok (.getfield 208, 3) := by decide +kernel
theorem dX6_cheapest_57 : decode (mX6_cheapest).2.1 57 = .ok (.invokevirtual 205, 3) := by decide +kernel
theorem dX6_cheapest_60 : decode (mX6_cheapest).2.1 60 = .ok (.ifCond .lt 5, 3) := by decide +kernel
theorem dX6_cheapest_63 : decode (mX6_cheapest).2.1 63 = .ok (.iload_n 1, 1) := by decide +kernel
theorem dX6_cheapest_64 : decode (mX6_cheapest).2.1 64 = .ok (.ireturn, 1) := by decide +kernel
theorem dX6_cheapest_65 : decode (mX6_cheapest).2.1 65 = .ok (.iinc 1 5, 3) := by decide +kernel
theorem dX6_cheapest_68 : decode (mX6_cheapest).2.1 68 = .ok (.goto (-66), 3) := by decide +kernel
theorem dX6_cheapest_71 : decode (mX6_cheapest).2.1 71 = .ok (.iconst (-1), 1) := by decide +kernel
theorem dX6_cheapest_72 : decode (mX6_cheapest).2.1 72 = .ok (.ireturn, 1) := by decide +kernel
theorem dX6_drawn_0 : decode (mX6_drawn).2.1 0 = .ok (.aload_n 0, 1) := by decide +kernel
theorem dX6_drawn_1 : decode (mX6_drawn).2.1 1 = .ok (.getfield 84, 3) := by decide +kernel
theorem dX6_drawn_4 : decode (mX6_drawn).2.1 4 = .ok (.aload_n 0, 1) := by decide +kernel
theorem dX6_drawn_5 : decode (mX6_drawn).2.1 5 = .ok (.getfield 74, 3) := by decide +kernel
theorem dX6_drawn_8 : decode (mX6_drawn).2.1 8 = .ok (.invokevirtual 197, 3) := by decide +kernel
theorem dX6_drawn_11 : decode (mX6_drawn).2.1 11 = .ok (.iload_n 1, 1) := by decide +kernel
theorem dX6_drawn_12 : decode (mX6_drawn).2.1 12 = .ok (.istore_n 2, 1) := by decide +kernel
theorem dX6_drawn_13 : decode (mX6_drawn).2.1 13 = .ok (.iconst 0, 1) := by decide +kernel
theorem dX6_drawn_14 : decode (mX6_drawn).2.1 14 = .ok (.istore_n 3, 1) := by decide +kernel
theorem dX6_drawn_15 : decode (mX6_drawn).2.1 15 = .ok (.iload_n 3, 1) := by decide +kernel
theorem dX6_drawn_16 : decode (mX6_drawn).2.1 16 = .ok (.bipush 24, 2) := by decide +kernel
theorem dX6_drawn_18 : decode (mX6_drawn).2.1 18 = .ok (.if_icmp .ge 48, 3) := by decide +kernel
theorem dX6_drawn_21 : decode (mX6_drawn).2.1 21 = .ok (.aload_n 0, 1) := by decide +kernel
theorem dX6_drawn_22 : decode (mX6_drawn).2.1 22 = .ok (.getfield 74, 3) := by decide +kernel
theorem dX6_drawn_25 : decode (mX6_drawn).2.1 25 = .ok (.iload_n 3, 1) := by decide +kernel
theorem dX6_drawn_26 : decode (mX6_drawn).2.1 26 = .ok (.invokevirtual 95, 3) := by decide +kernel
theorem dX6_drawn_29 : decode (mX6_drawn).2.1 29 = .ok (.iconst (-1), 1) := by decide +kernel
theorem dX6_drawn_30 : decode (mX6_drawn).2.1 30 = .ok (.if_icmp .eq 6, 3) := by decide +kernel
theorem dX6_drawn_33 : decode (mX6_drawn).2.1 33 = .ok (.goto 27, 3) := by decide +kernel
theorem dX6_drawn_36 : decode (mX6_drawn).2.1 36 = .ok (.iload_n 2, 1) := by decide +kernel
theorem dX6_drawn_37 : decode (mX6_drawn).2.1 37 = .ok (.ldc 254, 2) := by decide +kernel
theorem dX6_drawn_39 : decode (mX6_drawn).2.1 39 = .ok (.imul, 1) := by decide +kernel
theorem dX6_drawn_40 : decode (mX6_drawn).2.1 40 = .ok (.sipush 12345, 3) := by decide +kernel
theorem dX6_drawn_43 : decode (mX6_drawn).2.1 43 = .ok (.iadd, 1) := by decide +kernel
theorem dX6_drawn_44 : decode (mX6_drawn).2.1 44 = .ok (.istore_n 2, 1) := by decide +kernel
theorem dX6_drawn_45 : decode (mX6_drawn).2.1 45 = .ok (.aload_n 0, 1) := by decide +kernel
theorem dX6_drawn_46 : decode (mX6_drawn).2.1 46 = .ok (.getfield 84, 3) := by decide +kernel
theorem dX6_drawn_49 : decode (mX6_drawn).2.1 49 = .ok (.getfield 99, 3) := by decide +kernel
theorem dX6_drawn_52 : decode (mX6_drawn).2.1 52 = .ok (.iload_n 3, 1) := by decide +kernel
theorem dX6_drawn_53 : decode (mX6_drawn).2.1 53 = .ok (.iload_n 2, 1) := by decide +kernel
theorem dX6_drawn_54 : decode (mX6_drawn).2.1 54 = .ok (.bipush 12, 2) := by decide +kernel
theorem dX6_drawn_56 : decode (mX6_drawn).2.1 56 = .ok (.iushr, 1) := by decide +kernel
theorem dX6_drawn_57 : decode (mX6_drawn).2.1 57 = .ok (.iconst 4, 1) := by decide +kernel
theorem dX6_drawn_58 : decode (mX6_drawn).2.1 58 = .ok (.irem, 1) := by decide +kernel
theorem dX6_drawn_59 : decode (mX6_drawn).2.1 59 = .ok (.iastore, 1) := by decide +kernel
theorem dX6_drawn_60 : decode (mX6_drawn).2.1 60 = .ok (.iinc 3 1, 3) := by decide +kernel
theorem dX6_drawn_63 : decode (mX6_drawn).2.1 63 = .ok (.goto (-48), 3) := by decide +kernel
theorem dX6_drawn_66 : decode (mX6_drawn).2.1 66 = .ok (.aload_n 0, 1) := by decide +kernel
theorem dX6_drawn_67 : decode (mX6_drawn).2.1 67 = .ok (.getfield 84, 3) := by decide +kernel
theorem dX6_drawn_70 : decode (mX6_drawn).2.1 70 = .ok (.iconst (-1), 1) := by decide +kernel
theorem dX6_drawn_71 : decode (mX6_drawn).2.1 71 = .ok (.iconst 0, 1) := by decide +kernel
theorem dX6_drawn_72 : decode (mX6_drawn).2.1 72 = .ok (.invokevirtual 201, 3) := by decide +kernel
theorem dX6_drawn_75 : decode (mX6_drawn).2.1 75 = .ok (.ireturn, 1) := by decide +kernel
theorem dX6_chance_0 : decode (mX6_chance).2.1 0 = .ok (.iload_n 2, 1) := by decide +kernel
theorem dX6_chance_1 : decode (mX6_chance).2.1 1 = .ok (.iconst 1, 1) := by decide +kernel
theorem dX6_chance_2 : decode (mX6_chance).2.1 2 = .ok (.bipush 30, 2) := by decide +kernel
theorem dX6_chance_4 : decode (mX6_chance).2.1 4 = .ok (.invokestatic 91, 3) := by decide +kernel
theorem dX6_chance_7 : decode (mX6_chance).2.1 7 = .ok (.ifCond .eq 24, 3) := by decide +kernel
theorem dX6_chance_10 : decode (mX6_chance).2.1 10 = .ok (.iload_n 3, 1) := by decide +kernel
theorem dX6_chance_11 : decode (mX6_chance).2.1 11 = .ok (.iconst 0, 1) := by decide +kernel
theorem dX6_chance_12 : decode (mX6_chance).2.1 12 = .ok (.sipush 300, 3) := by decide +kernel
theorem dX6_chance_15 : decode (mX6_chance).2.1 15 = .ok (.invokestatic 91, 3) := by decide +kernel
theorem dX6_chance_18 : decode (mX6_chance).2.1 18 = .ok (.ifCond .eq 13, 3) := by decide +kernel
theorem dX6_chance_21 : decode (mX6_chance).2.1 21 = .ok (.iload 4, 2) := by decide +kernel
theorem dX6_chance_23 : decode (mX6_chance).2.1 23 = .ok (.iconst 0, 1) := by decide +kernel
theorem dX6_chance_24 : decode (mX6_chance).2.1 24 = .ok (.iconst 1, 1) := by decide +kernel
theorem dX6_chance_25 : decode (mX6_chance).2.1 25 = .ok (.invokestatic 91, 3) := by decide +kernel
theorem dX6_chance_28 : decode (mX6_chance).2.1 28 = .ok (.ifCond .ne 7, 3) := by decide +kernel
theorem dX6_chance_31 : decode (mX6_chance).2.1 31 = .ok (.ldc2_w 255, 3) := by decide +kernel
theorem dX6_chance_34 : decode (mX6_chance).2.1 34 = .ok (.lreturn, 1) := by decide +kernel
theorem dX6_chance_35 : decode (mX6_chance).2.1 35 = .ok (.iconst 0, 1) := by decide +kernel
theorem dX6_chance_36 : decode (mX6_chance).2.1 36 = .ok (.istore 5, 2) := by decide +kernel
theorem dX6_chance_38 : decode (mX6_chance).2.1 38 = .ok (.iconst 0, 1) := by decide +kernel
theorem dX6_chance_39 : decode (mX6_chance).2.1 39 = .ok (.istore 6, 2) := by decide +kernel
theorem dX6_chance_41 : decode (mX6_chance).2.1 41 = .ok (.iload 6, 2) := by decide +kernel
theorem dX6_chance_43 : decode (mX6_chance).2.1 43 = .ok (.iload_n 2, 1) := by decide +kernel
theorem dX6_chance_44 : decode (mX6_chance).2.1 44 = .ok (.if_icmp .ge 24, 3) := by decide +kernel
theorem dX6_chance_47 : decode (mX6_chance).2.1 47 = .ok (.aload_n 0, 1) := by decide +kernel
theorem dX6_chance_48 : decode (mX6_chance).2.1 48 = .ok (.iload_n 1, 1) := by decide +kernel
theorem dX6_chance_49 : decode (mX6_chance).2.1 49 = .ok (.iload 6, 2) := by decide +kernel
theorem dX6_chance_51 : decode (mX6_chance).2.1 51 = .ok (.iadd, 1) := by decide +kernel
theorem dX6_chance_52 : decode (mX6_chance).2.1 52 = .ok (.invokevirtual 257, 3) := by decide +kernel
theorem dX6_chance_55 : decode (mX6_chance).2.1 55 = .ok (.iload_n 3, 1) := by decide +kernel
theorem dX6_chance_56 : decode (mX6_chance).2.1 56 = .ok (.if_icmp .gt 6, 3) := by decide +kernel
theorem dX6_chance_59 : decode (mX6_chance).2.1 59 = .ok (.iinc 5 1, 3) := by decide +kernel
theorem dX6_chance_62 : decode (mX6_chance).2.1 62 = .ok (.iinc 6 1, 3) := by decide +kernel
theorem dX6_chance_65 : decode (mX6_chance).2.1 65 = .ok (.goto (-24), 3) := by decide +kernel
theorem dX6_chance_68 : decode (mX6_chance).2.1 68 = .ok (.iload 5, 2) := by decide +kernel
theorem dX6_chance_70 : decode (mX6_chance).2.1 70 = .ok (.iload_n 2, 1) := by decide +kernel
theorem dX6_chance_71 : decode (mX6_chance).2.1 71 = .ok (.invokestatic 260, 3) := by decide +kernel
theorem dX6_chance_74 : decode (mX6_chance).2.1 74 = .ok (.istore 6, 2) := by decide +kernel
theorem dX6_chance_76 : decode (mX6_chance).2.1 76 = .ok (.iload 6, 2) := by decide +kernel
theorem dX6_chance_78 : decode (mX6_chance).2.1 78 = .ok (.iconst 1, 1) := by decide +kernel
theorem dX6_chance_79 : decode (mX6_chance).2.1 79 = .ok (.if_icmp .ge 7, 3) := by decide +kernel
theorem dX6_chance_82 : decode (mX6_chance).2.1 82 = .ok (.ldc2_w 255, 3) := by decide +kernel
theorem dX6_chance_85 : decode (mX6_chance).2.1 85 = .ok (.lreturn, 1) := by decide +kernel
theorem dX6_chance_86 : decode (mX6_chance).2.1 86 = .ok (.iload 4, 2) := by decide +kernel
theorem dX6_chance_88 : decode (mX6_chance).2.1 88 = .ok (.ifCond .ne 12, 3) := by decide +kernel
theorem dX6_chance_91 : decode (mX6_chance).2.1 91 = .ok (.iload 5, 2) := by decide +kernel
theorem dX6_chance_93 : decode (mX6_chance).2.1 93 = .ok (.iload 6, 2) := by decide +kernel
theorem dX6_chance_95 : decode (mX6_chance).2.1 95 = .ok (.idiv, 1) := by decide +kernel
theorem dX6_chance_96 : decode (mX6_chance).2.1 96 = .ok (.i2l, 1) := by decide +kernel
theorem dX6_chance_97 : decode (mX6_chance).2.1 97 = .ok (.goto 8, 3) := by decide +kernel
theorem dX6_chance_100 : decode (mX6_chance).2.1 100 = .ok (.iload_n 2, 1) := by decide +kernel
theorem dX6_chance_101 : decode (mX6_chance).2.1 101 = .ok (.iload 6, 2) := by decide +kernel
theorem dX6_chance_103 : decode (mX6_chance).2.1 103 = .ok (.idiv, 1) := by decide +kernel
theorem dX6_chance_104 : decode (mX6_chance).2.1 104 = .ok (.i2l, 1) := by decide +kernel
theorem dX6_chance_105 : decode (mX6_chance).2.1 105 = .ok (.lreturn, 1) := by decide +kernel
theorem dX6_commonPart_0 : decode (mX6_commonPart).2.1 0 = .ok (.iload_n 1, 1) := by decide +kernel
theorem dX6_commonPart_1 : decode (mX6_commonPart).2.1 1 = .ok (.istore_n 2, 1) := by decide +kernel
theorem dX6_commonPart_2 : decode (mX6_commonPart).2.1 2 = .ok (.iload_n 2, 1) := by decide +kernel
theorem dX6_commonPart_3 : decode (mX6_commonPart).2.1 3 = .ok (.iconst 1, 1) := by decide +kernel
theorem dX6_commonPart_4 : decode (mX6_commonPart).2.1 4 = .ok (.if_icmp .le 23, 3) := by decide +kernel
theorem dX6_commonPart_7 : decode (mX6_commonPart).2.1 7 = .ok (.iload_n 0, 1) := by decide +kernel
theorem dX6_commonPart_8 : decode (mX6_commonPart).2.1 8 = .ok (.iload_n 2, 1) := by decide +kernel
theorem dX6_commonPart_9 : decode (mX6_commonPart).2.1 9 = .ok (.irem, 1) := by decide +kernel
theorem dX6_commonPart_10 : decode (mX6_commonPart).2.1 10 = .ok (.ifCond .ne 11, 3) := by decide +kernel
theorem dX6_commonPart_13 : decode (mX6_commonPart).2.1 13 = .ok (.iload_n 1, 1) := by decide +kernel
theorem dX6_commonPart_14 : decode (mX6_commonPart).2.1 14 = .ok (.iload_n 2, 1) := by decide +kernel
theorem dX6_commonPart_15 : decode (mX6_commonPart).2.1 15 = .ok (.irem, 1) := by decide +kernel
theorem dX6_commonPart_16 : decode (mX6_commonPart).2.1 16 = .ok (.ifCond .ne 5, 3) := by decide +kernel
theorem dX6_commonPart_19 : decode (mX6_commonPart).2.1 19 = .ok (.iload_n 2, 1) := by decide +kernel
theorem dX6_commonPart_20 : decode (mX6_commonPart).2.1 20 = .ok (.ireturn, 1) := by decide +kernel
theorem dX6_commonPart_21 : decode (mX6_commonPart).2.1 21 = .ok (.iinc 2 (-1), 3) := by decide +kernel
theorem dX6_commonPart_24 : decode (mX6_commonPart).2.1 24 = .ok (.goto (-22), 3) := by decide +kernel
theorem dX6_commonPart_27 : decode (mX6_commonPart).2.1 27 = .ok (.iconst 1, 1) := by decide +kernel
theorem dX6_commonPart_28 : decode (mX6_commonPart).2.1 28 = .ok (.ireturn, 1) := by decide +kernel
theorem dX6_image_0 : decode (mX6_image).2.1 0 = .ok (.aload_n 0, 1) := by decide +kernel
theorem dX6_image_1 : decode (mX6_image).2.1 1 = .ok (.getfield 78, 3) := by decide +kernel
theorem dX6_image_4 : decode (mX6_image).2.1 4 = .ok (.aload_n 0, 1) := by decide +kernel
theorem dX6_image_5 : decode (mX6_image).2.1 5 = .ok (.getfield 74, 3) := by decide +kernel
theorem dX6_image_8 : decode (mX6_image).2.1 8 = .ok (.invokevirtual 263, 3) := by decide +kernel
theorem dX6_image_11 : decode (mX6_image).2.1 11 = .ok (.aload_n 0, 1) := by decide +kernel
theorem dX6_image_12 : decode (mX6_image).2.1 12 = .ok (.iconst 1, 1) := by decide +kernel
theorem dX6_image_13 : decode (mX6_image).2.1 13 = .ok (.putfield 39, 3) := by decide +kernel
theorem dX6_image_16 : decode (mX6_image).2.1 16 = .ok (.aload_n 0, 1) := by decide +kernel
theorem dX6_image_17 : decode (mX6_image).2.1 17 = .ok (.getfield 74, 3) := by decide +kernel
theorem dX6_image_20 : decode (mX6_image).2.1 20 = .ok (.getfield 175, 3) := by decide +kernel
theorem dX6_image_23 : decode (mX6_image).2.1 23 = .ok (.ireturn, 1) := by decide +kernel
theorem dX6_back_0 : decode (mX6_back).2.1 0 = .ok (.aload_n 0, 1) := by decide +kernel
theorem dX6_back_1 : decode (mX6_back).2.1 1 = .ok (.getfield 39, 3) := by decide +kernel
theorem dX6_back_4 : decode (mX6_back).2.1 4 = .ok (.ifCond .ne 6, 3) := by decide +kernel
theorem dX6_back_7 : decode (mX6_back).2.1 7 = .ok (.bipush (-3), 2) := by decide +kernel
theorem dX6_back_9 : decode (mX6_back).2.1 9 = .ok (.ireturn, 1) := by decide +kernel
theorem dX6_back_10 : decode (mX6_back).2.1 10 = .ok (.aload_n 0, 1) := by decide +kernel
theorem dX6_back_11 : decode (mX6_back).2.1 11 = .ok (.getfield 74, 3) := by decide +kernel
theorem dX6_back_14 : decode (mX6_back).2.1 14 = .ok (.aload_n 0, 1) := by decide +kernel
theorem dX6_back_15 : decode (mX6_back).2.1 15 = .ok (.getfield 78, 3) := by decide +kernel
theorem dX6_back_18 : decode (mX6_back).2.1 18 = .ok (.invokevirtual 263, 3) := by decide +kernel
theorem dX6_back_21 : decode (mX6_back).2.1 21 = .ok (.aload_n 0, 1) := by decide +kernel
theorem dX6_back_22 : decode (mX6_back).2.1 22 = .ok (.getfield 74, 3) := by decide +kernel
theorem dX6_back_25 : decode (mX6_back).2.1 25 = .ok (.getfield 175, 3) := by decide +kernel
theorem dX6_back_28 : decode (mX6_back).2.1 28 = .ok (.ireturn, 1) := by decide +kernel
theorem dX6_count_0 : decode (mX6_count).2.1 0 = .ok (.iload_n 1, 1) := by decide +kernel
theorem dX6_count_1 : decode (mX6_count).2.1 1 = .ok (.tableswitch 111 0 7 #[47, 55, 63, 71, 79, 87, 92, 100], 47) := by decide +kernel
theorem dX6_count_48 : decode (mX6_count).2.1 48 = .ok (.aload_n 0, 1) := by decide +kernel
theorem dX6_count_49 : decode (mX6_count).2.1 49 = .ok (.getfield 74, 3) := by decide +kernel
theorem dX6_count_52 : decode (mX6_count).2.1 52 = .ok (.invokevirtual 159, 3) := by decide +kernel
theorem dX6_count_55 : decode (mX6_count).2.1 55 = .ok (.ireturn, 1) := by decide +kernel
theorem dX6_count_56 : decode (mX6_count).2.1 56 = .ok (.aload_n 0, 1) := by decide +kernel
theorem dX6_count_57 : decode (mX6_count).2.1 57 = .ok (.getfield 74, 3) := by decide +kernel
theorem dX6_count_60 : decode (mX6_count).2.1 60 = .ok (.getfield 175, 3) := by decide +kernel
theorem dX6_count_63 : decode (mX6_count).2.1 63 = .ok (.ireturn, 1) := by decide +kernel
theorem dX6_count_64 : decode (mX6_count).2.1 64 = .ok (.aload_n 0, 1) := by decide +kernel
theorem dX6_count_65 : decode (mX6_count).2.1 65 = .ok (.getfield 74, 3) := by decide +kernel
theorem dX6_count_68 : decode (mX6_count).2.1 68 = .ok (.getfield 138, 3) := by decide +kernel
theorem dX6_count_71 : decode (mX6_count).2.1 71 = .ok (.ireturn, 1) := by decide +kernel
theorem dX6_count_72 : decode (mX6_count).2.1 72 = .ok (.aload_n 0, 1) := by decide +kernel
theorem dX6_count_73 : decode (mX6_count).2.1 73 = .ok (.getfield 74, 3) := by decide +kernel
theorem dX6_count_76 : decode (mX6_count).2.1 76 = .ok (.getfield 141, 3) := by decide +kernel
theorem dX6_count_79 : decode (mX6_count).2.1 79 = .ok (.ireturn, 1) := by decide +kernel
theorem dX6_count_80 : decode (mX6_count).2.1 80 = .ok (.aload_n 0, 1) := by decide +kernel
theorem dX6_count_81 : decode (mX6_count).2.1 81 = .ok (.getfield 74, 3) := by decide +kernel
theorem dX6_count_84 : decode (mX6_count).2.1 84 = .ok (.getfield 144, 3) := by decide +kernel
theorem dX6_count_87 : decode (mX6_count).2.1 87 = .ok (.ireturn, 1) := by decide +kernel
theorem dX6_count_88 : decode (mX6_count).2.1 88 = .ok (.aload_n 0, 1) := by decide +kernel
theorem dX6_count_89 : decode (mX6_count).2.1 89 = .ok (.getfield 35, 3) := by decide +kernel
theorem dX6_count_92 : decode (mX6_count).2.1 92 = .ok (.ireturn, 1) := by decide +kernel
theorem dX6_count_93 : decode (mX6_count).2.1 93 = .ok (.aload_n 0, 1) := by decide +kernel
theorem dX6_count_94 : decode (mX6_count).2.1 94 = .ok (.getfield 19, 3) := by decide +kernel
theorem dX6_count_97 : decode (mX6_count).2.1 97 = .ok (.getfield 62, 3) := by decide +kernel
theorem dX6_count_100 : decode (mX6_count).2.1 100 = .ok (.ireturn, 1) := by decide +kernel
theorem dX6_count_101 : decode (mX6_count).2.1 101 = .ok (.aload_n 0, 1) := by decide +kernel
theorem dX6_count_102 : decode (mX6_count).2.1 102 = .ok (.getfield 74, 3) := by decide +kernel
theorem dX6_count_105 : decode (mX6_count).2.1 105 = .ok (.getfield 184, 3) := by decide +kernel
theorem dX6_count_108 : decode (mX6_count).2.1 108 = .ok (.getfield 188, 3) := by decide +kernel
theorem dX6_count_111 : decode (mX6_count).2.1 111 = .ok (.ireturn, 1) := by decide +kernel
theorem dX6_count_112 : decode (mX6_count).2.1 112 = .ok (.bipush (-2), 2) := by decide +kernel
theorem dX6_count_114 : decode (mX6_count).2.1 114 = .ok (.ireturn, 1) := by decide +kernel
theorem dX6_sheet_0 : decode (mX6_sheet).2.1 0 = .ok (.aload_n 0, 1) := by decide +kernel
theorem dX6_sheet_1 : decode (mX6_sheet).2.1 1 = .ok (.iload_n 1, 1) := by decide +kernel
theorem dX6_sheet_2 : decode (mX6_sheet).2.1 2 = .ok (.invokevirtual 233, 3) := by decide +kernel
theorem dX6_sheet_5 : decode (mX6_sheet).2.1 5 = .ok (.astore 4, 2) := by decide +kernel
theorem dX6_sheet_7 : decode (mX6_sheet).2.1 7 = .ok (.aload 4, 2) := by decide +kernel
theorem dX6_sheet_9 : decode (mX6_sheet).2.1 9 = .ok (.ifnull 12, 3) := by decide +kernel
theorem dX6_sheet_12 : decode (mX6_sheet).2.1 12 = .ok (.iload_n 2, 1) := by decide +kernel
theorem dX6_sheet_13 : decode (mX6_sheet).2.1 13 = .ok (.iconst (-1), 1) := by decide +kernel
theorem dX6_sheet_14 : decode (mX6_sheet).2.1 14 = .ok (.iconst 2, 1) := by decide +kernel
theorem dX6_sheet_15 : decode (mX6_sheet).2.1 15 = .ok (.invokestatic 91, 3) := by decide +kernel
theorem dX6_sheet_18 : decode (mX6_sheet).2.1 18 = .ok (.ifCond .ne 6, 3) := by decide +kernel
theorem dX6_sheet_21 : decode (mX6_sheet).2.1 21 = .ok (.bipush (-2), 2) := by decide +kernel
theorem dX6_sheet_23 : decode (mX6_sheet).2.1 23 = .ok (.ireturn, 1) := by decide +kernel
theorem dX6_sheet_24 : decode (mX6_sheet).2.1 24 = .ok (.iload_n 2, 1) := by decide +kernel
theorem dX6_sheet_25 : decode (mX6_sheet).2.1 25 = .ok (.iconst (-1), 1) := by decide +kernel
theorem dX6_sheet_26 : decode (mX6_sheet).2.1 26 = .ok (.if_icmp .eq 12, 3) := by decide +kernel
theorem dX6_sheet_29 : decode (mX6_sheet).2.1 29 = .ok (.iload_n 3, 1) := by decide +kernel
theorem dX6_sheet_30 : decode (mX6_sheet).2.1 30 = .ok (.bipush 40, 2) := by decide +kernel
theorem dX6_sheet_32 : decode (mX6_sheet).2.1 32 = .ok (.if_icmp .le 6, 3) := by decide +kernel
theorem dX6_sheet_35 : decode (mX6_sheet).2.1 35 = .ok (.bipush (-2), 2) := by decide +kernel
theorem dX6_sheet_37 : decode (mX6_sheet).2.1 37 = .ok (.ireturn, 1) := by decide +kernel
theorem dX6_sheet_38 : decode (mX6_sheet).2.1 38 = .ok (.iload_n 2, 1) := by decide +kernel
theorem dX6_sheet_39 : decode (mX6_sheet).2.1 39 = .ok (.iconst (-1), 1) := by decide +kernel
theorem dX6_sheet_40 : decode (mX6_sheet).2.1 40 = .ok (.if_icmp .eq 10, 3) := by decide +kernel
theorem dX6_sheet_43 : decode (mX6_sheet).2.1 43 = .ok (.iload_n 3, 1) := by decide +kernel
theorem dX6_sheet_44 : decode (mX6_sheet).2.1 44 = .ok (.ifCond .ge 6, 3) := by decide +kernel
theorem dX6_sheet_47 : decode (mX6_sheet).2.1 47 = .ok (.bipush (-14), 2) := by decide +kernel
theorem dX6_sheet_49 : decode (mX6_sheet).2.1 49 = .ok (.ireturn, 1) := by decide +kernel
theorem dX6_sheet_50 : decode (mX6_sheet).2.1 50 = .ok (.aload 4, 2) := by decide +kernel
theorem dX6_sheet_52 : decode (mX6_sheet).2.1 52 = .ok (.iload_n 2, 1) := by decide +kernel
theorem dX6_sheet_53 : decode (mX6_sheet).2.1 53 = .ok (.iload_n 2, 1) := by decide +kernel
theorem dX6_sheet_54 : decode (mX6_sheet).2.1 54 = .ok (.iconst (-1), 1) := by decide +kernel
theorem dX6_sheet_55 : decode (mX6_sheet).2.1 55 = .ok (.if_icmp .ne 7, 3) := by decide +kernel
theorem dX6_sheet_58 : decode (mX6_sheet).2.1 58 = .ok (.iconst 0, 1) := by decide +kernel
theorem dX6_sheet_59 : decode (mX6_sheet).2.1 59 = .ok (.goto 4, 3) := by decide +kernel
theorem dX6_sheet_62 : decode (mX6_sheet).2.1 62 = .ok (.iload_n 3, 1) := by decide +kernel
theorem dX6_sheet_63 : decode (mX6_sheet).2.1 63 = .ok (.invokevirtual 266, 3) := by decide +kernel
theorem dX6_sheet_66 : decode (mX6_sheet).2.1 66 = .ok (.iconst 1, 1) := by decide +kernel
theorem dX6_sheet_67 : decode (mX6_sheet).2.1 67 = .ok (.ireturn, 1) := by decide +kernel
theorem dX6_cell_0 : decode (mX6_cell).2.1 0 = .ok (.aload_n 0, 1) := by decide +kernel
theorem dX6_cell_1 : decode (mX6_cell).2.1 1 = .ok (.iload_n 1, 1) := by decide +kernel
theorem dX6_cell_2 : decode (mX6_cell).2.1 2 = .ok (.invokevirtual 233, 3) := by decide +kernel
theorem dX6_cell_5 : decode (mX6_cell).2.1 5 = .ok (.astore 4, 2) := by decide +kernel
theorem dX6_cell_7 : decode (mX6_cell).2.1 7 = .ok (.aload 4, 2) := by decide +kernel
theorem dX6_cell_9 : decode (mX6_cell).2.1 9 = .ok (.ifnonnull 6, 3) := by decide +kernel
theorem dX6_cell_12 : decode (mX6_cell).2.1 12 = .ok (.bipush (-2), 2) := by decide +kernel
theorem dX6_cell_14 : decode (mX6_cell).2.1 14 = .ok (.ireturn, 1) := by decide +kernel
theorem dX6_cell_15 : decode (mX6_cell).2.1 15 = .ok (.aload 4, 2) := by decide +kernel
theorem dX6_cell_17 : decode (mX6_cell).2.1 17 = .ok (.invokevirtual 237, 3) := by decide +kernel
theorem dX6_cell_20 : decode (mX6_cell).2.1 20 = .ok (.ifCond .eq 6, 3) := by decide +kernel
theorem dX6_cell_23 : decode (mX6_cell).2.1 23 = .ok (.bipush (-11), 2) := by decide +kernel
theorem dX6_cell_25 : decode (mX6_cell).2.1 25 = .ok (.ireturn, 1) := by decide +kernel
theorem dX6_cell_26 : decode (mX6_cell).2.1 26 = .ok (.aload 4, 2) := by decide +kernel
theorem dX6_cell_28 : decode (mX6_cell).2.1 28 = .ok (.iload_n 2, 1) := by decide +kernel
theorem dX6_cell_29 : decode (mX6_cell).2.1 29 = .ok (.invokevirtual 269, 3) := by decide +kernel
theorem dX6_cell_32 : decode (mX6_cell).2.1 32 = .ok (.ifCond .ne 6, 3) := by decide +kernel
theorem dX6_cell_35 : decode (mX6_cell).2.1 35 = .ok (.bipush (-12), 2) := by decide +kernel
theorem dX6_cell_37 : decode (mX6_cell).2.1 37 = .ok (.ireturn, 1) := by decide +kernel
theorem dX6_cell_38 : decode (mX6_cell).2.1 38 = .ok (.aload 4, 2) := by decide +kernel
theorem dX6_cell_40 : decode (mX6_cell).2.1 40 = .ok (.getfield 246, 3) := by decide +kernel
theorem dX6_cell_43 : decode (mX6_cell).2.1 43 = .ok (.iload_n 2, 1) := by decide +kernel
theorem dX6_cell_44 : decode (mX6_cell).2.1 44 = .ok (.aload 4, 2) := by decide +kernel
theorem dX6_cell_46 : decode (mX6_cell).2.1 46 = .ok (.iload_n 3, 1) := by decide +kernel
theorem dX6_cell_47 : decode (mX6_cell).2.1 47 = .ok (.invokevirtual 272, 3) := by decide +kernel
theorem dX6_cell_50 : decode (mX6_cell).2.1 50 = .ok (.iastore, 1) := by decide +kernel
theorem dX6_cell_51 : decode (mX6_cell).2.1 51 = .ok (.iconst 1, 1) := by decide +kernel
theorem dX6_cell_52 : decode (mX6_cell).2.1 52 = .ok (.ireturn, 1) := by decide +kernel
theorem dX6_copy_0 : decode (mX6_copy).2.1 0 = .ok (.aload_n 0, 1) := by decide +kernel
theorem dX6_copy_1 : decode (mX6_copy).2.1 1 = .ok (.iload_n 1, 1) := by decide +kernel
theorem dX6_copy_2 : decode (mX6_copy).2.1 2 = .ok (.invokevirtual 233, 3) := by decide +kernel
theorem dX6_copy_5 : decode (mX6_copy).2.1 5 = .ok (.astore 6, 2) := by decide +kernel
theorem dX6_copy_7 : decode (mX6_copy).2.1 7 = .ok (.aload_n 0, 1) := by decide +kernel
theorem dX6_copy_8 : decode (mX6_copy).2.1 8 = .ok (.iload_n 3, 1) := by decide +kernel
theorem dX6_copy_9 : decode (mX6_copy).2.1 9 = .ok (.invokevirtual 233, 3) := by decide +kernel
theorem dX6_copy_12 : decode (mX6_copy).2.1 12 = .ok (.astore 7, 2) := by decide +kernel
theorem dX6_copy_14 : decode (mX6_copy).2.1 14 = .ok (.aload 6, 2) := by decide +kernel
theorem dX6_copy_16 : decode (mX6_copy).2.1 16 = .ok (.ifnull 8, 3) := by decide +kernel
theorem dX6_copy_19 : decode (mX6_copy).2.1 19 = .ok (.aload 7, 2) := by decide +kernel
theorem dX6_copy_21 : decode (mX6_copy).2.1 21 = .ok (.ifnonnull 6, 3) := by decide +kernel
theorem dX6_copy_24 : decode (mX6_copy).2.1 24 = .ok (.bipush (-2), 2) := by decide +kernel
theorem dX6_copy_26 : decode (mX6_copy).2.1 26 = .ok (.ireturn, 1) := by decide +kernel
theorem dX6_copy_27 : decode (mX6_copy).2.1 27 = .ok (.aload 6, 2) := by decide +kernel
theorem dX6_copy_29 : decode (mX6_copy).2.1 29 = .ok (.invokevirtual 237, 3) := by decide +kernel
theorem dX6_copy_32 : decode (mX6_copy).2.1 32 = .ok (.ifCond .ne 11, 3) := by decide +kernel
theorem dX6_copy_35 : decode (mX6_copy).2.1 35 = .ok (.aload 7, 2) := by decide +kernel
theorem dX6_copy_37 : decode (mX6_copy).2.1 37 = .ok (.invokevirtual 237, 3) := by decide +kernel
theorem dX6_copy_40 : decode (mX6_copy).2.1 40 = .ok (.ifCond .eq 6, 3) := by decide +kernel
theorem dX6_copy_43 : decode (mX6_copy).2.1 43 = .ok (.bipush (-11), 2) := by decide +kernel
theorem dX6_copy_45 : decode (mX6_copy).2.1 45 = .ok (.ireturn, 1) := by decide +kernel
theorem dX6_copy_46 : decode (mX6_copy).2.1 46 = .ok (.aload 6, 2) := by decide +kernel
theorem dX6_copy_48 : decode (mX6_copy).2.1 48 = .ok (.getfield 275, 3) := by decide +kernel
theorem dX6_copy_51 : decode (mX6_copy).2.1 51 = .ok (.aload 7, 2) := by decide +kernel
theorem dX6_copy_53 : decode (mX6_copy).2.1 53 = .ok (.getfield 275, 3) := by decide +kernel
theorem dX6_copy_56 : decode (mX6_copy).2.1 56 = .ok (.if_icmp .eq 6, 3) := by decide +kernel
theorem dX6_copy_59 : decode (mX6_copy).2.1 59 = .ok (.bipush (-13), 2) := by decide +kernel
theorem dX6_copy_61 : decode (mX6_copy).2.1 61 = .ok (.ireturn, 1) := by decide +kernel
theorem dX6_copy_62 : decode (mX6_copy).2.1 62 = .ok (.aload 6, 2) := by decide +kernel
theorem dX6_copy_64 : decode (mX6_copy).2.1 64 = .ok (.iload_n 2, 1) := by decide +kernel
theorem dX6_copy_65 : decode (mX6_copy).2.1 65 = .ok (.iload 5, 2) := by decide +kernel
theorem dX6_copy_67 : decode (mX6_copy).2.1 67 = .ok (.invokevirtual 278, 3) := by decide +kernel
theorem dX6_copy_70 : decode (mX6_copy).2.1 70 = .ok (.ifCond .eq 15, 3) := by decide +kernel
theorem dX6_copy_73 : decode (mX6_copy).2.1 73 = .ok (.aload 7, 2) := by decide +kernel
theorem dX6_copy_75 : decode (mX6_copy).2.1 75 = .ok (.iload 4, 2) := by decide +kernel
theorem dX6_copy_77 : decode (mX6_copy).2.1 77 = .ok (.iload 5, 2) := by decide +kernel
theorem dX6_copy_79 : decode (mX6_copy).2.1 79 = .ok (.invokevirtual 278, 3) := by decide +kernel
theorem dX6_copy_82 : decode (mX6_copy).2.1 82 = .ok (.ifCond .ne 6, 3) := by decide +kernel
theorem dX6_copy_85 : decode (mX6_copy).2.1 85 = .ok (.bipush (-12), 2) := by decide +kernel
theorem dX6_copy_87 : decode (mX6_copy).2.1 87 = .ok (.ireturn, 1) := by decide +kernel
theorem dX6_copy_88 : decode (mX6_copy).2.1 88 = .ok (.aload 6, 2) := by decide +kernel
theorem dX6_copy_90 : decode (mX6_copy).2.1 90 = .ok (.getfield 246, 3) := by decide +kernel
theorem dX6_copy_93 : decode (mX6_copy).2.1 93 = .ok (.iload_n 2, 1) := by decide +kernel
theorem dX6_copy_94 : decode (mX6_copy).2.1 94 = .ok (.aload 7, 2) := by decide +kernel
theorem dX6_copy_96 : decode (mX6_copy).2.1 96 = .ok (.getfield 246, 3) := by decide +kernel
theorem dX6_copy_99 : decode (mX6_copy).2.1 99 = .ok (.iload 4, 2) := by decide +kernel
theorem dX6_copy_101 : decode (mX6_copy).2.1 101 = .ok (.iload 5, 2) := by decide +kernel
theorem dX6_copy_103 : decode (mX6_copy).2.1 103 = .ok (.invokestatic 282, 3) := by decide +kernel
theorem dX6_copy_106 : decode (mX6_copy).2.1 106 = .ok (.iload 5, 2) := by decide +kernel
theorem dX6_copy_108 : decode (mX6_copy).2.1 108 = .ok (.ireturn, 1) := by decide +kernel
theorem dX6_grounds_0 : decode (mX6_grounds).2.1 0 = .ok (.aload_n 0, 1) := by decide +kernel
theorem dX6_grounds_1 : decode (mX6_grounds).2.1 1 = .ok (.iload_n 1, 1) := by decide +kernel
theorem dX6_grounds_2 : decode (mX6_grounds).2.1 2 = .ok (.invokevirtual 233, 3) := by decide +kernel
theorem dX6_grounds_5 : decode (mX6_grounds).2.1 5 = .ok (.astore 5, 2) := by decide +kernel
theorem dX6_grounds_7 : decode (mX6_grounds).2.1 7 = .ok (.aload 5, 2) := by decide +kernel
theorem dX6_grounds_9 : decode (mX6_grounds).2.1 9 = .ok (.ifnull 23, 3) := by decide +kernel
theorem dX6_grounds_12 : decode (mX6_grounds).2.1 12 = .ok (.iload_n 2, 1) := by decide +kernel
theorem dX6_grounds_13 : decode (mX6_grounds).2.1 13 = .ok (.iconst 0, 1) := by decide +kernel
theorem dX6_grounds_14 : decode (mX6_grounds).2.1 14 = .ok (.iconst 2, 1) := by decide +kernel
theorem dX6_grounds_15 : decode (mX6_grounds).2.1 15 = .ok (.invokestatic 91, 3) := by decide +kernel
theorem dX6_grounds_18 : decode (mX6_grounds).2.1 18 = .ok (.ifCond .eq 14, 3) := by decide +kernel
theorem dX6_grounds_21 : decode (mX6_grounds).2.1 21 = .ok (.iload 4, 2) := by decide +kernel
theorem dX6_grounds_23 : decode (mX6_grounds).2.1 23 = .ok (.iconst 0, 1) := by decide +kernel
theorem dX6_grounds_24 : decode (mX6_grounds).2.1 24 = .ok (.bipush 20, 2) := by decide +kernel
theorem dX6_grounds_26 : decode (mX6_grounds).2.1 26 = .ok (.invokestatic 91, 3) := by decide +kernel
theorem dX6_grounds_29 : decode (mX6_grounds).2.1 29 = .ok (.ifCond .ne 6, 3) := by decide +kernel
theorem dX6_grounds_32 : decode (mX6_grounds).2.1 32 = .ok (.bipush (-2), 2) := by decide +kernel
theorem dX6_grounds_34 : decode (mX6_grounds).2.1 34 = .ok (.ireturn, 1) := by decide +kernel
theorem dX6_grounds_35 : decode (mX6_grounds).2.1 35 = .ok (.aload 5, 2) := by decide +kernel
theorem dX6_grounds_37 : decode (mX6_grounds).2.1 37 = .ok (.invokevirtual 237, 3) := by decide +kernel
theorem dX6_grounds_40 : decode (mX6_grounds).2.1 40 = .ok (.ifCond .ne 15, 3) := by decide +kernel
theorem dX6_grounds_43 : decode (mX6_grounds).2.1 43 = .ok (.aload 5, 2) := by decide +kernel
theorem dX6_grounds_45 : decode (mX6_grounds).2.1 45 = .ok (.getfield 275, 3) := by decide +kernel
theorem dX6_grounds_48 : decode (mX6_grounds).2.1 48 = .ok (.iload_n 2, 1) := by decide +kernel
theorem dX6_grounds_49 : decode (mX6_grounds).2.1 49 = .ok (.if_icmp .eq 6, 3) := by decide +kernel
theorem dX6_grounds_52 : decode (mX6_grounds).2.1 52 = .ok (.bipush (-13), 2) := by decide +kernel
theorem dX6_grounds_54 : decode (mX6_grounds).2.1 54 = .ok (.ireturn, 1) := by decide +kernel
theorem dX6_grounds_55 : decode (mX6_grounds).2.1 55 = .ok (.aload 5, 2) := by decide +kernel
theorem dX6_grounds_57 : decode (mX6_grounds).2.1 57 = .ok (.invokevirtual 237, 3) := by decide +kernel
theorem dX6_grounds_60 : decode (mX6_grounds).2.1 60 = .ok (.ifCond .eq 6, 3) := by decide +kernel
theorem dX6_grounds_63 : decode (mX6_grounds).2.1 63 = .ok (.bipush (-11), 2) := by decide +kernel
theorem dX6_grounds_65 : decode (mX6_grounds).2.1 65 = .ok (.ireturn, 1) := by decide +kernel
theorem dX6_grounds_66 : decode (mX6_grounds).2.1 66 = .ok (.iconst 0, 1) := by decide +kernel
theorem dX6_grounds_67 : decode (mX6_grounds).2.1 67 = .ok (.istore 6, 2) := by decide +kernel
theorem dX6_grounds_69 : decode (mX6_grounds).2.1 69 = .ok (.iconst 0, 1) := by decide +kernel
theorem dX6_grounds_70 : decode (mX6_grounds).2.1 70 = .ok (.istore 7, 2) := by decide +kernel
theorem dX6_grounds_72 : decode (mX6_grounds).2.1 72 = .ok (.iload 7, 2) := by decide +kernel
theorem dX6_grounds_74 : decode (mX6_grounds).2.1 74 = .ok (.iload 4, 2) := by decide +kernel
theorem dX6_grounds_76 : decode (mX6_grounds).2.1 76 = .ok (.if_icmp .ge 71, 3) := by decide +kernel
theorem dX6_grounds_79 : decode (mX6_grounds).2.1 79 = .ok (.iload_n 3, 1) := by decide +kernel
theorem dX6_grounds_80 : decode (mX6_grounds).2.1 80 = .ok (.iconst 2, 1) := by decide +kernel
theorem dX6_grounds_81 : decode (mX6_grounds).2.1 81 = .ok (.iload 7, 2) := by decide +kernel
theorem dX6_grounds_83 : decode (mX6_grounds).2.1 83 = .ok (.imul, 1) := by decide +kernel
theorem dX6_grounds_84 : decode (mX6_grounds).2.1 84 = .ok (.iadd, 1) := by decide +kernel
theorem dX6_grounds_85 : decode (mX6_grounds).2.1 85 = .ok (.istore 8, 2) := by decide +kernel
theorem dX6_grounds_87 : decode (mX6_grounds).2.1 87 = .ok (.aload 5, 2) := by decide +kernel
theorem dX6_grounds_89 : decode (mX6_grounds).2.1 89 = .ok (.iload 8, 2) := by decide +kernel
theorem dX6_grounds_91 : decode (mX6_grounds).2.1 91 = .ok (.invokevirtual 269, 3) := by decide +kernel
theorem dX6_grounds_94 : decode (mX6_grounds).2.1 94 = .ok (.ifCond .eq 15, 3) := by decide +kernel
theorem dX6_grounds_97 : decode (mX6_grounds).2.1 97 = .ok (.aload 5, 2) := by decide +kernel
theorem dX6_grounds_99 : decode (mX6_grounds).2.1 99 = .ok (.iload 8, 2) := by decide +kernel
theorem dX6_grounds_101 : decode (mX6_grounds).2.1 101 = .ok (.iconst 1, 1) := by decide +kernel
theorem dX6_grounds_102 : decode (mX6_grounds).2.1 102 = .ok (.iadd, 1) := by decide +kernel
theorem dX6_grounds_103 : decode (mX6_grounds).2.1 103 = .ok (.invokevirtual 269, 3) := by decide +kernel
theorem dX6_grounds_106 : decode (mX6_grounds).2.1 106 = .ok (.ifCond .ne 6, 3) := by decide +kernel
theorem dX6_grounds_109 : decode (mX6_grounds).2.1 109 = .ok (.bipush (-12), 2) := by decide +kernel
theorem dX6_grounds_111 : decode (mX6_grounds).2.1 111 = .ok (.ireturn, 1) := by decide +kernel
theorem dX6_grounds_112 : decode (mX6_grounds).2.1 112 = .ok (.aload_n 0, 1) := by decide +kernel
theorem dX6_grounds_113 : decode (mX6_grounds).2.1 113 = .ok (.aload 5, 2) := by decide +kernel
theorem dX6_grounds_115 : decode (mX6_grounds).2.1 115 = .ok (.getfield 246, 3) := by decide +kernel
theorem dX6_grounds_118 : decode (mX6_grounds).2.1 118 = .ok (.iload 8, 2) := by decide +kernel
theorem dX6_grounds_120 : decode (mX6_grounds).2.1 120 = .ok (.iaload, 1) := by decide +kernel
theorem dX6_grounds_121 : decode (mX6_grounds).2.1 121 = .ok (.iconst 0, 1) := by decide +kernel
theorem dX6_grounds_122 : decode (mX6_grounds).2.1 122 = .ok (.aload 5, 2) := by decide +kernel
theorem dX6_grounds_124 : decode (mX6_grounds).2.1 124 = .ok (.getfield 246, 3) := by decide +kernel
theorem dX6_grounds_127 : decode (mX6_grounds).2.1 127 = .ok (.iload 8, 2) := by decide +kernel
theorem dX6_grounds_129 : decode (mX6_grounds).2.1 129 = .ok (.iconst 1, 1) := by decide +kernel
theorem dX6_grounds_130 : decode (mX6_grounds).2.1 130 = .ok (.iadd, 1) := by decide +kernel
theorem dX6_grounds_131 : decode (mX6_grounds).2.1 131 = .ok (.iaload, 1) := by decide +kernel
theorem dX6_grounds_132 : decode (mX6_grounds).2.1 132 = .ok (.invokevirtual 288, 3) := by decide +kernel
theorem dX6_grounds_135 : decode (mX6_grounds).2.1 135 = .ok (.ifCond .lt 6, 3) := by decide +kernel
theorem dX6_grounds_138 : decode (mX6_grounds).2.1 138 = .ok (.iinc 6 1, 3) := by decide +kernel
theorem dX6_grounds_141 : decode (mX6_grounds).2.1 141 = .ok (.iinc 7 1, 3) := by decide +kernel
theorem dX6_grounds_144 : decode (mX6_grounds).2.1 144 = .ok (.goto (-72), 3) := by decide +kernel
theorem dX6_grounds_147 : decode (mX6_grounds).2.1 147 = .ok (.iload 6, 2) := by decide +kernel
theorem dX6_grounds_149 : decode (mX6_grounds).2.1 149 = .ok (.ireturn, 1) := by decide +kernel
theorem dX6_taken_0 : decode (mX6_taken).2.1 0 = .ok (.iload_n 2, 1) := by decide +kernel
theorem dX6_taken_1 : decode (mX6_taken).2.1 1 = .ok (.iconst 0, 1) := by decide +kernel
theorem dX6_taken_2 : decode (mX6_taken).2.1 2 = .ok (.iconst 5, 1) := by decide +kernel
theorem dX6_taken_3 : decode (mX6_taken).2.1 3 = .ok (.invokestatic 91, 3) := by decide +kernel
theorem dX6_taken_6 : decode (mX6_taken).2.1 6 = .ok (.ifCond .ne 6, 3) := by decide +kernel
theorem dX6_taken_9 : decode (mX6_taken).2.1 9 = .ok (.bipush (-2), 2) := by decide +kernel
theorem dX6_taken_11 : decode (mX6_taken).2.1 11 = .ok (.ireturn, 1) := by decide +kernel
theorem dX6_taken_12 : decode (mX6_taken).2.1 12 = .ok (.iload_n 1, 1) := by decide +kernel
theorem dX6_taken_13 : decode (mX6_taken).2.1 13 = .ok (.invokestatic 119, 3) := by decide +kernel
theorem dX6_taken_16 : decode (mX6_taken).2.1 16 = .ok (.ifCond .ne 6, 3) := by decide +kernel
theorem dX6_taken_19 : decode (mX6_taken).2.1 19 = .ok (.bipush (-11), 2) := by decide +kernel
theorem dX6_taken_21 : decode (mX6_taken).2.1 21 = .ok (.ireturn, 1) := by decide +kernel
theorem dX6_taken_22 : decode (mX6_taken).2.1 22 = .ok (.aload_n 0, 1) := by decide +kernel
theorem dX6_taken_23 : decode (mX6_taken).2.1 23 = .ok (.getfield 74, 3) := by decide +kernel
theorem dX6_taken_26 : decode (mX6_taken).2.1 26 = .ok (.iload_n 1, 1) := by decide +kernel
theorem dX6_taken_27 : decode (mX6_taken).2.1 27 = .ok (.invokevirtual 122, 3) := by decide +kernel
theorem dX6_taken_30 : decode (mX6_taken).2.1 30 = .ok (.astore_n 3, 1) := by decide +kernel
theorem dX6_taken_31 : decode (mX6_taken).2.1 31 = .ok (.aload_n 3, 1) := by decide +kernel
theorem dX6_taken_32 : decode (mX6_taken).2.1 32 = .ok (.iload_n 2, 1) := by decide +kernel
theorem dX6_taken_33 : decode (mX6_taken).2.1 33 = .ok (.invokevirtual 290, 3) := by decide +kernel
theorem dX6_taken_36 : decode (mX6_taken).2.1 36 = .ok (.ifCond .eq 10, 3) := by decide +kernel
theorem dX6_taken_39 : decode (mX6_taken).2.1 39 = .ok (.aload_n 3, 1) := by decide +kernel
theorem dX6_taken_40 : decode (mX6_taken).2.1 40 = .ok (.getfield 129, 3) := by decide +kernel
theorem dX6_taken_43 : decode (mX6_taken).2.1 43 = .ok (.goto 5, 3) := by decide +kernel
theorem dX6_taken_46 : decode (mX6_taken).2.1 46 = .ok (.bipush (-13), 2) := by decide +kernel
theorem dX6_taken_48 : decode (mX6_taken).2.1 48 = .ok (.ireturn, 1) := by decide +kernel
theorem dX6_within_0 : decode (mX6_within).2.1 0 = .ok (.iload_n 1, 1) := by decide +kernel
theorem dX6_within_1 : decode (mX6_within).2.1 1 = .ok (.iload_n 0, 1) := by decide +kernel
theorem dX6_within_2 : decode (mX6_within).2.1 2 = .ok (.if_icmp .gt 12, 3) := by decide +kernel
theorem dX6_within_5 : decode (mX6_within).2.1 5 = .ok (.iload_n 0, 1) := by decide +kernel
theorem dX6_within_6 : decode (mX6_within).2.1 6 = .ok (.iload_n 2, 1) := by decide +kernel
theorem dX6_within_7 : decode (mX6_within).2.1 7 = .ok (.if_icmp .gt 7, 3) := by decide +kernel
theorem dX6_within_10 : decode (mX6_within).2.1 10 = .ok (.iconst 1, 1) := by decide +kernel
theorem dX6_within_11 : decode (mX6_within).2.1 11 = .ok (.goto 4, 3) := by decide +kernel
theorem dX6_within_14 : decode (mX6_within).2.1 14 = .ok (.iconst 0, 1) := by decide +kernel
theorem dX6_within_15 : decode (mX6_within).2.1 15 = .ok (.ireturn, 1) := by decide +kernel
theorem dX6_isYard_0 : decode (mX6_isYard).2.1 0 = .ok (.iconst 0, 1) := by decide +kernel
theorem dX6_isYard_1 : decode (mX6_isYard).2.1 1 = .ok (.iload_n 0, 1) := by decide +kernel
theorem dX6_isYard_2 : decode (mX6_isYard).2.1 2 = .ok (.if_icmp .gt 13, 3) := by decide +kernel
theorem dX6_isYard_5 : decode (mX6_isYard).2.1 5 = .ok (.iload_n 0, 1) := by decide +kernel
theorem dX6_isYard_6 : decode (mX6_isYard).2.1 6 = .ok (.bipush 24, 2) := by decide +kernel
theorem dX6_isYard_8 : decode (mX6_isYard).2.1 8 = .ok (.if_icmp .ge 7, 3) := by decide +kernel
theorem dX6_isYard_11 : decode (mX6_isYard).2.1 11 = .ok (.iconst 1, 1) := by decide +kernel
theorem dX6_isYard_12 : decode (mX6_isYard).2.1 12 = .ok (.goto 4, 3) := by decide +kernel
theorem dX6_isYard_15 : decode (mX6_isYard).2.1 15 = .ok (.iconst 0, 1) := by decide +kernel
theorem dX6_isYard_16 : decode (mX6_isYard).2.1 16 = .ok (.ireturn, 1) := by decide +kernel
theorem dX6_isGang_0 : decode (mX6_isGang).2.1 0 = .ok (.iconst 0, 1) := by decide +kernel
theorem dX6_isGang_1 : decode (mX6_isGang).2.1 1 = .ok (.iload_n 0, 1) := by decide +kernel
theorem dX6_isGang_2 : decode (mX6_isGang).2.1 2 = .ok (.if_icmp .gt 12, 3) := by decide +kernel
theorem dX6_isGang_5 : decode (mX6_isGang).2.1 5 = .ok (.iload_n 0, 1) := by decide +kernel
theorem dX6_isGang_6 : decode (mX6_isGang).2.1 6 = .ok (.iconst 2, 1) := by decide +kernel
theorem dX6_isGang_7 : decode (mX6_isGang).2.1 7 = .ok (.if_icmp .ge 7, 3) := by decide +kernel
theorem dX6_isGang_10 : decode (mX6_isGang).2.1 10 = .ok (.iconst 1, 1) := by decide +kernel
theorem dX6_isGang_11 : decode (mX6_isGang).2.1 11 = .ok (.goto 4, 3) := by decide +kernel
theorem dX6_isGang_14 : decode (mX6_isGang).2.1 14 = .ok (.iconst 0, 1) := by decide +kernel
theorem dX6_isGang_15 : decode (mX6_isGang).2.1 15 = .ok (.ireturn, 1) := by decide +kernel
theorem dX6_sheetOf_0 : decode (mX6_sheetOf).2.1 0 = .ok (.iconst 0, 1) := by decide +kernel
theorem dX6_sheetOf_1 : decode (mX6_sheetOf).2.1 1 = .ok (.iload_n 1, 1) := by decide +kernel
theorem dX6_sheetOf_2 : decode (mX6_sheetOf).2.1 2 = .ok (.if_icmp .gt 17, 3) := by decide +kernel
theorem dX6_sheetOf_5 : decode (mX6_sheetOf).2.1 5 = .ok (.iload_n 1, 1) := by decide +kernel
theorem dX6_sheetOf_6 : decode (mX6_sheetOf).2.1 6 = .ok (.iconst 4, 1) := by decide +kernel
theorem dX6_sheetOf_7 : decode (mX6_sheetOf).2.1 7 = .ok (.if_icmp .ge 12, 3) := by decide +kernel
theorem dX6_sheetOf_10 : decode (mX6_sheetOf).2.1 10 = .ok (.aload_n 0, 1) := by decide +kernel
theorem dX6_sheetOf_11 : decode (mX6_sheetOf).2.1 11 = .ok (.getfield 31, 3) := by decide +kernel
theorem dX6_sheetOf_14 : decode (mX6_sheetOf).2.1 14 = .ok (.iload_n 1, 1) := by decide +kernel
theorem dX6_sheetOf_15 : decode (mX6_sheetOf).2.1 15 = .ok (.aaload, 1) := by decide +kernel
theorem dX6_sheetOf_16 : decode (mX6_sheetOf).2.1 16 = .ok (.goto 4, 3) := by decide +kernel
theorem dX6_sheetOf_19 : decode (mX6_sheetOf).2.1 19 = .ok (.aconst_null, 1) := by decide +kernel
theorem dX6_sheetOf_20 : decode (mX6_sheetOf).2.1 20 = .ok (.areturn, 1) := by decide +kernel
theorem dX7_in_0 : decode (mX7_in).2.1 0 = .ok (.lload_n 0, 1) := by decide +kernel
theorem dX7_in_1 : decode (mX7_in).2.1 1 = .ok (.lload_n 2, 1) := by decide +kernel
theorem dX7_in_2 : decode (mX7_in).2.1 2 = .ok (.lcmp, 1) := by decide +kernel
theorem dX7_in_3 : decode (mX7_in).2.1 3 = .ok (.ifCond .lt 14, 3) := by decide +kernel
theorem dX7_in_6 : decode (mX7_in).2.1 6 = .ok (.lload_n 0, 1) := by decide +kernel
theorem dX7_in_7 : decode (mX7_in).2.1 7 = .ok (.lload 4, 2) := by decide +kernel
theorem dX7_in_9 : decode (mX7_in).2.1 9 = .ok (.lcmp, 1) := by decide +kernel
theorem dX7_in_10 : decode (mX7_in).2.1 10 = .ok (.ifCond .gt 7, 3) := by decide +kernel
theorem dX7_in_13 : decode (mX7_in).2.1 13 = .ok (.iconst 1, 1) := by decide +kernel
theorem dX7_in_14 : decode (mX7_in).2.1 14 = .ok (.goto 4, 3) := by decide +kernel
theorem dX7_in_17 : decode (mX7_in).2.1 17 = .ok (.iconst 0, 1) := by decide +kernel
theorem dX7_in_18 : decode (mX7_in).2.1 18 = .ok (.ireturn, 1) := by decide +kernel
theorem dX7_within_0 : decode (mX7_within).2.1 0 = .ok (.iload_n 0, 1) := by decide +kernel
theorem dX7_within_1 : decode (mX7_within).2.1 1 = .ok (.iload_n 1, 1) := by decide +kernel
theorem dX7_within_2 : decode (mX7_within).2.1 2 = .ok (.if_icmp .ge 7, 3) := by decide +kernel
theorem dX7_within_5 : decode (mX7_within).2.1 5 = .ok (.iload_n 1, 1) := by decide +kernel
theorem dX7_within_6 : decode (mX7_within).2.1 6 = .ok (.goto 13, 3) := by decide +kernel
theorem dX7_within_9 : decode (mX7_within).2.1 9 = .ok (.iload_n 0, 1) := by decide +kernel
theorem dX7_within_10 : decode (mX7_within).2.1 10 = .ok (.iload_n 2, 1) := by decide +kernel
theorem dX7_within_11 : decode (mX7_within).2.1 11 = .ok (.if_icmp .le 7, 3) := by decide +kernel
theorem dX7_within_14 : decode (mX7_within).2.1 14 = .ok (.iload_n 2, 1) := by decide +kernel
theorem dX7_within_15 : decode (mX7_within).2.1 15 = .ok (.goto 4, 3) := by decide +kernel
theorem dX7_within_18 : decode (mX7_within).2.1 18 = .ok (.iload_n 0, 1) := by decide +kernel
theorem dX7_within_19 : decode (mX7_within).2.1 19 = .ok (.ireturn, 1) := by decide +kernel
theorem dX7_init_0 : decode (mX7_init).2.1 0 = .ok (.aload_n 0, 1) := by decide +kernel
theorem dX7_init_1 : decode (mX7_init).2.1 1 = .ok (.invokespecial 7, 3) := by decide +kernel
theorem dX7_init_4 : decode (mX7_init).2.1 4 = .ok (.aload_n 0, 1) := by decide +kernel
theorem dX7_init_5 : decode (mX7_init).2.1 5 = .ok (.sipush 960, 3) := by decide +kernel
theorem dX7_init_8 : decode (mX7_init).2.1 8 = .ok (.newarray .int, 2) := by decide +kernel
theorem dX7_init_10 : decode (mX7_init).2.1 10 = .ok (.putfield 13, 3) := by decide +kernel
theorem dX7_init_13 : decode (mX7_init).2.1 13 = .ok (.aload_n 0, 1) := by decide +kernel
theorem dX7_init_14 : decode (mX7_init).2.1 14 = .ok (.bipush 6, 2) := by decide +kernel
theorem dX7_init_16 : decode (mX7_init).2.1 16 = .ok (.newarray .int, 2) := by decide +kernel
theorem dX7_init_18 : decode (mX7_init).2.1 18 = .ok (.putfield 17, 3) := by decide +kernel
theorem dX7_init_21 : decode (mX7_init).2.1 21 = .ok (.aload_n 0, 1) := by decide +kernel
theorem dX7_init_22 : decode (mX7_init).2.1 22 = .ok (.sipush 160, 3) := by decide +kernel
theorem dX7_init_25 : decode (mX7_init).2.1 25 = .ok (.newarray .int, 2) := by decide +kernel
theorem dX7_init_27 : decode (mX7_init).2.1 27 = .ok (.putfield 20, 3) := by decide +kernel
theorem dX7_init_30 : decode (mX7_init).2.1 30 = .ok (.aload_n 0, 1) := by decide +kernel
theorem dX7_init_31 : decode (mX7_init).2.1 31 = .ok (.bipush 24, 2) := by decide +kernel
theorem dX7_init_33 : decode (mX7_init).2.1 33 = .ok (.newarray .int, 2) := by decide +kernel
theorem dX7_init_35 : decode (mX7_init).2.1 35 = .ok (.putfield 23, 3) := by decide +kernel
theorem dX7_init_38 : decode (mX7_init).2.1 38 = .ok (.aload_n 0, 1) := by decide +kernel
theorem dX7_init_39 : decode (mX7_init).2.1 39 = .ok (.bipush 24, 2) := by decide +kernel
theorem dX7_init_41 : decode (mX7_init).2.1 41 = .ok (.newarray .int, 2) := by decide +kernel
theorem dX7_init_43 : decode (mX7_init).2.1 43 = .ok (.putfield 26, 3) := by decide +kernel
theorem dX7_init_46 : decode (mX7_init).2.1 46 = .ok (.aload_n 0, 1) := by decide +kernel
theorem dX7_init_47 : decode (mX7_init).2.1 47 = .ok (.iconst 2, 1) := by decide +kernel
theorem dX7_init_48 : decode (mX7_init).2.1 48 = .ok (.newarray .int, 2) := by decide +kernel
theorem dX7_init_50 : decode (mX7_init).2.1 50 = .ok (.putfield 29, 3) := by decide +kernel
theorem dX7_init_53 : decode (mX7_init).2.1 53 = .ok (.aload_n 0, 1) := by decide +kernel
theorem dX7_init_54 : decode (mX7_init).2.1 54 = .ok (.iconst 2, 1) := by decide +kernel
theorem dX7_init_55 : decode (mX7_init).2.1 55 = .ok (.newarray .int, 2) := by decide +kernel
theorem dX7_init_57 : decode (mX7_init).2.1 57 = .ok (.putfield 32, 3) := by decide +kernel
theorem dX7_init_60 : decode (mX7_init).2.1 60 = .ok (.aload_n 0, 1) := by decide +kernel
theorem dX7_init_61 : decode (mX7_init).2.1 61 = .ok (.iconst 2, 1) := by decide +kernel
theorem dX7_init_62 : decode (mX7_init).2.1 62 = .ok (.newarray .int, 2) := by decide +kernel
theorem dX7_init_64 : decode (mX7_init).2.1 64 = .ok (.putfield 35, 3) := by decide +kernel
theorem dX7_init_67 : decode (mX7_init).2.1 67 = .ok (.aload_n 0, 1) := by decide +kernel
theorem dX7_init_68 : decode (mX7_init).2.1 68 = .ok (.iconst 2, 1) := by decide +kernel
theorem dX7_init_69 : decode (mX7_init).2.1 69 = .ok (.newarray .int, 2) := by decide +kernel
theorem dX7_init_71 : decode (mX7_init).2.1 71 = .ok (.putfield 38, 3) := by decide +kernel
theorem dX7_init_74 : decode (mX7_init).2.1 74 = .ok (.aload_n 0, 1) := by decide +kernel
theorem dX7_init_75 : decode (mX7_init).2.1 75 = .ok (.iconst 2, 1) := by decide +kernel
theorem dX7_init_76 : decode (mX7_init).2.1 76 = .ok (.newarray .int, 2) := by decide +kernel
theorem dX7_init_78 : decode (mX7_init).2.1 78 = .ok (.putfield 41, 3) := by decide +kernel
theorem dX7_init_81 : decode (mX7_init).2.1 81 = .ok (.aload_n 0, 1) := by decide +kernel
theorem dX7_init_82 : decode (mX7_init).2.1 82 = .ok (.iconst 2, 1) := by decide +kernel
theorem dX7_init_83 : decode (mX7_init).2.1 83 = .ok (.newarray .int, 2) := by decide +kernel
theorem dX7_init_85 : decode (mX7_init).2.1 85 = .ok (.putfield 44, 3) := by decide +kernel
theorem dX7_init_88 : decode (mX7_init).2.1 88 = .ok (.aload_n 0, 1) := by decide +kernel
theorem dX7_init_89 : decode (mX7_init).2.1 89 = .ok (.iconst 2, 1) := by decide +kernel
theorem dX7_init_90 : decode (mX7_init).2.1 90 = .ok (.newarray .int, 2) := by decide +kernel
theorem dX7_init_92 : decode (mX7_init).2.1 92 = .ok (.putfield 47, 3) := by decide +kernel
theorem dX7_init_95 : decode (mX7_init).2.1 95 = .ok (.aload_n 0, 1) := by decide +kernel
theorem dX7_init_96 : decode (mX7_init).2.1 96 = .ok (.bipush 50, 2) := by decide +kernel
theorem dX7_init_98 : decode (mX7_init).2.1 98 = .ok (.putfield 50, 3) := by decide +kernel
theorem dX7_init_101 : decode (mX7_init).2.1 101 = .ok (.aload_n 0, 1) := by decide +kernel
theorem dX7_init_102 : decode (mX7_init).2.1 102 = .ok (.iconst 3, 1) := by decide +kernel
theorem dX7_init_103 : decode (mX7_init).2.1 103 = .ok (.putfield 53, 3) := by decide +kernel
theorem dX7_init_106 : decode (mX7_init).2.1 106 = .ok (.aload_n 0, 1) := by decide +kernel
theorem dX7_init_107 : decode (mX7_init).2.1 107 = .ok (.bipush 24, 2) := by decide +kernel
theorem dX7_init_109 : decode (mX7_init).2.1 109 = .ok (.newarray .int, 2) := by decide +kernel
theorem dX7_init_111 : decode (mX7_init).2.1 111 = .ok (.putfield 56, 3) := by decide +kernel
theorem dX7_init_114 : decode (mX7_init).2.1 114 = .ok (.aload_n 0, 1) := by decide +kernel
theorem dX7_init_115 : decode (mX7_init).2.1 115 = .ok (.bipush 24, 2) := by decide +kernel
theorem dX7_init_117 : decode (mX7_init).2.1 117 = .ok (.newarray .int, 2) := by decide +kernel
theorem dX7_init_119 : decode (mX7_init).2.1 119 = .ok (.putfield 59, 3) := by decide +kernel
theorem dX7_init_122 : decode (mX7_init).2.1 122 = .ok (.aload_n 0, 1) := by decide +kernel
theorem dX7_init_123 : decode (mX7_init).2.1 123 = .ok (.bipush 10, 2) := by decide +kernel
theorem dX7_init_125 : decode (mX7_init).2.1 125 = .ok (.newarray .int, 2) := by decide +kernel
theorem dX7_init_127 : decode (mX7_init).2.1 127 = .ok (.putfield 62, 3) := by decide +kernel
theorem dX7_init_130 : decode (mX7_init).2.1 130 = .ok (.aload_n 0, 1) := by decide +kernel
theorem dX7_init_131 : decode (mX7_init).2.1 131 = .ok (.bipush 24, 2) := by decide +kernel
theorem dX7_init_133 : decode (mX7_init).2.1 133 = .ok (.newarray .int, 2) := by decide +kernel
theorem dX7_init_135 : decode (mX7_init).2.1 135 = .ok (.putfield 65, 3) := by decide +kernel
theorem dX7_init_138 : decode (mX7_init).2.1 138 = .ok (.aload_n 0, 1) := by decide +kernel
theorem dX7_init_139 : decode (mX7_init).2.1 139 = .ok (.bipush 24, 2) := by decide +kernel
theorem dX7_init_141 : decode (mX7_init).2.1 141 = .ok (.newarray .int, 2) := by decide +kernel
theorem dX7_init_143 : decode (mX7_init).2.1 143 = .ok (.putfield 68, 3) := by decide +kernel
theorem dX7_init_146 : decode (mX7_init).2.1 146 = .ok (.aload_n 0, 1) := by decide +kernel
theorem dX7_init_147 : decode (mX7_init).2.1 147 = .ok (.bipush 10, 2) := by decide +kernel
theorem dX7_init_149 : decode (mX7_init).2.1 149 = .ok (.newarray .int, 2) := by decide +kernel
theorem dX7_init_151 : decode (mX7_init).2.1 151 = .ok (.putfield 71, 3) := by decide +kernel
theorem dX7_init_154 : decode (mX7_init).2.1 154 = .ok (.aload_n 0, 1) := by decide +kernel
theorem dX7_init_155 : decode (mX7_init).2.1 155 = .ok (.iconst 4, 1) := by decide +kernel
theorem dX7_init_156 : decode (mX7_init).2.1 156 = .ok (.newarray .boolean, 2) := by decide +kernel
theorem dX7_init_158 : decode (mX7_init).2.1 158 = .ok (.putfield 74, 3) := by decide +kernel
theorem dX7_init_161 : decode (mX7_init).2.1 161 = .ok (.aload_n 0, 1) := by decide +kernel
theorem dX7_init_162 : decode (mX7_init).2.1 162 = .ok (.iconst 4, 1) := by decide +kernel
theorem dX7_init_163 : decode (mX7_init).2.1 163 = .ok (.newarray .int, 2) := by decide +kernel
theorem dX7_init_165 : decode (mX7_init).2.1 165 = .ok (.putfield 78, 3) := by decide +kernel
theorem dX7_init_168 : decode (mX7_init).2.1 168 = .ok (.aload_n 0, 1) := by decide +kernel
theorem dX7_init_169 : decode (mX7_init).2.1 169 = .ok (.iconst 4, 1) := by decide +kernel
theorem dX7_init_170 : decode (mX7_init).2.1 170 = .ok (.newarray .int, 2) := by decide +kernel
theorem dX7_init_172 : decode (mX7_init).2.1 172 = .ok (.putfield 81, 3) := by decide +kernel
theorem dX7_init_175 : decode (mX7_init).2.1 175 = .ok (.aload_n 0, 1) := by decide +kernel
theorem dX7_init_176 : decode (mX7_init).2.1 176 = .ok (.sipush 160, 3) := by decide +kernel
theorem dX7_init_179 : decode (mX7_init).2.1 179 = .ok (.newarray .int, 2) := by decide +kernel
theorem dX7_init_181 : decode (mX7_init).2.1 181 = .ok (.putfield 84, 3) := by decide +kernel
theorem dX7_init_184 : decode (mX7_init).2.1 184 = .ok (.aload_n 0, 1) := by decide +kernel
theorem dX7_init_185 : decode (mX7_init).2.1 185 = .ok (.iconst 0, 1) := by decide +kernel
theorem dX7_init_186 : decode (mX7_init).2.1 186 = .ok (.bipush 114, 2) := by decide +kernel
theorem dX7_init_188 : decode (mX7_init).2.1 188 = .ok (.bipush 97, 2) := by decide +kernel
theorem dX7_init_190 : decode (mX7_init).2.1 190 = .ok (.bipush 116, 2) := by decide +kernel
theorem dX7_init_192 : decode (mX7_init).2.1 192 = .ok (.bipush 101, 2) := by decide +kernel
theorem dX7_init_194 : decode (mX7_init).2.1 194 = .ok (.bipush 32, 2) := by decide +kernel
theorem dX7_init_196 : decode (mX7_init).2.1 196 = .ok (.bipush 109, 2) := by decide +kernel
theorem dX7_init_198 : decode (mX7_init).2.1 198 = .ok (.bipush 101, 2) := by decide +kernel
theorem dX7_init_200 : decode (mX7_init).2.1 200 = .ok (.bipush 110, 2) := by decide +kernel
theorem dX7_init_202 : decode (mX7_init).2.1 202 = .ok (.invokevirtual 87, 3) := by decide +kernel
theorem dX7_init_205 : decode (mX7_init).2.1 205 = .ok (.aload_n 0, 1) := by decide +kernel
theorem dX7_init_206 : decode (mX7_init).2.1 206 = .ok (.bipush 8, 2) := by decide +kernel
theorem dX7_init_208 : decode (mX7_init).2.1 208 = .ok (.bipush 32, 2) := by decide +kernel
theorem dX7_init_210 : decode (mX7_init).2.1 210 = .ok (.bipush 42, 2) := by decide +kernel
theorem dX7_init_212 : decode (mX7_init).2.1 212 = .ok (.bipush 32, 2) := by decide +kernel
theorem dX7_init_214 : decode (mX7_init).2.1 214 = .ok (.bipush 52, 2) := by decide +kernel
theorem dX7_init_216 : decode (mX7_init).2.1 216 = .ok (.bipush 32, 2) := by decide +kernel
theorem dX7_init_218 : decode (mX7_init).2.1 218 = .ok (.bipush 59, 2) := by decide +kernel
theorem dX7_init_220 : decode (mX7_init).2.1 220 = .ok (.bipush 32, 2) := by decide +kernel
theorem dX7_init_222 : decode (mX7_init).2.1 222 = .ok (.bipush 110, 2) := by decide +kernel
theorem dX7_init_224 : decode (mX7_init).2.1 224 = .ok (.invokevirtual 87, 3) := by decide +kernel
theorem dX7_init_227 : decode (mX7_init).2.1 227 = .ok (.aload_n 0, 1) := by decide +kernel
theorem dX7_init_228 : decode (mX7_init).2.1 228 = .ok (.bipush 16, 2) := by decide +kernel
theorem dX7_init_230 : decode (mX7_init).2.1 230 = .ok (.bipush 101, 2) := by decide +kernel
theorem dX7_init_232 : decode (mX7_init).2.1 232 = .ok (.bipush 101, 2) := by decide +kernel
theorem dX7_init_234 : decode (mX7_init).2.1 234 = .ok (.bipush 100, 2) := by decide +kernel
theorem dX7_init_236 : decode (mX7_init).2.1 236 = .ok (.bipush 32, 2) := by decide +kernel
theorem dX7_init_238 : decode (mX7_init).2.1 238 = .ok (.bipush 51, 2) := by decide +kernel
theorem dX7_init_240 : decode (mX7_init).2.1 240 = .ok (.bipush 48, 2) := by decide +kernel
theorem dX7_init_242 : decode (mX7_init).2.1 242 = .ok (.bipush 32, 2) := by decide +kernel
theorem dX7_init_244 : decode (mX7_init).2.1 244 = .ok (.bipush 43, 2) := by decide +kernel
theorem dX7_init_246 : decode (mX7_init).2.1 246 = .ok (.invokevirtual 87, 3) := by decide +kernel
theorem dX7_init_249 : decode (mX7_init).2.1 249 = .ok (.aload_n 0, 1) := by decide +kernel
theorem dX7_init_250 : decode (mX7_init).2.1 250 = .ok (.bipush 24, 2) := by decide +kernel
theorem dX7_init_252 : decode (mX7_init).2.1 252 = .ok (.bipush 32, 2) := by decide +kernel
theorem dX7_init_254 : decode (mX7_init).2.1 254 = .ok (.bipush 103, 2) := by decide +kernel
theorem dX7_init_256 : decode (mX7_init).2.1 256 = .ok (.bipush 114, 2) := by decide +kernel
theorem dX7_init_258 : decode (mX7_init).2.1 258 = .ok (.bipush 111, 2) := by decide +kernel
theorem dX7_init_260 : decode (mX7_init).2.1 260 = .ok (.bipush 117, 2) := by decide +kernel
theorem dX7_init_262 : decode (mX7_init).2.1 262 = .ok (.bipush 110, 2) := by decide +kernel
theorem dX7_init_264 : decode (mX7_init).2.1 264 = .ok (.bipush 100, 2) := by decide +kernel
theorem dX7_init_266 : decode (mX7_init).2.1 266 = .ok (.bipush 32, 2) := by decide +kernel
theorem dX7_init_268 : decode (mX7_init).2.1 268 = .ok (.invokevirtual 87, 3) := by decide +kernel
theorem dX7_init_271 : decode (mX7_init).2.1 271 = .ok (.aload_n 0, 1) := by decide +kernel
theorem dX7_init_272 : decode (mX7_init).2.1 272 = .ok (.bipush 32, 2) := by decide +kernel
theorem dX7_init_274 : decode (mX7_init).2.1 274 = .ok (.bipush 42, 2) := by decide +kernel
theorem dX7_init_276 : decode (mX7_init).2.1 276 = .ok (.bipush 32, 2) := by decide +kernel
theorem dX7_init_278 : decode (mX7_init).2.1 278 = .ok (.bipush 50, 2) := by decide +kernel
theorem dX7_init_280 : decode (mX7_init).2.1 280 = .ok (.bipush 53, 2) := by decide +kernel
theorem dX7_init_282 : decode (mX7_init).2.1 282 = .ok (.bipush 32, 2) := by decide +kernel
theorem dX7_init_284 : decode (mX7_init).2.1 284 = .ok (.bipush 59, 2) := by decide +kernel
theorem dX7_init_286 : decode (mX7_init).2.1 286 = .ok (.bipush 32, 2) := by decide +kernel
theorem dX7_init_288 : decode (mX7_init).2.1 288 = .ok (.bipush 119, 2) := by decide +kernel
theorem dX7_init_290 : decode (mX7_init).2.1 290 = .ok (.invokevirtual 87, 3) := by decide +kernel
theorem dX7_init_293 : decode (mX7_init).2.1 293 = .ok (.aload_n 0, 1) := by decide +kernel
theorem dX7_init_294 : decode (mX7_init).2.1 294 = .ok (.bipush 40, 2) := by decide +kernel
theorem dX7_init_296 : decode (mX7_init).2.1 296 = .ok (.bipush 111, 2) := by decide +kernel
theorem dX7_init_298 : decode (mX7_init).2.1 298 = .ok (.bipush 114, 2) := by decide +kernel
theorem dX7_init_300 : decode (mX7_init).2.1 300 = .ok (.bipush 116, 2) := by decide +kernel
theorem dX7_init_302 : decode (mX7_init).2.1 302 = .ok (.bipush 104, 2) := by decide +kernel
theorem dX7_init_304 : decode (mX7_init).2.1 304 = .ok (.bipush 32, 2) := by decide +kernel
theorem dX7_init_306 : decode (mX7_init).2.1 306 = .ok (.bipush 48, 2) := by decide +kernel
theorem dX7_init_308 : decode (mX7_init).2.1 308 = .ok (.bipush 32, 2) := by decide +kernel
theorem dX7_init_310 : decode (mX7_init).2.1 310 = .ok (.bipush 59, 2) := by decide +kernel
theorem dX7_init_312 : decode (mX7_init).2.1 312 = .ok (.invokevirtual 87, 3) := by decide +kernel
theorem dX7_init_315 : decode (mX7_init).2.1 315 = .ok (.aload_n 0, 1) := by decide +kernel
theorem dX7_init_316 : decode (mX7_init).2.1 316 = .ok (.getfield 17, 3) := by decide +kernel
theorem dX7_init_319 : decode (mX7_init).2.1 319 = .ok (.iconst 0, 1) := by decide +kernel
theorem dX7_init_320 : decode (mX7_init).2.1 320 = .ok (.bipush 48, 2) := by decide +kernel
theorem dX7_init_322 : decode (mX7_init).2.1 322 = .ok (.iastore, 1) := by decide +kernel
theorem dX7_init_323 : decode (mX7_init).2.1 323 = .ok (.aload_n 0, 1) := by decide +kernel
theorem dX7_init_324 : decode (mX7_init).2.1 324 = .ok (.iconst 1, 1) := by decide +kernel
theorem dX7_init_325 : decode (mX7_init).2.1 325 = .ok (.putfield 91, 3) := by decide +kernel
theorem dX7_init_328 : decode (mX7_init).2.1 328 = .ok (.aload_n 0, 1) := by decide +kernel
theorem dX7_init_329 : decode (mX7_init).2.1 329 = .ok (.getfield 35, 3) := by decide +kernel
theorem dX7_init_332 : decode (mX7_init).2.1 332 = .ok (.iconst 0, 1) := by decide +kernel
theorem dX7_init_333 : decode (mX7_init).2.1 333 = .ok (.bipush 10, 2) := by decide +kernel
theorem dX7_init_335 : decode (mX7_init).2.1 335 = .ok (.iastore, 1) := by decide +kernel
theorem dX7_init_336 : decode (mX7_init).2.1 336 = .ok (.aload_n 0, 1) := by decide +kernel
theorem dX7_init_337 : decode (mX7_init).2.1 337 = .ok (.getfield 35, 3) := by decide +kernel
theorem dX7_init_340 : decode (mX7_init).2.1 340 = .ok (.iconst 1, 1) := by decide +kernel
theorem dX7_init_341 : decode (mX7_init).2.1 341 = .ok (.bipush 10, 2) := by decide +kernel
theorem dX7_init_343 : decode (mX7_init).2.1 343 = .ok (.iastore, 1) := by decide +kernel
theorem dX7_init_344 : decode (mX7_init).2.1 344 = .ok (.return_, 1) := by decide +kernel
theorem dX7_spell_0 : decode (mX7_spell).2.1 0 = .ok (.aload_n 0, 1) := by decide +kernel
theorem dX7_spell_1 : decode (mX7_spell).2.1 1 = .ok (.getfield 13, 3) := by decide +kernel
theorem dX7_spell_4 : decode (mX7_spell).2.1 4 = .ok (.iload_n 1, 1) := by decide +kernel
theorem dX7_spell_5 : decode (mX7_spell).2.1 5 = .ok (.iload_n 2, 1) := by decide +kernel
theorem dX7_spell_6 : decode (mX7_spell).2.1 6 = .ok (.iastore, 1) := by decide +kernel
theorem dX7_spell_7 : decode (mX7_spell).2.1 7 = .ok (.aload_n 0, 1) := by decide +kernel
theorem dX7_spell_8 : decode (mX7_spell).2.1 8 = .ok (.getfield 13, 3) := by decide +kernel
theorem dX7_spell_11 : decode (mX7_spell).2.1 11 = .ok (.iload_n 1, 1) := by decide +kernel
theorem dX7_spell_12 : decode (mX7_spell).2.1 12 = .ok (.iconst 1, 1) := by decide +kernel
theorem dX7_spell_13 : decode (mX7_spell).2.1 13 = .ok (.iadd, 1) := by decide +kernel
theorem dX7_spell_14 : decode (mX7_spell).2.1 14 = .ok (.iload_n 3, 1) := by decide +kernel
theorem dX7_spell_15 : decode (mX7_spell).2.1 15 = .ok (.iastore, 1) := by decide +kernel
theorem dX7_spell_16 : decode (mX7_spell).2.1 16 = .ok (.aload_n 0, 1) := by decide +kernel
theorem dX7_spell_17 : decode (mX7_spell).2.1 17 = .ok (.getfield 13, 3) := by decide +kernel
theorem dX7_spell_20 : decode (mX7_spell).2.1 20 = .ok (.iload_n 1, 1) := by decide +kernel
theorem dX7_spell_21 : decode (mX7_spell).2.1 21 = .ok (.iconst 2, 1) := by decide +kernel
theorem dX7_spell_22 : decode (mX7_spell).2.1 22 = .ok (.iadd, 1) := by decide +kernel
theorem dX7_spell_23 : decode (mX7_spell).2.1 23 = .ok (.iload 4, 2) := by decide +kernel
theorem dX7_spell_25 : decode (mX7_spell).2.1 25 = .ok (.iastore, 1) := by decide +kernel
theorem dX7_spell_26 : decode (mX7_spell).2.1 26 = .ok (.aload_n 0, 1) := by decide +kernel
theorem dX7_spell_27 : decode (mX7_spell).2.1 27 = .ok (.getfield 13, 3) := by decide +kernel
theorem dX7_spell_30 : decode (mX7_spell).2.1 30 = .ok (.iload_n 1, 1) := by decide +kernel
theorem dX7_spell_31 : decode (mX7_spell).2.1 31 = .ok (.iconst 3, 1) := by decide +kernel
theorem dX7_spell_32 : decode (mX7_spell).2.1 32 = .ok (.iadd, 1) := by decide +kernel
theorem dX7_spell_33 : decode (mX7_spell).2.1 33 = .ok (.iload 5, 2) := by decide +kernel
theorem dX7_spell_35 : decode (mX7_spell).2.1 35 = .ok (.iastore, 1) := by decide +kernel
theorem dX7_spell_36 : decode (mX7_spell).2.1 36 = .ok (.aload_n 0, 1) := by decide +kernel
theorem dX7_spell_37 : decode (mX7_spell).2.1 37 = .ok (.getfield 13, 3) := by decide +kernel
theorem dX7_spell_40 : decode (mX7_spell).2.1 40 = .ok (.iload_n 1, 1) := by decide +kernel
theorem dX7_spell_41 : decode (mX7_spell).2.1 41 = .ok (.iconst 4, 1) := by decide +kernel
theorem dX7_spell_42 : decode (mX7_spell).2.1 42 = .ok (.iadd, 1) := by decide +kernel
theorem dX7_spell_43 : decode (mX7_spell).2.1 43 = .ok (.iload 6, 2) := by decide +kernel
theorem dX7_spell_45 : decode (mX7_spell).2.1 45 = .ok (.iastore, 1) := by decide +kernel
theorem dX7_spell_46 : decode (mX7_spell).2.1 46 = .ok (.aload_n 0, 1) := by decide +kernel
theorem dX7_spell_47 : decode (mX7_spell).2.1 47 = .ok (.getfield 13, 3) := by decide +kernel
theorem dX7_spell_50 : decode (mX7_spell).2.1 50 = .ok (.iload_n 1, 1) := by decide +kernel
theorem dX7_spell_51 : decode (mX7_spell).2.1 51 = .ok (.iconst 5, 1) := by decide +kernel
theorem dX7_spell_52 : decode (mX7_spell).2.1 52 = .ok (.iadd, 1) := by decide +kernel
theorem dX7_spell_53 : decode (mX7_spell).2.1 53 = .ok (.iload 7, 2) := by decide +kernel
theorem dX7_spell_55 : decode (mX7_spell).2.1 55 = .ok (.iastore, 1) := by decide +kernel
theorem dX7_spell_56 : decode (mX7_spell).2.1 56 = .ok (.aload_n 0, 1) := by decide +kernel
theorem dX7_spell_57 : decode (mX7_spell).2.1 57 = .ok (.getfield 13, 3) := by decide +kernel
theorem dX7_spell_60 : decode (mX7_spell).2.1 60 = .ok (.iload_n 1, 1) := by decide +kernel
theorem dX7_spell_61 : decode (mX7_spell).2.1 61 = .ok (.bipush 6, 2) := by decide +kernel
theorem dX7_spell_63 : decode (mX7_spell).2.1 63 = .ok (.iadd, 1) := by decide +kernel
theorem dX7_spell_64 : decode (mX7_spell).2.1 64 = .ok (.iload 8, 2) := by decide +kernel
theorem dX7_spell_66 : decode (mX7_spell).2.1 66 = .ok (.iastore, 1) := by decide +kernel
theorem dX7_spell_67 : decode (mX7_spell).2.1 67 = .ok (.aload_n 0, 1) := by decide +kernel
theorem dX7_spell_68 : decode (mX7_spell).2.1 68 = .ok (.getfield 13, 3) := by decide +kernel
theorem dX7_spell_71 : decode (mX7_spell).2.1 71 = .ok (.iload_n 1, 1) := by decide +kernel
theorem dX7_spell_72 : decode (mX7_spell).2.1 72 = .ok (.bipush 7, 2) := by decide +kernel
theorem dX7_spell_74 : decode (mX7_spell).2.1 74 = .ok (.iadd, 1) := by decide +kernel
theorem dX7_spell_75 : decode (mX7_spell).2.1 75 = .ok (.iload 9, 2) := by decide +kernel
theorem dX7_spell_77 : decode (mX7_spell).2.1 77 = .ok (.iastore, 1) := by decide +kernel
theorem dX7_spell_78 : decode (mX7_spell).2.1 78 = .ok (.return_, 1) := by decide +kernel
theorem dX7_isYard_0 : decode (mX7_isYard).2.1 0 = .ok (.iload_n 0, 1) := by decide +kernel
theorem dX7_isYard_1 : decode (mX7_isYard).2.1 1 = .ok (.i2l, 1) := by decide +kernel
theorem dX7_isYard_2 : decode (mX7_isYard).2.1 2 = .ok (.lconst 0, 1) := by decide +kernel
theorem dX7_isYard_3 : decode (mX7_isYard).2.1 3 = .ok (.ldc2_w 94, 3) := by decide +kernel
theorem dX7_isYard_6 : decode (mX7_isYard).2.1 6 = .ok (.invokestatic 96, 3) := by decide +kernel
theorem dX7_isYard_9 : decode (mX7_isYard).2.1 9 = .ok (.ireturn, 1) := by decide +kernel
theorem dX7_isGang_0 : decode (mX7_isGang).2.1 0 = .ok (.iload_n 0, 1) := by decide +kernel
theorem dX7_isGang_1 : decode (mX7_isGang).2.1 1 = .ok (.i2l, 1) := by decide +kernel
theorem dX7_isGang_2 : decode (mX7_isGang).2.1 2 = .ok (.lconst 0, 1) := by decide +kernel
theorem dX7_isGang_3 : decode (mX7_isGang).2.1 3 = .ok (.lconst 1, 1) := by decide +kernel
theorem dX7_isGang_4 : decode (mX7_isGang).2.1 4 = .ok (.invokestatic 96, 3) := by decide +kernel
theorem dX7_isGang_7 : decode (mX7_isGang).2.1 7 = .ok (.ireturn, 1) := by decide +kernel
theorem dX7_left_0 : decode (mX7_left).2.1 0 = .ok (.bipush 24, 2) := by decide +kernel
theorem dX7_left_2 : decode (mX7_left).2.1 2 = .ok (.aload_n 0, 1) := by decide +kernel
theorem dX7_left_3 : decode (mX7_left).2.1 3 = .ok (.getfield 38, 3) := by decide +kernel
theorem dX7_left_6 : decode (mX7_left).2.1 6 = .ok (.iconst 0, 1) := by decide +kernel
theorem dX7_left_7 : decode (mX7_left).2.1 7 = .ok (.iaload, 1) := by decide +kernel
theorem dX7_left_8 : decode (mX7_left).2.1 8 = .ok (.isub, 1) := by decide +kernel
theorem dX7_left_9 : decode (mX7_left).2.1 9 = .ok (.aload_n 0, 1) := by decide +kernel
theorem dX7_left_10 : decode (mX7_left).2.1 10 = .ok (.getfield 38, 3) := by decide +kernel
theorem dX7_left_13 : decode (mX7_left).2.1 13 = .ok (.iconst 1, 1) := by decide +kernel
theorem dX7_left_14 : decode (mX7_left).2.1 14 = .ok (.iaload, 1) := by decide +kernel
theorem dX7_left_15 : decode (mX7_left).2.1 15 = .ok (.isub, 1) := by decide +kernel
theorem dX7_left_16 : decode (mX7_left).2.1 16 = .ok (.ireturn, 1) := by decide +kernel
theorem dX7_whose_0 : decode (mX7_whose).2.1 0 = .ok (.iload_n 1, 1) := by decide +kernel
theorem dX7_whose_1 : decode (mX7_whose).2.1 1 = .ok (.aload_n 0, 1) := by decide +kernel
theorem dX7_whose_2 : decode (mX7_whose).2.1 2 = .ok (.getfield 38, 3) := by decide +kernel
theorem dX7_whose_5 : decode (mX7_whose).2.1 5 = .ok (.iconst 0, 1) := by decide +kernel
theorem dX7_whose_6 : decode (mX7_whose).2.1 6 = .ok (.iaload, 1) := by decide +kernel
theorem dX7_whose_7 : decode (mX7_whose).2.1 7 = .ok (.if_icmp .ge 7, 3) := by decide +kernel
theorem dX7_whose_10 : decode (mX7_whose).2.1 10 = .ok (.iconst 0, 1) := by decide +kernel
theorem dX7_whose_11 : decode (mX7_whose).2.1 11 = .ok (.goto 21, 3) := by decide +kernel
theorem dX7_whose_14 : decode (mX7_whose).2.1 14 = .ok (.iload_n 1, 1) := by decide +kernel
theorem dX7_whose_15 : decode (mX7_whose).2.1 15 = .ok (.bipush 24, 2) := by decide +kernel
theorem dX7_whose_17 : decode (mX7_whose).2.1 17 = .ok (.aload_n 0, 1) := by decide +kernel
theorem dX7_whose_18 : decode (mX7_whose).2.1 18 = .ok (.getfield 38, 3) := by decide +kernel
theorem dX7_whose_21 : decode (mX7_whose).2.1 21 = .ok (.iconst 1, 1) := by decide +kernel
theorem dX7_whose_22 : decode (mX7_whose).2.1 22 = .ok (.iaload, 1) := by decide +kernel
theorem dX7_whose_23 : decode (mX7_whose).2.1 23 = .ok (.isub, 1) := by decide +kernel
theorem dX7_whose_24 : decode (mX7_whose).2.1 24 = .ok (.if_icmp .lt 7, 3) := by decide +kernel
theorem dX7_whose_27 : decode (mX7_whose).2.1 27 = .ok (.iconst 1, 1) := by decide +kernel
theorem dX7_whose_28 : decode (mX7_whose).2.1 28 = .ok (.goto 4, 3) := by decide +kernel
theorem dX7_whose_31 : decode (mX7_whose).2.1 31 = .ok (.iconst (-1), 1) := by decide +kernel
theorem dX7_whose_32 : decode (mX7_whose).2.1 32 = .ok (.ireturn, 1) := by decide +kernel
theorem dX7_nextOf_0 : decode (mX7_nextOf).2.1 0 = .ok (.iload_n 1, 1) := by decide +kernel
theorem dX7_nextOf_1 : decode (mX7_nextOf).2.1 1 = .ok (.ifCond .ne 12, 3) := by decide +kernel
theorem dX7_nextOf_4 : decode (mX7_nextOf).2.1 4 = .ok (.aload_n 0, 1) := by decide +kernel
theorem dX7_nextOf_5 : decode (mX7_nextOf).2.1 5 = .ok (.getfield 38, 3) := by decide +kernel
theorem dX7_nextOf_8 : decode (mX7_nextOf).2.1 8 = .ok (.iconst 0, 1) := by decide +kernel
theorem dX7_nextOf_9 : decode (mX7_nextOf).2.1 9 = .ok (.iaload, 1) := by decide +kernel
theorem dX7_nextOf_10 : decode (mX7_nextOf).2.1 10 = .ok (.goto 12, 3) := by decide +kernel
theorem dX7_nextOf_13 : decode (mX7_nextOf).2.1 13 = .ok (.bipush 23, 2) := by decide +kernel
theorem dX7_nextOf_15 : decode (mX7_nextOf).2.1 15 = .ok (.aload_n 0, 1) := by decide +kernel
theorem dX7_nextOf_16 : decode (mX7_nextOf).2.1 16 = .ok (.getfield 38, 3) := by decide +kernel
theorem dX7_nextOf_19 : decode (mX7_nextOf).2.1 19 = .ok (.iconst 1, 1) := by decide +kernel
theorem dX7_nextOf_20 : decode (mX7_nextOf).2.1 20 = .ok (.iaload, 1) := by decide +kernel
theorem dX7_nextOf_21 : decode (mX7_nextOf).2.1 21 = .ok (.isub, 1) := by decide +kernel
theorem dX7_nextOf_22 : decode (mX7_nextOf).2.1 22 = .ok (.ireturn, 1) := by decide +kernel
theorem dX7_ground_0 : decode (mX7_ground).2.1 0 = .ok (.iload_n 1, 1) := by decide +kernel
theorem dX7_ground_1 : decode (mX7_ground).2.1 1 = .ok (.invokestatic 100, 3) := by decide +kernel
theorem dX7_ground_4 : decode (mX7_ground).2.1 4 = .ok (.ifCond .eq 33, 3) := by decide +kernel
theorem dX7_ground_7 : decode (mX7_ground).2.1 7 = .ok (.iload_n 2, 1) := by decide +kernel
theorem dX7_ground_8 : decode (mX7_ground).2.1 8 = .ok (.i2l, 1) := by decide +kernel
theorem dX7_ground_9 : decode (mX7_ground).2.1 9 = .ok (.lconst 0, 1) := by decide +kernel
theorem dX7_ground_10 : decode (mX7_ground).2.1 10 = .ok (.lconst 1, 1) := by decide +kernel
theorem dX7_ground_11 : decode (mX7_ground).2.1 11 = .ok (.invokestatic 96, 3) := by decide +kernel
theorem dX7_ground_14 : decode (mX7_ground).2.1 14 = .ok (.ifCond .eq 23, 3) := by decide +kernel
theorem dX7_ground_17 : decode (mX7_ground).2.1 17 = .ok (.iload_n 3, 1) := by decide +kernel
theorem dX7_ground_18 : decode (mX7_ground).2.1 18 = .ok (.i2l, 1) := by decide +kernel
theorem dX7_ground_19 : decode (mX7_ground).2.1 19 = .ok (.lconst 0, 1) := by decide +kernel
theorem dX7_ground_20 : decode (mX7_ground).2.1 20 = .ok (.iload_n 2, 1) := by decide +kernel
theorem dX7_ground_21 : decode (mX7_ground).2.1 21 = .ok (.ifCond .ne 9, 3) := by decide +kernel
theorem dX7_ground_24 : decode (mX7_ground).2.1 24 = .ok (.ldc2_w 104, 3) := by decide +kernel
theorem dX7_ground_27 : decode (mX7_ground).2.1 27 = .ok (.goto 4, 3) := by decide +kernel
theorem dX7_ground_30 : decode (mX7_ground).2.1 30 = .ok (.lconst 1, 1) := by decide +kernel
theorem dX7_ground_31 : decode (mX7_ground).2.1 31 = .ok (.invokestatic 96, 3) := by decide +kernel
theorem dX7_ground_34 : decode (mX7_ground).2.1 34 = .ok (.ifCond .ne 6, 3) := by decide +kernel
theorem dX7_ground_37 : decode (mX7_ground).2.1 37 = .ok (.bipush (-2), 2) := by decide +kernel
theorem dX7_ground_39 : decode (mX7_ground).2.1 39 = .ok (.ireturn, 1) := by decide +kernel
theorem dX7_ground_40 : decode (mX7_ground).2.1 40 = .ok (.iload_n 2, 1) := by decide +kernel
theorem dX7_ground_41 : decode (mX7_ground).2.1 41 = .ok (.ifCond .ne 15, 3) := by decide +kernel
theorem dX7_ground_44 : decode (mX7_ground).2.1 44 = .ok (.aload_n 0, 1) := by decide +kernel
theorem dX7_ground_45 : decode (mX7_ground).2.1 45 = .ok (.iload_n 1, 1) := by decide +kernel
theorem dX7_ground_46 : decode (mX7_ground).2.1 46 = .ok (.invokevirtual 106, 3) := by decide +kernel
theorem dX7_ground_49 : decode (mX7_ground).2.1 49 = .ok (.iconst (-1), 1) := by decide +kernel
theorem dX7_ground_50 : decode (mX7_ground).2.1 50 = .ok (.if_icmp .eq 6, 3) := by decide +kernel
theorem dX7_ground_53 : decode (mX7_ground).2.1 53 = .ok (.bipush (-3), 2) := by decide +kernel
theorem dX7_ground_55 : decode (mX7_ground).2.1 55 = .ok (.ireturn, 1) := by decide +kernel
theorem dX7_ground_56 : decode (mX7_ground).2.1 56 = .ok (.iload_n 2, 1) := by decide +kernel
theorem dX7_ground_57 : decode (mX7_ground).2.1 57 = .ok (.ifCond .ne 12, 3) := by decide +kernel
theorem dX7_ground_60 : decode (mX7_ground).2.1 60 = .ok (.aload_n 0, 1) := by decide +kernel
theorem dX7_ground_61 : decode (mX7_ground).2.1 61 = .ok (.getfield 23, 3) := by decide +kernel
theorem dX7_ground_64 : decode (mX7_ground).2.1 64 = .ok (.iload_n 1, 1) := by decide +kernel
theorem dX7_ground_65 : decode (mX7_ground).2.1 65 = .ok (.iaload, 1) := by decide +kernel
theorem dX7_ground_66 : decode (mX7_ground).2.1 66 = .ok (.goto 9, 3) := by decide +kernel
theorem dX7_ground_69 : decode (mX7_ground).2.1 69 = .ok (.aload_n 0, 1) := by decide +kernel
theorem dX7_ground_70 : decode (mX7_ground).2.1 70 = .ok (.getfield 26, 3) := by decide +kernel
theorem dX7_ground_73 : decode (mX7_ground).2.1 73 = .ok (.iload_n 1, 1) := by decide +kernel
theorem dX7_ground_74 : decode (mX7_ground).2.1 74 = .ok (.iaload, 1) := by decide +kernel
theorem dX7_ground_75 : decode (mX7_ground).2.1 75 = .ok (.istore 4, 2) := by decide +kernel
theorem dX7_ground_77 : decode (mX7_ground).2.1 77 = .ok (.iload_n 2, 1) := by decide +kernel
theorem dX7_ground_78 : decode (mX7_ground).2.1 78 = .ok (.ifCond .ne 13, 3) := by decide +kernel
theorem dX7_ground_81 : decode (mX7_ground).2.1 81 = .ok (.aload_n 0, 1) := by decide +kernel
theorem dX7_ground_82 : decode (mX7_ground).2.1 82 = .ok (.getfield 23, 3) := by decide +kernel
theorem dX7_ground_85 : decode (mX7_ground).2.1 85 = .ok (.iload_n 1, 1) := by decide +kernel
theorem dX7_ground_86 : decode (mX7_ground).2.1 86 = .ok (.iload_n 3, 1) := by decide +kernel
theorem dX7_ground_87 : decode (mX7_ground).2.1 87 = .ok (.iastore, 1) := by decide +kernel
theorem dX7_ground_88 : decode (mX7_ground).2.1 88 = .ok (.goto 10, 3) := by decide +kernel
theorem dX7_ground_91 : decode (mX7_ground).2.1 91 = .ok (.aload_n 0, 1) := by decide +kernel
theorem dX7_ground_92 : decode (mX7_ground).2.1 92 = .ok (.getfield 26, 3) := by decide +kernel
theorem dX7_ground_95 : decode (mX7_ground).2.1 95 = .ok (.iload_n 1, 1) := by decide +kernel
theorem dX7_ground_96 : decode (mX7_ground).2.1 96 = .ok (.iload_n 3, 1) := by decide +kernel
theorem dX7_ground_97 : decode (mX7_ground).2.1 97 = .ok (.iastore, 1) := by decide +kernel
theorem dX7_ground_98 : decode (mX7_ground).2.1 98 = .ok (.iload 4, 2) := by decide +kernel
theorem dX7_ground_100 : decode (mX7_ground).2.1 100 = .ok (.ireturn, 1) := by decide +kernel
theorem dX7_yard_0 : decode (mX7_yard).2.1 0 = .ok (.iload_n 1, 1) := by decide +kernel
theorem dX7_yard_1 : decode (mX7_yard).2.1 1 = .ok (.invokestatic 100, 3) := by decide +kernel
theorem dX7_yard_4 : decode (mX7_yard).2.1 4 = .ok (.ifCond .eq 15, 3) := by decide +kernel
theorem dX7_yard_7 : decode (mX7_yard).2.1 7 = .ok (.iload_n 2, 1) := by decide +kernel
theorem dX7_yard_8 : decode (mX7_yard).2.1 8 = .ok (.i2l, 1) := by decide +kernel
theorem dX7_yard_9 : decode (mX7_yard).2.1 9 = .ok (.lconst 0, 1) := by decide +kernel
theorem dX7_yard_10 : decode (mX7_yard).2.1 10 = .ok (.ldc2_w 104, 3) := by decide +kernel
theorem dX7_yard_13 : decode (mX7_yard).2.1 13 = .ok (.invokestatic 96, 3) := by decide +kernel
theorem dX7_yard_16 : decode (mX7_yard).2.1 16 = .ok (.ifCond .ne 6, 3) := by decide +kernel
theorem dX7_yard_19 : decode (mX7_yard).2.1 19 = .ok (.bipush (-2), 2) := by decide +kernel
theorem dX7_yard_21 : decode (mX7_yard).2.1 21 = .ok (.ireturn, 1) := by decide +kernel
theorem dX7_yard_22 : decode (mX7_yard).2.1 22 = .ok (.iload_n 2, 1) := by decide +kernel
theorem dX7_yard_23 : decode (mX7_yard).2.1 23 = .ok (.iconst 2, 1) := by decide +kernel
theorem dX7_yard_24 : decode (mX7_yard).2.1 24 = .ok (.if_icmp .ge 23, 3) := by decide +kernel
theorem dX7_yard_27 : decode (mX7_yard).2.1 27 = .ok (.iload_n 2, 1) := by decide +kernel
theorem dX7_yard_28 : decode (mX7_yard).2.1 28 = .ok (.ifCond .ne 12, 3) := by decide +kernel
theorem dX7_yard_31 : decode (mX7_yard).2.1 31 = .ok (.aload_n 0, 1) := by decide +kernel
theorem dX7_yard_32 : decode (mX7_yard).2.1 32 = .ok (.getfield 23, 3) := by decide +kernel
theorem dX7_yard_35 : decode (mX7_yard).2.1 35 = .ok (.iload_n 1, 1) := by decide +kernel
theorem dX7_yard_36 : decode (mX7_yard).2.1 36 = .ok (.iaload, 1) := by decide +kernel
theorem dX7_yard_37 : decode (mX7_yard).2.1 37 = .ok (.goto 9, 3) := by decide +kernel
theorem dX7_yard_40 : decode (mX7_yard).2.1 40 = .ok (.aload_n 0, 1) := by decide +kernel
theorem dX7_yard_41 : decode (mX7_yard).2.1 41 = .ok (.getfield 26, 3) := by decide +kernel
theorem dX7_yard_44 : decode (mX7_yard).2.1 44 = .ok (.iload_n 1, 1) := by decide +kernel
theorem dX7_yard_45 : decode (mX7_yard).2.1 45 = .ok (.iaload, 1) := by decide +kernel
theorem dX7_yard_46 : decode (mX7_yard).2.1 46 = .ok (.ireturn, 1) := by decide +kernel
theorem dX7_yard_47 : decode (mX7_yard).2.1 47 = .ok (.iload_n 2, 1) := by decide +kernel
theorem dX7_yard_48 : decode (mX7_yard).2.1 48 = .ok (.iconst 2, 1) := by decide +kernel
theorem dX7_yard_49 : decode (mX7_yard).2.1 49 = .ok (.if_icmp .ne 11, 3) := by decide +kernel
theorem dX7_yard_52 : decode (mX7_yard).2.1 52 = .ok (.aload_n 0, 1) := by decide +kernel
theorem dX7_yard_53 : decode (mX7_yard).2.1 53 = .ok (.iload_n 1, 1) := by decide +kernel
theorem dX7_yard_54 : decode (mX7_yard).2.1 54 = .ok (.invokevirtual 106, 3) := by decide +kernel
theorem dX7_yard_57 : decode (mX7_yard).2.1 57 = .ok (.goto 9, 3) := by decide +kernel
theorem dX7_yard_60 : decode (mX7_yard).2.1 60 = .ok (.aload_n 0, 1) := by decide +kernel
theorem dX7_yard_61 : decode (mX7_yard).2.1 61 = .ok (.iload_n 1, 1) := by decide +kernel
theorem dX7_yard_62 : decode (mX7_yard).2.1 62 = .ok (.iconst 0, 1) := by decide +kernel
theorem dX7_yard_63 : decode (mX7_yard).2.1 63 = .ok (.invokevirtual 110, 3) := by decide +kernel
theorem dX7_yard_66 : decode (mX7_yard).2.1 66 = .ok (.ireturn, 1) := by decide +kernel
theorem dX7_gang_0 : decode (mX7_gang).2.1 0 = .ok (.iload_n 1, 1) := by decide +kernel
theorem dX7_gang_1 : decode (mX7_gang).2.1 1 = .ok (.invokestatic 114, 3) := by decide +kernel
theorem dX7_gang_4 : decode (mX7_gang).2.1 4 = .ok (.ifCond .eq 27, 3) := by decide +kernel
theorem dX7_gang_7 : decode (mX7_gang).2.1 7 = .ok (.iload_n 2, 1) := by decide +kernel
theorem dX7_gang_8 : decode (mX7_gang).2.1 8 = .ok (.i2l, 1) := by decide +kernel
theorem dX7_gang_9 : decode (mX7_gang).2.1 9 = .ok (.lconst 0, 1) := by decide +kernel
theorem dX7_gang_10 : decode (mX7_gang).2.1 10 = .ok (.ldc2_w 117, 3) := by decide +kernel
theorem dX7_gang_13 : decode (mX7_gang).2.1 13 = .ok (.invokestatic 96, 3) := by decide +kernel
theorem dX7_gang_16 : decode (mX7_gang).2.1 16 = .ok (.ifCond .eq 15, 3) := by decide +kernel
theorem dX7_gang_19 : decode (mX7_gang).2.1 19 = .ok (.iload_n 3, 1) := by decide +kernel
theorem dX7_gang_20 : decode (mX7_gang).2.1 20 = .ok (.i2l, 1) := by decide +kernel
theorem dX7_gang_21 : decode (mX7_gang).2.1 21 = .ok (.lconst 0, 1) := by decide +kernel
theorem dX7_gang_22 : decode (mX7_gang).2.1 22 = .ok (.ldc2_w 119, 3) := by decide +kernel
theorem dX7_gang_25 : decode (mX7_gang).2.1 25 = .ok (.invokestatic 96, 3) := by decide +kernel
theorem dX7_gang_28 : decode (mX7_gang).2.1 28 = .ok (.ifCond .ne 6, 3) := by decide +kernel
theorem dX7_gang_31 : decode (mX7_gang).2.1 31 = .ok (.bipush (-2), 2) := by decide +kernel
theorem dX7_gang_33 : decode (mX7_gang).2.1 33 = .ok (.ireturn, 1) := by decide +kernel
theorem dX7_gang_34 : decode (mX7_gang).2.1 34 = .ok (.aload_n 0, 1) := by decide +kernel
theorem dX7_gang_35 : decode (mX7_gang).2.1 35 = .ok (.getfield 29, 3) := by decide +kernel
theorem dX7_gang_38 : decode (mX7_gang).2.1 38 = .ok (.iload_n 1, 1) := by decide +kernel
theorem dX7_gang_39 : decode (mX7_gang).2.1 39 = .ok (.iaload, 1) := by decide +kernel
theorem dX7_gang_40 : decode (mX7_gang).2.1 40 = .ok (.istore 4, 2) := by decide +kernel
theorem dX7_gang_42 : decode (mX7_gang).2.1 42 = .ok (.aload_n 0, 1) := by decide +kernel
theorem dX7_gang_43 : decode (mX7_gang).2.1 43 = .ok (.getfield 29, 3) := by decide +kernel
theorem dX7_gang_46 : decode (mX7_gang).2.1 46 = .ok (.iload_n 1, 1) := by decide +kernel
theorem dX7_gang_47 : decode (mX7_gang).2.1 47 = .ok (.iload_n 2, 1) := by decide +kernel
theorem dX7_gang_48 : decode (mX7_gang).2.1 48 = .ok (.iastore, 1) := by decide +kernel
theorem dX7_gang_49 : decode (mX7_gang).2.1 49 = .ok (.aload_n 0, 1) := by decide +kernel
theorem dX7_gang_50 : decode (mX7_gang).2.1 50 = .ok (.getfield 32, 3) := by decide +kernel
theorem dX7_gang_53 : decode (mX7_gang).2.1 53 = .ok (.iload_n 1, 1) := by decide +kernel
theorem dX7_gang_54 : decode (mX7_gang).2.1 54 = .ok (.iload_n 3, 1) := by decide +kernel
theorem dX7_gang_55 : decode (mX7_gang).2.1 55 = .ok (.iastore, 1) := by decide +kernel
theorem dX7_gang_56 : decode (mX7_gang).2.1 56 = .ok (.iload 4, 2) := by decide +kernel
theorem dX7_gang_58 : decode (mX7_gang).2.1 58 = .ok (.ireturn, 1) := by decide +kernel
theorem dX7_set_0 : decode (mX7_set).2.1 0 = .ok (.iload_n 1, 1) := by decide +kernel
theorem dX7_set_1 : decode (mX7_set).2.1 1 = .ok (.i2l, 1) := by decide +kernel
theorem dX7_set_2 : decode (mX7_set).2.1 2 = .ok (.lconst 0, 1) := by decide +kernel
theorem dX7_set_3 : decode (mX7_set).2.1 3 = .ok (.ldc2_w 121, 3) := by decide +kernel
theorem dX7_set_6 : decode (mX7_set).2.1 6 = .ok (.invokestatic 96, 3) := by decide +kernel
theorem dX7_set_9 : decode (mX7_set).2.1 9 = .ok (.ifCond .eq 46, 3) := by decide +kernel
theorem dX7_set_12 : decode (mX7_set).2.1 12 = .ok (.iload_n 2, 1) := by decide +kernel
theorem dX7_set_13 : decode (mX7_set).2.1 13 = .ok (.i2l, 1) := by decide +kernel
theorem dX7_set_14 : decode (mX7_set).2.1 14 = .ok (.iload_n 1, 1) := by decide +kernel
theorem dX7_set_15 : decode (mX7_set).2.1 15 = .ok (.iconst 2, 1) := by decide +kernel
theorem dX7_set_16 : decode (mX7_set).2.1 16 = .ok (.if_icmp .ge 7, 3) := by decide +kernel
theorem dX7_set_19 : decode (mX7_set).2.1 19 = .ok (.lconst 1, 1) := by decide +kernel
theorem dX7_set_20 : decode (mX7_set).2.1 20 = .ok (.goto 4, 3) := by decide +kernel
theorem dX7_set_23 : decode (mX7_set).2.1 23 = .ok (.lconst 0, 1) := by decide +kernel
theorem dX7_set_24 : decode (mX7_set).2.1 24 = .ok (.iload_n 1, 1) := by decide +kernel
theorem dX7_set_25 : decode (mX7_set).2.1 25 = .ok (.iconst 2, 1) := by decide +kernel
theorem dX7_set_26 : decode (mX7_set).2.1 26 = .ok (.if_icmp .ge 9, 3) := by decide +kernel
theorem dX7_set_29 : decode (mX7_set).2.1 29 = .ok (.ldc2_w 123, 3) := by decide +kernel
theorem dX7_set_32 : decode (mX7_set).2.1 32 = .ok (.goto 17, 3) := by decide +kernel
theorem dX7_set_35 : decode (mX7_set).2.1 35 = .ok (.iload_n 1, 1) := by decide +kernel
theorem dX7_set_36 : decode (mX7_set).2.1 36 = .ok (.iconst 4, 1) := by decide +kernel
theorem dX7_set_37 : decode (mX7_set).2.1 37 = .ok (.if_icmp .ne 9, 3) := by decide +kernel
theorem dX7_set_40 : decode (mX7_set).2.1 40 = .ok (.ldc2_w 125, 3) := by decide +kernel
theorem dX7_set_43 : decode (mX7_set).2.1 43 = .ok (.goto 6, 3) := by decide +kernel
theorem dX7_set_46 : decode (mX7_set).2.1 46 = .ok (.ldc2_w 127, 3) := by decide +kernel
theorem dX7_set_49 : decode (mX7_set).2.1 49 = .ok (.invokestatic 96, 3) := by decide +kernel
theorem dX7_set_52 : decode (mX7_set).2.1 52 = .ok (.ifCond .ne 6, 3) := by decide +kernel
theorem dX7_set_55 : decode (mX7_set).2.1 55 = .ok (.bipush (-2), 2) := by decide +kernel
theorem dX7_set_57 : decode (mX7_set).2.1 57 = .ok (.ireturn, 1) := by decide +kernel
theorem dX7_set_58 : decode (mX7_set).2.1 58 = .ok (.iload_n 1, 1) := by decide +kernel
theorem dX7_set_59 : decode (mX7_set).2.1 59 = .ok (.iconst 2, 1) := by decide +kernel
theorem dX7_set_60 : decode (mX7_set).2.1 60 = .ok (.if_icmp .ge 12, 3) := by decide +kernel
theorem dX7_set_63 : decode (mX7_set).2.1 63 = .ok (.aload_n 0, 1) := by decide +kernel
theorem dX7_set_64 : decode (mX7_set).2.1 64 = .ok (.getfield 35, 3) := by decide +kernel
theorem dX7_set_67 : decode (mX7_set).2.1 67 = .ok (.iload_n 1, 1) := by decide +kernel
theorem dX7_set_68 : decode (mX7_set).2.1 68 = .ok (.iaload, 1) := by decide +kernel
theorem dX7_set_69 : decode (mX7_set).2.1 69 = .ok (.goto 31, 3) := by decide +kernel
theorem dX7_set_72 : decode (mX7_set).2.1 72 = .ok (.iload_n 1, 1) := by decide +kernel
theorem dX7_set_73 : decode (mX7_set).2.1 73 = .ok (.iconst 2, 1) := by decide +kernel
theorem dX7_set_74 : decode (mX7_set).2.1 74 = .ok (.if_icmp .ne 10, 3) := by decide +kernel
theorem dX7_set_77 : decode (mX7_set).2.1 77 = .ok (.aload_n 0, 1) := by decide +kernel
theorem dX7_set_78 : decode (mX7_set).2.1 78 = .ok (.getfield 50, 3) := by decide +kernel
theorem dX7_set_81 : decode (mX7_set).2.1 81 = .ok (.goto 19, 3) := by decide +kernel
theorem dX7_set_84 : decode (mX7_set).2.1 84 = .ok (.iload_n 1, 1) := by decide +kernel
theorem dX7_set_85 : decode (mX7_set).2.1 85 = .ok (.iconst 3, 1) := by decide +kernel
theorem dX7_set_86 : decode (mX7_set).2.1 86 = .ok (.if_icmp .ne 10, 3) := by decide +kernel
theorem dX7_set_89 : decode (mX7_set).2.1 89 = .ok (.aload_n 0, 1) := by decide +kernel
theorem dX7_set_90 : decode (mX7_set).2.1 90 = .ok (.getfield 129, 3) := by decide +kernel
theorem dX7_set_93 : decode (mX7_set).2.1 93 = .ok (.goto 7, 3) := by decide +kernel
theorem dX7_set_96 : decode (mX7_set).2.1 96 = .ok (.aload_n 0, 1) := by decide +kernel
theorem dX7_set_97 : decode (mX7_set).2.1 97 = .ok (.getfield 53, 3) := by decide +kernel
theorem dX7_set_100 : decode (mX7_set).2.1 100 = .ok (.istore_n 3, 1) := by decide +kernel
theorem dX7_set_101 : decode (mX7_set).2.1 101 = .ok (.iload_n 1, 1) := by decide +kernel
theorem dX7_set_102 : decode (mX7_set).2.1 102 = .ok (.iconst 2, 1) := by decide +kernel
theorem dX7_set_103 : decode (mX7_set).2.1 103 = .ok (.if_icmp .ge 13, 3) := by decide +kernel
theorem dX7_set_106 : decode (mX7_set).2.1 106 = .ok (.aload_n 0, 1) := by decide +kernel
theorem dX7_set_107 : decode (mX7_set).2.1 107 = .ok (.getfield 35, 3) := by decide +kernel
theorem dX7_set_110 : decode (mX7_set).2.1 110 = .ok (.iload_n 1, 1) := by decide +kernel
theorem dX7_set_111 : decode (mX7_set).2.1 111 = .ok (.iload_n 2, 1) := by decide +kernel
theorem dX7_set_112 : decode (mX7_set).2.1 112 = .ok (.iastore, 1) := by decide +kernel
theorem dX7_set_113 : decode (mX7_set).2.1 113 = .ok (.goto 34, 3) := by decide +kernel
theorem dX7_set_116 : decode (mX7_set).2.1 116 = .ok (.iload_n 1, 1) := by decide +kernel
theorem dX7_set_117 : decode (mX7_set).2.1 117 = .ok (.iconst 2, 1) := by decide +kernel
theorem dX7_set_118 : decode (mX7_set).2.1 118 = .ok (.if_icmp .ne 11, 3) := by decide +kernel
theorem dX7_set_121 : decode (mX7_set).2.1 121 = .ok (.aload_n 0, 1) := by decide +kernel
theorem dX7_set_122 : decode (mX7_set).2.1 122 = .ok (.iload_n 2, 1) := by decide +kernel
theorem dX7_set_123 : decode (mX7_set).2.1 123 = .ok (.putfield 50, 3) := by decide +kernel
theorem dX7_set_126 : decode (mX7_set).2.1 126 = .ok (.goto 21, 3) := by decide +kernel
theorem dX7_set_129 : decode (mX7_set).2.1 129 = .ok (.iload_n 1, 1) := by decide +kernel
theorem dX7_set_130 : decode (mX7_set).2.1 130 = .ok (.iconst 3, 1) := by decide +kernel
theorem dX7_set_131 : decode (mX7_set).2.1 131 = .ok (.if_icmp .ne 11, 3) := by decide +kernel
theorem dX7_set_134 : decode (mX7_set).2.1 134 = .ok (.aload_n 0, 1) := by decide +kernel
theorem dX7_set_135 : decode (mX7_set).2.1 135 = .ok (.iload_n 2, 1) := by decide +kernel
theorem dX7_set_136 : decode (mX7_set).2.1 136 = .ok (.putfield 129, 3) := by decide +kernel
theorem dX7_set_139 : decode (mX7_set).2.1 139 = .ok (.goto 8, 3) := by decide +kernel
theorem dX7_set_142 : decode (mX7_set).2.1 142 = .ok (.aload_n 0, 1) := by decide +kernel
theorem dX7_set_143 : decode (mX7_set).2.1 143 = .ok (.iload_n 2, 1) := by decide +kernel
theorem dX7_set_144 : decode (mX7_set).2.1 144 = .ok (.putfield 53, 3) := by decide +kernel
theorem dX7_set_147 : decode (mX7_set).2.1 147 = .ok (.iload_n 3, 1) := by decide +kernel
theorem dX7_set_148 : decode (mX7_set).2.1 148 = .ok (.ireturn, 1) := by decide +kernel
theorem dX7_told_0 : decode (mX7_told).2.1 0 = .ok (.iload_n 1, 1) := by decide +kernel
theorem dX7_told_1 : decode (mX7_told).2.1 1 = .ok (.invokestatic 114, 3) := by decide +kernel
theorem dX7_told_4 : decode (mX7_told).2.1 4 = .ok (.ifCond .eq 15, 3) := by decide +kernel
theorem dX7_told_7 : decode (mX7_told).2.1 7 = .ok (.iload_n 2, 1) := by decide +kernel
theorem dX7_told_8 : decode (mX7_told).2.1 8 = .ok (.i2l, 1) := by decide +kernel
theorem dX7_told_9 : decode (mX7_told).2.1 9 = .ok (.lconst 0, 1) := by decide +kernel
theorem dX7_told_10 : decode (mX7_told).2.1 10 = .ok (.ldc2_w 132, 3) := by decide +kernel
theorem dX7_told_13 : decode (mX7_told).2.1 13 = .ok (.invokestatic 96, 3) := by decide +kernel
theorem dX7_told_16 : decode (mX7_told).2.1 16 = .ok (.ifCond .ne 6, 3) := by decide +kernel
theorem dX7_told_19 : decode (mX7_told).2.1 19 = .ok (.bipush (-2), 2) := by decide +kernel
theorem dX7_told_21 : decode (mX7_told).2.1 21 = .ok (.ireturn, 1) := by decide +kernel
theorem dX7_told_22 : decode (mX7_told).2.1 22 = .ok (.iload_n 2, 1) := by decide +kernel
theorem dX7_told_23 : decode (mX7_told).2.1 23 = .ok (.iconst 4, 1) := by decide +kernel
theorem dX7_told_24 : decode (mX7_told).2.1 24 = .ok (.if_icmp .ge 51, 3) := by decide +kernel
theorem dX7_told_27 : decode (mX7_told).2.1 27 = .ok (.iload_n 2, 1) := by decide +kernel
theorem dX7_told_28 : decode (mX7_told).2.1 28 = .ok (.ifCond .ne 12, 3) := by decide +kernel
theorem dX7_told_31 : decode (mX7_told).2.1 31 = .ok (.aload_n 0, 1) := by decide +kernel
theorem dX7_told_32 : decode (mX7_told).2.1 32 = .ok (.getfield 29, 3) := by decide +kernel
theorem dX7_told_35 : decode (mX7_told).2.1 35 = .ok (.iload_n 1, 1) := by decide +kernel
theorem dX7_told_36 : decode (mX7_told).2.1 36 = .ok (.iaload, 1) := by decide +kernel
theorem dX7_told_37 : decode (mX7_told).2.1 37 = .ok (.goto 37, 3) := by decide +kernel
theorem dX7_told_40 : decode (mX7_told).2.1 40 = .ok (.iload_n 2, 1) := by decide +kernel
theorem dX7_told_41 : decode (mX7_told).2.1 41 = .ok (.iconst 1, 1) := by decide +kernel
theorem dX7_told_42 : decode (mX7_told).2.1 42 = .ok (.if_icmp .ne 12, 3) := by decide +kernel
theorem dX7_told_45 : decode (mX7_told).2.1 45 = .ok (.aload_n 0, 1) := by decide +kernel
theorem dX7_told_46 : decode (mX7_told).2.1 46 = .ok (.getfield 32, 3) := by decide +kernel
theorem dX7_told_49 : decode (mX7_told).2.1 49 = .ok (.iload_n 1, 1) := by decide +kernel
theorem dX7_told_50 : decode (mX7_told).2.1 50 = .ok (.iaload, 1) := by decide +kernel
theorem dX7_told_51 : decode (mX7_told).2.1 51 = .ok (.goto 23, 3) := by decide +kernel
theorem dX7_told_54 : decode (mX7_told).2.1 54 = .ok (.iload_n 2, 1) := by decide +kernel
theorem dX7_told_55 : decode (mX7_told).2.1 55 = .ok (.iconst 2, 1) := by decide +kernel
theorem dX7_told_56 : decode (mX7_told).2.1 56 = .ok (.if_icmp .ne 12, 3) := by decide +kernel
theorem dX7_told_59 : decode (mX7_told).2.1 59 = .ok (.aload_n 0, 1) := by decide +kernel
theorem dX7_told_60 : decode (mX7_told).2.1 60 = .ok (.getfield 35, 3) := by decide +kernel
theorem dX7_told_63 : decode (mX7_told).2.1 63 = .ok (.iload_n 1, 1) := by decide +kernel
theorem dX7_told_64 : decode (mX7_told).2.1 64 = .ok (.iaload, 1) := by decide +kernel
theorem dX7_told_65 : decode (mX7_told).2.1 65 = .ok (.goto 9, 3) := by decide +kernel
theorem dX7_told_68 : decode (mX7_told).2.1 68 = .ok (.aload_n 0, 1) := by decide +kernel
theorem dX7_told_69 : decode (mX7_told).2.1 69 = .ok (.getfield 38, 3) := by decide +kernel
theorem dX7_told_72 : decode (mX7_told).2.1 72 = .ok (.iload_n 1, 1) := by decide +kernel
theorem dX7_told_73 : decode (mX7_told).2.1 73 = .ok (.iaload, 1) := by decide +kernel
theorem dX7_told_74 : decode (mX7_told).2.1 74 = .ok (.ireturn, 1) := by decide +kernel
theorem dX7_told_75 : decode (mX7_told).2.1 75 = .ok (.iload_n 2, 1) := by decide +kernel
theorem dX7_told_76 : decode (mX7_told).2.1 76 = .ok (.bipush 7, 2) := by decide +kernel
theorem dX7_told_78 : decode (mX7_told).2.1 78 = .ok (.if_icmp .ge 38, 3) := by decide +kernel
theorem dX7_told_81 : decode (mX7_told).2.1 81 = .ok (.iload_n 2, 1) := by decide +kernel
theorem dX7_told_82 : decode (mX7_told).2.1 82 = .ok (.iconst 4, 1) := by decide +kernel
theorem dX7_told_83 : decode (mX7_told).2.1 83 = .ok (.if_icmp .ne 12, 3) := by decide +kernel
theorem dX7_told_86 : decode (mX7_told).2.1 86 = .ok (.aload_n 0, 1) := by decide +kernel
theorem dX7_told_87 : decode (mX7_told).2.1 87 = .ok (.getfield 41, 3) := by decide +kernel
theorem dX7_told_90 : decode (mX7_told).2.1 90 = .ok (.iload_n 1, 1) := by decide +kernel
theorem dX7_told_91 : decode (mX7_told).2.1 91 = .ok (.iaload, 1) := by decide +kernel
theorem dX7_told_92 : decode (mX7_told).2.1 92 = .ok (.goto 23, 3) := by decide +kernel
theorem dX7_told_95 : decode (mX7_told).2.1 95 = .ok (.iload_n 2, 1) := by decide +kernel
theorem dX7_told_96 : decode (mX7_told).2.1 96 = .ok (.iconst 5, 1) := by decide +kernel
theorem dX7_told_97 : decode (mX7_told).2.1 97 = .ok (.if_icmp .ne 12, 3) := by decide +kernel
theorem dX7_told_100 : decode (mX7_told).2.1 100 = .ok (.aload_n 0, 1) := by decide +kernel
theorem dX7_told_101 : decode (mX7_told).2.1 101 = .ok (.getfield 44, 3) := by decide +kernel
theorem dX7_told_104 : decode (mX7_told).2.1 104 = .ok (.iload_n 1, 1) := by decide +kernel
theorem dX7_told_105 : decode (mX7_told).2.1 105 = .ok (.iaload, 1) := by decide +kernel
theorem dX7_told_106 : decode (mX7_told).2.1 106 = .ok (.goto 9, 3) := by decide +kernel
theorem dX7_told_109 : decode (mX7_told).2.1 109 = .ok (.aload_n 0, 1) := by decide +kernel
theorem dX7_told_110 : decode (mX7_told).2.1 110 = .ok (.getfield 47, 3) := by decide +kernel
theorem dX7_told_113 : decode (mX7_told).2.1 113 = .ok (.iload_n 1, 1) := by decide +kernel
theorem dX7_told_114 : decode (mX7_told).2.1 114 = .ok (.iaload, 1) := by decide +kernel
theorem dX7_told_115 : decode (mX7_told).2.1 115 = .ok (.ireturn, 1) := by decide +kernel
theorem dX7_told_116 : decode (mX7_told).2.1 116 = .ok (.iload_n 2, 1) := by decide +kernel
theorem dX7_told_117 : decode (mX7_told).2.1 117 = .ok (.bipush 8, 2) := by decide +kernel
theorem dX7_told_119 : decode (mX7_told).2.1 119 = .ok (.if_icmp .ne 11, 3) := by decide +kernel
theorem dX7_told_122 : decode (mX7_told).2.1 122 = .ok (.aload_n 0, 1) := by decide +kernel
theorem dX7_told_123 : decode (mX7_told).2.1 123 = .ok (.iload_n 1, 1) := by decide +kernel
theorem dX7_told_124 : decode (mX7_told).2.1 124 = .ok (.invokevirtual 134, 3) := by decide +kernel
theorem dX7_told_127 : decode (mX7_told).2.1 127 = .ok (.goto 19, 3) := by decide +kernel
theorem dX7_told_130 : decode (mX7_told).2.1 130 = .ok (.aload_n 0, 1) := by decide +kernel
theorem dX7_told_131 : decode (mX7_told).2.1 131 = .ok (.invokevirtual 137, 3) := by decide +kernel
theorem dX7_told_134 : decode (mX7_told).2.1 134 = .ok (.ifCond .ne 7, 3) := by decide +kernel
theorem dX7_told_137 : decode (mX7_told).2.1 137 = .ok (.iconst 0, 1) := by decide +kernel
theorem dX7_told_138 : decode (mX7_told).2.1 138 = .ok (.goto 8, 3) := by decide +kernel
theorem dX7_told_141 : decode (mX7_told).2.1 141 = .ok (.aload_n 0, 1) := by decide +kernel
theorem dX7_told_142 : decode (mX7_told).2.1 142 = .ok (.iload_n 1, 1) := by decide +kernel
theorem dX7_told_143 : decode (mX7_told).2.1 143 = .ok (.invokevirtual 141, 3) := by decide +kernel
theorem dX7_told_146 : decode (mX7_told).2.1 146 = .ok (.ireturn, 1) := by decide +kernel
theorem dX7_feed_0 : decode (mX7_feed).2.1 0 = .ok (.iload_n 1, 1) := by decide +kernel
theorem dX7_feed_1 : decode (mX7_feed).2.1 1 = .ok (.i2l, 1) := by decide +kernel
theorem dX7_feed_2 : decode (mX7_feed).2.1 2 = .ok (.lconst 0, 1) := by decide +kernel
theorem dX7_feed_3 : decode (mX7_feed).2.1 3 = .ok (.ldc2_w 144, 3) := by decide +kernel
theorem dX7_feed_6 : decode (mX7_feed).2.1 6 = .ok (.invokestatic 96, 3) := by decide +kernel
theorem dX7_feed_9 : decode (mX7_feed).2.1 9 = .ok (.ifCond .ne 6, 3) := by decide +kernel
theorem dX7_feed_12 : decode (mX7_feed).2.1 12 = .ok (.bipush (-2), 2) := by decide +kernel
theorem dX7_feed_14 : decode (mX7_feed).2.1 14 = .ok (.ireturn, 1) := by decide +kernel
theorem dX7_feed_15 : decode (mX7_feed).2.1 15 = .ok (.aload_n 0, 1) := by decide +kernel
theorem dX7_feed_16 : decode (mX7_feed).2.1 16 = .ok (.getfield 146, 3) := by decide +kernel
theorem dX7_feed_19 : decode (mX7_feed).2.1 19 = .ok (.sipush 160, 3) := by decide +kernel
theorem dX7_feed_22 : decode (mX7_feed).2.1 22 = .ok (.if_icmp .ne 6, 3) := by decide +kernel
theorem dX7_feed_25 : decode (mX7_feed).2.1 25 = .ok (.bipush (-4), 2) := by decide +kernel
theorem dX7_feed_27 : decode (mX7_feed).2.1 27 = .ok (.ireturn, 1) := by decide +kernel
theorem dX7_feed_28 : decode (mX7_feed).2.1 28 = .ok (.aload_n 0, 1) := by decide +kernel
theorem dX7_feed_29 : decode (mX7_feed).2.1 29 = .ok (.getfield 20, 3) := by decide +kernel
theorem dX7_feed_32 : decode (mX7_feed).2.1 32 = .ok (.aload_n 0, 1) := by decide +kernel
theorem dX7_feed_33 : decode (mX7_feed).2.1 33 = .ok (.getfield 146, 3) := by decide +kernel
theorem dX7_feed_36 : decode (mX7_feed).2.1 36 = .ok (.iload_n 1, 1) := by decide +kernel
theorem dX7_feed_37 : decode (mX7_feed).2.1 37 = .ok (.iastore, 1) := by decide +kernel
theorem dX7_feed_38 : decode (mX7_feed).2.1 38 = .ok (.aload_n 0, 1) := by decide +kernel
theorem dX7_feed_39 : decode (mX7_feed).2.1 39 = .ok (.dup, 1) := by decide +kernel
theorem dX7_feed_40 : decode (mX7_feed).2.1 40 = .ok (.getfield 146, 3) := by decide +kernel
theorem dX7_feed_43 : decode (mX7_feed).2.1 43 = .ok (.iconst 1, 1) := by decide +kernel
theorem dX7_feed_44 : decode (mX7_feed).2.1 44 = .ok (.iadd, 1) := by decide +kernel
theorem dX7_feed_45 : decode (mX7_feed).2.1 45 = .ok (.putfield 146, 3) := by decide +kernel
theorem dX7_feed_48 : decode (mX7_feed).2.1 48 = .ok (.aload_n 0, 1) := by decide +kernel
theorem dX7_feed_49 : decode (mX7_feed).2.1 49 = .ok (.getfield 146, 3) := by decide +kernel
theorem dX7_feed_52 : decode (mX7_feed).2.1 52 = .ok (.ireturn, 1) := by decide +kernel
theorem dX7_byteAt_0 : decode (mX7_byteAt).2.1 0 = .ok (.iload_n 1, 1) := by decide +kernel
theorem dX7_byteAt_1 : decode (mX7_byteAt).2.1 1 = .ok (.aload_n 0, 1) := by decide +kernel
theorem dX7_byteAt_2 : decode (mX7_byteAt).2.1 2 = .ok (.getfield 149, 3) := by decide +kernel
theorem dX7_byteAt_5 : decode (mX7_byteAt).2.1 5 = .ok (.if_icmp .ge 17, 3) := by decide +kernel
theorem dX7_byteAt_8 : decode (mX7_byteAt).2.1 8 = .ok (.aload_n 0, 1) := by decide +kernel
theorem dX7_byteAt_9 : decode (mX7_byteAt).2.1 9 = .ok (.getfield 13, 3) := by decide +kernel
theorem dX7_byteAt_12 : decode (mX7_byteAt).2.1 12 = .ok (.aload_n 0, 1) := by decide +kernel
theorem dX7_byteAt_13 : decode (mX7_byteAt).2.1 13 = .ok (.getfield 152, 3) := by decide +kernel
theorem dX7_byteAt_16 : decode (mX7_byteAt).2.1 16 = .ok (.iload_n 1, 1) := by decide +kernel
theorem dX7_byteAt_17 : decode (mX7_byteAt).2.1 17 = .ok (.iadd, 1) := by decide +kernel
theorem dX7_byteAt_18 : decode (mX7_byteAt).2.1 18 = .ok (.iaload, 1) := by decide +kernel
theorem dX7_byteAt_19 : decode (mX7_byteAt).2.1 19 = .ok (.goto 4, 3) := by decide +kernel
theorem dX7_byteAt_22 : decode (mX7_byteAt).2.1 22 = .ok (.iconst (-1), 1) := by decide +kernel
theorem dX7_byteAt_23 : decode (mX7_byteAt).2.1 23 = .ok (.ireturn, 1) := by decide +kernel
theorem dX7_next_0 : decode (mX7_next).2.1 0 = .ok (.aload_n 0, 1) := by decide +kernel
theorem dX7_next_1 : decode (mX7_next).2.1 1 = .ok (.aload_n 0, 1) := by decide +kernel
theorem dX7_next_2 : decode (mX7_next).2.1 2 = .ok (.getfield 155, 3) := by decide +kernel
theorem dX7_next_5 : decode (mX7_next).2.1 5 = .ok (.invokevirtual 158, 3) := by decide +kernel
theorem dX7_next_8 : decode (mX7_next).2.1 8 = .ok (.bipush 32, 2) := by decide +kernel
theorem dX7_next_10 : decode (mX7_next).2.1 10 = .ok (.if_icmp .eq 16, 3) := by decide +kernel
theorem dX7_next_13 : decode (mX7_next).2.1 13 = .ok (.aload_n 0, 1) := by decide +kernel
theorem dX7_next_14 : decode (mX7_next).2.1 14 = .ok (.aload_n 0, 1) := by decide +kernel
theorem dX7_next_15 : decode (mX7_next).2.1 15 = .ok (.getfield 155, 3) := by decide +kernel
theorem dX7_next_18 : decode (mX7_next).2.1 18 = .ok (.invokevirtual 158, 3) := by decide +kernel
theorem dX7_next_21 : decode (mX7_next).2.1 21 = .ok (.bipush 10, 2) := by decide +kernel
theorem dX7_next_23 : decode (mX7_next).2.1 23 = .ok (.if_icmp .ne 16, 3) := by decide +kernel
theorem dX7_next_26 : decode (mX7_next).2.1 26 = .ok (.aload_n 0, 1) := by decide +kernel
theorem dX7_next_27 : decode (mX7_next).2.1 27 = .ok (.dup, 1) := by decide +kernel
theorem dX7_next_28 : decode (mX7_next).2.1 28 = .ok (.getfield 155, 3) := by decide +kernel
theorem dX7_next_31 : decode (mX7_next).2.1 31 = .ok (.iconst 1, 1) := by decide +kernel
theorem dX7_next_32 : decode (mX7_next).2.1 32 = .ok (.iadd, 1) := by decide +kernel
theorem dX7_next_33 : decode (mX7_next).2.1 33 = .ok (.putfield 155, 3) := by decide +kernel
theorem dX7_next_36 : decode (mX7_next).2.1 36 = .ok (.goto (-36), 3) := by decide +kernel
theorem dX7_next_39 : decode (mX7_next).2.1 39 = .ok (.aload_n 0, 1) := by decide +kernel
theorem dX7_next_40 : decode (mX7_next).2.1 40 = .ok (.aload_n 0, 1) := by decide +kernel
theorem dX7_next_41 : decode (mX7_next).2.1 41 = .ok (.getfield 155, 3) := by decide +kernel
theorem dX7_next_44 : decode (mX7_next).2.1 44 = .ok (.putfield 161, 3) := by decide +kernel
theorem dX7_next_47 : decode (mX7_next).2.1 47 = .ok (.aload_n 0, 1) := by decide +kernel
theorem dX7_next_48 : decode (mX7_next).2.1 48 = .ok (.aload_n 0, 1) := by decide +kernel
theorem dX7_next_49 : decode (mX7_next).2.1 49 = .ok (.getfield 155, 3) := by decide +kernel
theorem dX7_next_52 : decode (mX7_next).2.1 52 = .ok (.invokevirtual 158, 3) := by decide +kernel
theorem dX7_next_55 : decode (mX7_next).2.1 55 = .ok (.istore_n 1, 1) := by decide +kernel
theorem dX7_next_56 : decode (mX7_next).2.1 56 = .ok (.aload_n 0, 1) := by decide +kernel
theorem dX7_next_57 : decode (mX7_next).2.1 57 = .ok (.iconst 4, 1) := by decide +kernel
theorem dX7_next_58 : decode (mX7_next).2.1 58 = .ok (.putfield 164, 3) := by decide +kernel
theorem dX7_next_61 : decode (mX7_next).2.1 61 = .ok (.iload_n 1, 1) := by decide +kernel
theorem dX7_next_62 : decode (mX7_next).2.1 62 = .ok (.ifCond .ge 19, 3) := by decide +kernel
theorem dX7_next_65 : decode (mX7_next).2.1 65 = .ok (.aload_n 0, 1) := by decide +kernel
theorem dX7_next_66 : decode (mX7_next).2.1 66 = .ok (.iconst 0, 1) := by decide +kernel
theorem dX7_next_67 : decode (mX7_next).2.1 67 = .ok (.putfield 164, 3) := by decide +kernel
theorem dX7_next_70 : decode (mX7_next).2.1 70 = .ok (.aload_n 0, 1) := by decide +kernel
theorem dX7_next_71 : decode (mX7_next).2.1 71 = .ok (.aload_n 0, 1) := by decide +kernel
theorem dX7_next_72 : decode (mX7_next).2.1 72 = .ok (.getfield 149, 3) := by decide +kernel
theorem dX7_next_75 : decode (mX7_next).2.1 75 = .ok (.putfield 161, 3) := by decide +kernel
theorem dX7_next_78 : decode (mX7_next).2.1 78 = .ok (.goto 243, 3) := by decide +kernel
theorem dX7_next_81 : decode (mX7_next).2.1 81 = .ok (.iload_n 1, 1) := by decide +kernel
theorem dX7_next_82 : decode (mX7_next).2.1 82 = .ok (.i2l, 1) := by decide +kernel
theorem dX7_next_83 : decode (mX7_next).2.1 83 = .ok (.ldc2_w 167, 3) := by decide +kernel
theorem dX7_next_86 : decode (mX7_next).2.1 86 = .ok (.ldc2_w 169, 3) := by decide +kernel
theorem dX7_next_89 : decode (mX7_next).2.1 89 = .ok (.invokestatic 96, 3) := by decide +kernel
theorem dX7_next_92 : decode (mX7_next).2.1 92 = .ok (.ifCond .eq 42, 3) := by decide +kernel
theorem dX7_next_95 : decode (mX7_next).2.1 95 = .ok (.aload_n 0, 1) := by decide +kernel
theorem dX7_next_96 : decode (mX7_next).2.1 96 = .ok (.iconst 1, 1) := by decide +kernel
theorem dX7_next_97 : decode (mX7_next).2.1 97 = .ok (.putfield 164, 3) := by decide +kernel
theorem dX7_next_100 : decode (mX7_next).2.1 100 = .ok (.aload_n 0, 1) := by decide +kernel
theorem dX7_next_101 : decode (mX7_next).2.1 101 = .ok (.aload_n 0, 1) := by decide +kernel
theorem dX7_next_102 : decode (mX7_next).2.1 102 = .ok (.getfield 155, 3) := by decide +kernel
theorem dX7_next_105 : decode (mX7_next).2.1 105 = .ok (.invokevirtual 158, 3) := by decide +kernel
theorem dX7_next_108 : decode (mX7_next).2.1 108 = .ok (.i2l, 1) := by decide +kernel
theorem dX7_next_109 : decode (mX7_next).2.1 109 = .ok (.ldc2_w 167, 3) := by decide +kernel
theorem dX7_next_112 : decode (mX7_next).2.1 112 = .ok (.ldc2_w 169, 3) := by decide +kernel
theorem dX7_next_115 : decode (mX7_next).2.1 115 = .ok (.invokestatic 96, 3) := by decide +kernel
theorem dX7_next_118 : decode (mX7_next).2.1 118 = .ok (.ifCond .eq 203, 3) := by decide +kernel
theorem dX7_next_121 : decode (mX7_next).2.1 121 = .ok (.aload_n 0, 1) := by decide +kernel
theorem dX7_next_122 : decode (mX7_next).2.1 122 = .ok (.dup, 1) := by decide +kernel
theorem dX7_next_123 : decode (mX7_next).2.1 123 = .ok (.getfield 155, 3) := by decide +kernel
theorem dX7_next_126 : decode (mX7_next).2.1 126 = .ok (.iconst 1, 1) := by decide +kernel
theorem dX7_next_127 : decode (mX7_next).2.1 127 = .ok (.iadd, 1) := by decide +kernel
theorem dX7_next_128 : decode (mX7_next).2.1 128 = .ok (.putfield 155, 3) := by decide +kernel
theorem dX7_next_131 : decode (mX7_next).2.1 131 = .ok (.goto (-31), 3) := by decide +kernel
theorem dX7_next_134 : decode (mX7_next).2.1 134 = .ok (.iload_n 1, 1) := by decide +kernel
theorem dX7_next_135 : decode (mX7_next).2.1 135 = .ok (.i2l, 1) := by decide +kernel
theorem dX7_next_136 : decode (mX7_next).2.1 136 = .ok (.ldc2_w 171, 3) := by decide +kernel
theorem dX7_next_139 : decode (mX7_next).2.1 139 = .ok (.ldc2_w 173, 3) := by decide +kernel
theorem dX7_next_142 : decode (mX7_next).2.1 142 = .ok (.invokestatic 96, 3) := by decide +kernel
theorem dX7_next_145 : decode (mX7_next).2.1 145 = .ok (.ifCond .eq 107, 3) := by decide +kernel
theorem dX7_next_148 : decode (mX7_next).2.1 148 = .ok (.aload_n 0, 1) := by decide +kernel
theorem dX7_next_149 : decode (mX7_next).2.1 149 = .ok (.iconst 2, 1) := by decide +kernel
theorem dX7_next_150 : decode (mX7_next).2.1 150 = .ok (.putfield 164, 3) := by decide +kernel
theorem dX7_next_153 : decode (mX7_next).2.1 153 = .ok (.aload_n 0, 1) := by decide +kernel
theorem dX7_next_154 : decode (mX7_next).2.1 154 = .ok (.lconst 0, 1) := by decide +kernel
theorem dX7_next_155 : decode (mX7_next).2.1 155 = .ok (.putfield 175, 3) := by decide +kernel
theorem dX7_next_158 : decode (mX7_next).2.1 158 = .ok (.iconst 0, 1) := by decide +kernel
theorem dX7_next_159 : decode (mX7_next).2.1 159 = .ok (.istore_n 2, 1) := by decide +kernel
theorem dX7_next_160 : decode (mX7_next).2.1 160 = .ok (.aload_n 0, 1) := by decide +kernel
theorem dX7_next_161 : decode (mX7_next).2.1 161 = .ok (.aload_n 0, 1) := by decide +kernel
theorem dX7_next_162 : decode (mX7_next).2.1 162 = .ok (.getfield 155, 3) := by decide +kernel
theorem dX7_next_165 : decode (mX7_next).2.1 165 = .ok (.invokevirtual 158, 3) := by decide +kernel
theorem dX7_next_168 : decode (mX7_next).2.1 168 = .ok (.i2l, 1) := by decide +kernel
theorem dX7_next_169 : decode (mX7_next).2.1 169 = .ok (.ldc2_w 171, 3) := by decide +kernel
theorem dX7_next_172 : decode (mX7_next).2.1 172 = .ok (.ldc2_w 173, 3) := by decide +kernel
theorem dX7_next_175 : decode (mX7_next).2.1 175 = .ok (.invokestatic 96, 3) := by decide +kernel
theorem dX7_next_178 : decode (mX7_next).2.1 178 = .ok (.ifCond .eq 57, 3) := by decide +kernel
theorem dX7_next_181 : decode (mX7_next).2.1 181 = .ok (.aload_n 0, 1) := by decide +kernel
theorem dX7_next_182 : decode (mX7_next).2.1 182 = .ok (.iload_n 2, 1) := by decide +kernel
theorem dX7_next_183 : decode (mX7_next).2.1 183 = .ok (.iconst 4, 1) := by decide +kernel
theorem dX7_next_184 : decode (mX7_next).2.1 184 = .ok (.if_icmp .ge 28, 3) := by decide +kernel
theorem dX7_next_187 : decode (mX7_next).2.1 187 = .ok (.ldc2_w 179, 3) := by decide +kernel
theorem dX7_next_190 : decode (mX7_next).2.1 190 = .ok (.aload_n 0, 1) := by decide +kernel
theorem dX7_next_191 : decode (mX7_next).2.1 191 = .ok (.getfield 175, 3) := by decide +kernel
theorem dX7_next_194 : decode (mX7_next).2.1 194 = .ok (.lmul, 1) := by decide +kernel
theorem dX7_next_195 : decode (mX7_next).2.1 195 = .ok (.aload_n 0, 1) := by decide +kernel
theorem dX7_next_196 : decode (mX7_next).2.1 196 = .ok (.aload_n 0, 1) := by decide +kernel
theorem dX7_next_197 : decode (mX7_next).2.1 197 = .ok (.getfield 155, 3) := by decide +kernel
theorem dX7_next_200 : decode (mX7_next).2.1 200 = .ok (.invokevirtual 158, 3) := by decide +kernel
theorem dX7_next_203 : decode (mX7_next).2.1 203 = .ok (.i2l, 1) := by decide +kernel
theorem dX7_next_204 : decode (mX7_next).2.1 204 = .ok (.ladd, 1) := by decide +kernel
theorem dX7_next_205 : decode (mX7_next).2.1 205 = .ok (.ldc2_w 171, 3) := by decide +kernel
theorem dX7_next_208 : decode (mX7_next).2.1 208 = .ok (.lsub, 1) := by decide +kernel
theorem dX7_next_209 : decode (mX7_next).2.1 209 = .ok (.goto 7, 3) := by decide +kernel
theorem dX7_next_212 : decode (mX7_next).2.1 212 = .ok (.aload_n 0, 1) := by decide +kernel
theorem dX7_next_213 : decode (mX7_next).2.1 213 = .ok (.getfield 175, 3) := by decide +kernel
theorem dX7_next_216 : decode (mX7_next).2.1 216 = .ok (.putfield 175, 3) := by decide +kernel
theorem dX7_next_219 : decode (mX7_next).2.1 219 = .ok (.iinc 2 1, 3) := by decide +kernel
theorem dX7_next_222 : decode (mX7_next).2.1 222 = .ok (.aload_n 0, 1) := by decide +kernel
theorem dX7_next_223 : decode (mX7_next).2.1 223 = .ok (.dup, 1) := by decide +kernel
theorem dX7_next_224 : decode (mX7_next).2.1 224 = .ok (.getfield 155, 3) := by decide +kernel
theorem dX7_next_227 : decode (mX7_next).2.1 227 = .ok (.iconst 1, 1) := by decide +kernel
theorem dX7_next_228 : decode (mX7_next).2.1 228 = .ok (.iadd, 1) := by decide +kernel
theorem dX7_next_229 : decode (mX7_next).2.1 229 = .ok (.putfield 155, 3) := by decide +kernel
theorem dX7_next_232 : decode (mX7_next).2.1 232 = .ok (.goto (-72), 3) := by decide +kernel
theorem dX7_next_235 : decode (mX7_next).2.1 235 = .ok (.aload_n 0, 1) := by decide +kernel
theorem dX7_next_236 : decode (mX7_next).2.1 236 = .ok (.iload_n 2, 1) := by decide +kernel
theorem dX7_next_237 : decode (mX7_next).2.1 237 = .ok (.iconst 4, 1) := by decide +kernel
theorem dX7_next_238 : decode (mX7_next).2.1 238 = .ok (.if_icmp .le 7, 3) := by decide +kernel
theorem dX7_next_241 : decode (mX7_next).2.1 241 = .ok (.iconst 4, 1) := by decide +kernel
theorem dX7_next_242 : decode (mX7_next).2.1 242 = .ok (.goto 4, 3) := by decide +kernel
theorem dX7_next_245 : decode (mX7_next).2.1 245 = .ok (.iconst 2, 1) := by decide +kernel
theorem dX7_next_246 : decode (mX7_next).2.1 246 = .ok (.putfield 164, 3) := by decide +kernel
theorem dX7_next_249 : decode (mX7_next).2.1 249 = .ok (.goto 72, 3) := by decide +kernel
theorem dX7_next_252 : decode (mX7_next).2.1 252 = .ok (.iload_n 1, 1) := by decide +kernel
theorem dX7_next_253 : decode (mX7_next).2.1 253 = .ok (.bipush 40, 2) := by decide +kernel
theorem dX7_next_255 : decode (mX7_next).2.1 255 = .ok (.if_icmp .eq 45, 3) := by decide +kernel
theorem dX7_next_258 : decode (mX7_next).2.1 258 = .ok (.iload_n 1, 1) := by decide +kernel
theorem dX7_next_259 : decode (mX7_next).2.1 259 = .ok (.bipush 41, 2) := by decide +kernel
theorem dX7_next_261 : decode (mX7_next).2.1 261 = .ok (.if_icmp .eq 39, 3) := by decide +kernel
theorem dX7_next_264 : decode (mX7_next).2.1 264 = .ok (.iload_n 1, 1) := by decide +kernel
theorem dX7_next_265 : decode (mX7_next).2.1 265 = .ok (.bipush 59, 2) := by decide +kernel
theorem dX7_next_267 : decode (mX7_next).2.1 267 = .ok (.if_icmp .eq 33, 3) := by decide +kernel
theorem dX7_next_270 : decode (mX7_next).2.1 270 = .ok (.iload_n 1, 1) := by decide +kernel
theorem dX7_next_271 : decode (mX7_next).2.1 271 = .ok (.bipush 43, 2) := by decide +kernel
theorem dX7_next_273 : decode (mX7_next).2.1 273 = .ok (.if_icmp .eq 27, 3) := by decide +kernel
theorem dX7_next_276 : decode (mX7_next).2.1 276 = .ok (.iload_n 1, 1) := by decide +kernel
theorem dX7_next_277 : decode (mX7_next).2.1 277 = .ok (.bipush 45, 2) := by decide +kernel
theorem dX7_next_279 : decode (mX7_next).2.1 279 = .ok (.if_icmp .eq 21, 3) := by decide +kernel
theorem dX7_next_282 : decode (mX7_next).2.1 282 = .ok (.iload_n 1, 1) := by decide +kernel
theorem dX7_next_283 : decode (mX7_next).2.1 283 = .ok (.bipush 42, 2) := by decide +kernel
theorem dX7_next_285 : decode (mX7_next).2.1 285 = .ok (.if_icmp .eq 15, 3) := by decide +kernel
theorem dX7_next_288 : decode (mX7_next).2.1 288 = .ok (.iload_n 1, 1) := by decide +kernel
theorem dX7_next_289 : decode (mX7_next).2.1 289 = .ok (.bipush 60, 2) := by decide +kernel
theorem dX7_next_291 : decode (mX7_next).2.1 291 = .ok (.if_icmp .eq 9, 3) := by decide +kernel
theorem dX7_next_294 : decode (mX7_next).2.1 294 = .ok (.iload_n 1, 1) := by decide +kernel
theorem dX7_next_295 : decode (mX7_next).2.1 295 = .ok (.bipush 61, 2) := by decide +kernel
theorem dX7_next_297 : decode (mX7_next).2.1 297 = .ok (.if_icmp .ne 24, 3) := by decide +kernel
theorem dX7_next_300 : decode (mX7_next).2.1 300 = .ok (.aload_n 0, 1) := by decide +kernel
theorem dX7_next_301 : decode (mX7_next).2.1 301 = .ok (.iconst 3, 1) := by decide +kernel
theorem dX7_next_302 : decode (mX7_next).2.1 302 = .ok (.putfield 164, 3) := by decide +kernel
theorem dX7_next_305 : decode (mX7_next).2.1 305 = .ok (.aload_n 0, 1) := by decide +kernel
theorem dX7_next_306 : decode (mX7_next).2.1 306 = .ok (.iload_n 1, 1) := by decide +kernel
theorem dX7_next_307 : decode (mX7_next).2.1 307 = .ok (.i2l, 1) := by decide +kernel
theorem dX7_next_308 : decode (mX7_next).2.1 308 = .ok (.putfield 175, 3) := by decide +kernel
theorem dX7_next_311 : decode (mX7_next).2.1 311 = .ok (.aload_n 0, 1) := by decide +kernel
theorem dX7_next_312 : decode (mX7_next).2.1 312 = .ok (.dup, 1) := by decide +kernel
theorem dX7_next_313 : decode (mX7_next).2.1 313 = .ok (.getfield 155, 3) := by decide +kernel
theorem dX7_next_316 : decode (mX7_next).2.1 316 = .ok (.iconst 1, 1) := by decide +kernel
theorem dX7_next_317 : decode (mX7_next).2.1 317 = .ok (.iadd, 1) := by decide +kernel
theorem dX7_next_318 : decode (mX7_next).2.1 318 = .ok (.putfield 155, 3) := by decide +kernel
theorem dX7_next_321 : decode (mX7_next).2.1 321 = .ok (.return_, 1) := by decide +kernel
theorem dX7_fail_0 : decode (mX7_fail).2.1 0 = .ok (.aload_n 0, 1) := by decide +kernel
theorem dX7_fail_1 : decode (mX7_fail).2.1 1 = .ok (.getfield 181, 3) := by decide +kernel
theorem dX7_fail_4 : decode (mX7_fail).2.1 4 = .ok (.ifCond .ne 16, 3) := by decide +kernel
theorem dX7_fail_7 : decode (mX7_fail).2.1 7 = .ok (.aload_n 0, 1) := by decide +kernel
theorem dX7_fail_8 : decode (mX7_fail).2.1 8 = .ok (.iconst 1, 1) := by decide +kernel
theorem dX7_fail_9 : decode (mX7_fail).2.1 9 = .ok (.putfield 181, 3) := by decide +kernel
theorem dX7_fail_12 : decode (mX7_fail).2.1 12 = .ok (.aload_n 0, 1) := by decide +kernel
theorem dX7_fail_13 : decode (mX7_fail).2.1 13 = .ok (.aload_n 0, 1) := by decide +kernel
theorem dX7_fail_14 : decode (mX7_fail).2.1 14 = .ok (.getfield 161, 3) := by decide +kernel
theorem dX7_fail_17 : decode (mX7_fail).2.1 17 = .ok (.putfield 185, 3) := by decide +kernel
theorem dX7_fail_20 : decode (mX7_fail).2.1 20 = .ok (.return_, 1) := by decide +kernel
theorem dX7_isLetter_0 : decode (mX7_isLetter).2.1 0 = .ok (.aload_n 0, 1) := by decide +kernel
theorem dX7_isLetter_1 : decode (mX7_isLetter).2.1 1 = .ok (.getfield 161, 3) := by decide +kernel
theorem dX7_isLetter_4 : decode (mX7_isLetter).2.1 4 = .ok (.iload_n 1, 1) := by decide +kernel
theorem dX7_isLetter_5 : decode (mX7_isLetter).2.1 5 = .ok (.iadd, 1) := by decide +kernel
theorem dX7_isLetter_6 : decode (mX7_isLetter).2.1 6 = .ok (.aload_n 0, 1) := by decide +kernel
theorem dX7_isLetter_7 : decode (mX7_isLetter).2.1 7 = .ok (.getfield 155, 3) := by decide +kernel
theorem dX7_isLetter_10 : decode (mX7_isLetter).2.1 10 = .ok (.if_icmp .ge 25, 3) := by decide +kernel
theorem dX7_isLetter_13 : decode (mX7_isLetter).2.1 13 = .ok (.aload_n 0, 1) := by decide +kernel
theorem dX7_isLetter_14 : decode (mX7_isLetter).2.1 14 = .ok (.aload_n 0, 1) := by decide +kernel
theorem dX7_isLetter_15 : decode (mX7_isLetter).2.1 15 = .ok (.getfield 161, 3) := by decide +kernel
theorem dX7_isLetter_18 : decode (mX7_isLetter).2.1 18 = .ok (.iload_n 1, 1) := by decide +kernel
theorem dX7_isLetter_19 : decode (mX7_isLetter).2.1 19 = .ok (.iadd, 1) := by decide +kernel
theorem dX7_isLetter_20 : decode (mX7_isLetter).2.1 20 = .ok (.invokevirtual 158, 3) := by decide +kernel
theorem dX7_isLetter_23 : decode (mX7_isLetter).2.1 23 = .ok (.iload_n 2, 1) := by decide +kernel
theorem dX7_isLetter_24 : decode (mX7_isLetter).2.1 24 = .ok (.if_icmp .ne 7, 3) := by decide +kernel
theorem dX7_isLetter_27 : decode (mX7_isLetter).2.1 27 = .ok (.iconst 1, 1) := by decide +kernel
theorem dX7_isLetter_28 : decode (mX7_isLetter).2.1 28 = .ok (.goto 16, 3) := by decide +kernel
theorem dX7_isLetter_31 : decode (mX7_isLetter).2.1 31 = .ok (.iconst 0, 1) := by decide +kernel
theorem dX7_isLetter_32 : decode (mX7_isLetter).2.1 32 = .ok (.goto 12, 3) := by decide +kernel
theorem dX7_isLetter_35 : decode (mX7_isLetter).2.1 35 = .ok (.iload_n 2, 1) := by decide +kernel
theorem dX7_isLetter_36 : decode (mX7_isLetter).2.1 36 = .ok (.ifCond .ne 7, 3) := by decide +kernel
theorem dX7_isLetter_39 : decode (mX7_isLetter).2.1 39 = .ok (.iconst 1, 1) := by decide +kernel
theorem dX7_isLetter_40 : decode (mX7_isLetter).2.1 40 = .ok (.goto 4, 3) := by decide +kernel
theorem dX7_isLetter_43 : decode (mX7_isLetter).2.1 43 = .ok (.iconst 0, 1) := by decide +kernel
theorem dX7_isLetter_44 : decode (mX7_isLetter).2.1 44 = .ok (.ireturn, 1) := by decide +kernel
theorem dX7_isWord_0 : decode (mX7_isWord).2.1 0 = .ok (.aload_n 0, 1) := by decide +kernel
theorem dX7_isWord_1 : decode (mX7_isWord).2.1 1 = .ok (.getfield 181, 3) := by decide +kernel
theorem dX7_isWord_4 : decode (mX7_isWord).2.1 4 = .ok (.ifCond .ne 108, 3) := by decide +kernel
theorem dX7_isWord_7 : decode (mX7_isWord).2.1 7 = .ok (.aload_n 0, 1) := by decide +kernel
theorem dX7_isWord_8 : decode (mX7_isWord).2.1 8 = .ok (.getfield 164, 3) := by decide +kernel
theorem dX7_isWord_11 : decode (mX7_isWord).2.1 11 = .ok (.iconst 1, 1) := by decide +kernel
theorem dX7_isWord_12 : decode (mX7_isWord).2.1 12 = .ok (.if_icmp .ne 100, 3) := by decide +kernel
theorem dX7_isWord_15 : decode (mX7_isWord).2.1 15 = .ok (.aload_n 0, 1) := by decide +kernel
theorem dX7_isWord_16 : decode (mX7_isWord).2.1 16 = .ok (.getfield 155, 3) := by decide +kernel
theorem dX7_isWord_19 : decode (mX7_isWord).2.1 19 = .ok (.aload_n 0, 1) := by decide +kernel
theorem dX7_isWord_20 : decode (mX7_isWord).2.1 20 = .ok (.getfield 161, 3) := by decide +kernel
theorem dX7_isWord_23 : decode (mX7_isWord).2.1 23 = .ok (.bipush 8, 2) := by decide +kernel
theorem dX7_isWord_25 : decode (mX7_isWord).2.1 25 = .ok (.iadd, 1) := by decide +kernel
theorem dX7_isWord_26 : decode (mX7_isWord).2.1 26 = .ok (.if_icmp .gt 86, 3) := by decide +kernel
theorem dX7_isWord_29 : decode (mX7_isWord).2.1 29 = .ok (.aload_n 0, 1) := by decide +kernel
theorem dX7_isWord_30 : decode (mX7_isWord).2.1 30 = .ok (.iconst 0, 1) := by decide +kernel
theorem dX7_isWord_31 : decode (mX7_isWord).2.1 31 = .ok (.iload_n 1, 1) := by decide +kernel
theorem dX7_isWord_32 : decode (mX7_isWord).2.1 32 = .ok (.invokevirtual 188, 3) := by decide +kernel
theorem dX7_isWord_35 : decode (mX7_isWord).2.1 35 = .ok (.ifCond .eq 77, 3) := by decide +kernel
theorem dX7_isWord_38 : decode (mX7_isWord).2.1 38 = .ok (.aload_n 0, 1) := by decide +kernel
theorem dX7_isWord_39 : decode (mX7_isWord).2.1 39 = .ok (.iconst 1, 1) := by decide +kernel
theorem dX7_isWord_40 : decode (mX7_isWord).2.1 40 = .ok (.iload_n 2, 1) := by decide +kernel
theorem dX7_isWord_41 : decode (mX7_isWord).2.1 41 = .ok (.invokevirtual 188, 3) := by decide +kernel
theorem dX7_isWord_44 : decode (mX7_isWord).2.1 44 = .ok (.ifCond .eq 68, 3) := by decide +kernel
theorem dX7_isWord_47 : decode (mX7_isWord).2.1 47 = .ok (.aload_n 0, 1) := by decide +kernel
theorem dX7_isWord_48 : decode (mX7_isWord).2.1 48 = .ok (.iconst 2, 1) := by decide +kernel
theorem dX7_isWord_49 : decode (mX7_isWord).2.1 49 = .ok (.iload_n 3, 1) := by decide +kernel
theorem dX7_isWord_50 : decode (mX7_isWord).2.1 50 = .ok (.invokevirtual 188, 3) := by decide +kernel
theorem dX7_isWord_53 : decode (mX7_isWord).2.1 53 = .ok (.ifCond .eq 59, 3) := by decide +kernel
theorem dX7_isWord_56 : decode (mX7_isWord).2.1 56 = .ok (.aload_n 0, 1) := by decide +kernel
theorem dX7_isWord_57 : decode (mX7_isWord).2.1 57 = .ok (.iconst 3, 1) := by decide +kernel
theorem dX7_isWord_58 : decode (mX7_isWord).2.1 58 = .ok (.iload 4, 2) := by decide +kernel
theorem dX7_isWord_60 : decode (mX7_isWord).2.1 60 = .ok (.invokevirtual 188, 3) := by decide +kernel
theorem dX7_isWord_63 : decode (mX7_isWord).2.1 63 = .ok (.ifCond .eq 49, 3) := by decide +kernel
theorem dX7_isWord_66 : decode (mX7_isWord).2.1 66 = .ok (.aload_n 0, 1) := by decide +kernel
theorem dX7_isWord_67 : decode (mX7_isWord).2.1 67 = .ok (.iconst 4, 1) := by decide +kernel
theorem dX7_isWord_68 : decode (mX7_isWord).2.1 68 = .ok (.iload 5, 2) := by decide +kernel
theorem dX7_isWord_70 : decode (mX7_isWord).2.1 70 = .ok (.invokevirtual 188, 3) := by decide +kernel
theorem dX7_isWord_73 : decode (mX7_isWord).2.1 73 = .ok (.ifCond .eq 39, 3) := by decide +kernel
theorem dX7_isWord_76 : decode (mX7_isWord).2.1 76 = .ok (.aload_n 0, 1) := by decide +kernel
theorem dX7_isWord_77 : decode (mX7_isWord).2.1 77 = .ok (.iconst 5, 1) := by decide +kernel
theorem dX7_isWord_78 : decode (mX7_isWord).2.1 78 = .ok (.iload 6, 2) := by decide +kernel
theorem dX7_isWord_80 : decode (mX7_isWord).2.1 80 = .ok (.invokevirtual 188, 3) := by decide +kernel
theorem dX7_isWord_83 : decode (mX7_isWord).2.1 83 = .ok (.ifCond .eq 29, 3) := by decide +kernel
theorem dX7_isWord_86 : decode (mX7_isWord).2.1 86 = .ok (.aload_n 0, 1) := by decide +kernel
theorem dX7_isWord_87 : decode (mX7_isWord).2.1 87 = .ok (.bipush 6, 2) := by decide +kernel
theorem dX7_isWord_89 : decode (mX7_isWord).2.1 89 = .ok (.iload 7, 2) := by decide +kernel
theorem dX7_isWord_91 : decode (mX7_isWord).2.1 91 = .ok (.invokevirtual 188, 3) := by decide +kernel
theorem dX7_isWord_94 : decode (mX7_isWord).2.1 94 = .ok (.ifCond .eq 18, 3) := by decide +kernel
theorem dX7_isWord_97 : decode (mX7_isWord).2.1 97 = .ok (.aload_n 0, 1) := by decide +kernel
theorem dX7_isWord_98 : decode (mX7_isWord).2.1 98 = .ok (.bipush 7, 2) := by decide +kernel
theorem dX7_isWord_100 : decode (mX7_isWord).2.1 100 = .ok (.iload 8, 2) := by decide +kernel
theorem dX7_isWord_102 : decode (mX7_isWord).2.1 102 = .ok (.invokevirtual 188, 3) := by decide +kernel
theorem dX7_isWord_105 : decode (mX7_isWord).2.1 105 = .ok (.ifCond .eq 7, 3) := by decide +kernel
theorem dX7_isWord_108 : decode (mX7_isWord).2.1 108 = .ok (.iconst 1, 1) := by decide +kernel
theorem dX7_isWord_109 : decode (mX7_isWord).2.1 109 = .ok (.goto 4, 3) := by decide +kernel
theorem dX7_isWord_112 : decode (mX7_isWord).2.1 112 = .ok (.iconst 0, 1) := by decide +kernel
theorem dX7_isWord_113 : decode (mX7_isWord).2.1 113 = .ok (.ireturn, 1) := by decide +kernel
theorem dX7_isSign_0 : decode (mX7_isSign).2.1 0 = .ok (.aload_n 0, 1) := by decide +kernel
theorem dX7_isSign_1 : decode (mX7_isSign).2.1 1 = .ok (.getfield 181, 3) := by decide +kernel
theorem dX7_isSign_4 : decode (mX7_isSign).2.1 4 = .ok (.ifCond .ne 25, 3) := by decide +kernel
theorem dX7_isSign_7 : decode (mX7_isSign).2.1 7 = .ok (.aload_n 0, 1) := by decide +kernel
theorem dX7_isSign_8 : decode (mX7_isSign).2.1 8 = .ok (.getfield 164, 3) := by decide +kernel
theorem dX7_isSign_11 : decode (mX7_isSign).2.1 11 = .ok (.iconst 3, 1) := by decide +kernel
theorem dX7_isSign_12 : decode (mX7_isSign).2.1 12 = .ok (.if_icmp .ne 17, 3) := by decide +kernel
theorem dX7_isSign_15 : decode (mX7_isSign).2.1 15 = .ok (.aload_n 0, 1) := by decide +kernel
theorem dX7_isSign_16 : decode (mX7_isSign).2.1 16 = .ok (.getfield 175, 3) := by decide +kernel
theorem dX7_isSign_19 : decode (mX7_isSign).2.1 19 = .ok (.iload_n 1, 1) := by decide +kernel
theorem dX7_isSign_20 : decode (mX7_isSign).2.1 20 = .ok (.i2l, 1) := by decide +kernel
theorem dX7_isSign_21 : decode (mX7_isSign).2.1 21 = .ok (.lcmp, 1) := by decide +kernel
theorem dX7_isSign_22 : decode (mX7_isSign).2.1 22 = .ok (.ifCond .ne 7, 3) := by decide +kernel
theorem dX7_isSign_25 : decode (mX7_isSign).2.1 25 = .ok (.iconst 1, 1) := by decide +kernel
theorem dX7_isSign_26 : decode (mX7_isSign).2.1 26 = .ok (.goto 4, 3) := by decide +kernel
theorem dX7_isSign_29 : decode (mX7_isSign).2.1 29 = .ok (.iconst 0, 1) := by decide +kernel
theorem dX7_isSign_30 : decode (mX7_isSign).2.1 30 = .ok (.ireturn, 1) := by decide +kernel
theorem dX7_opens_0 : decode (mX7_opens).2.1 0 = .ok (.aload_n 0, 1) := by decide +kernel
theorem dX7_opens_1 : decode (mX7_opens).2.1 1 = .ok (.getfield 192, 3) := by decide +kernel
theorem dX7_opens_4 : decode (mX7_opens).2.1 4 = .ok (.iconst 5, 1) := by decide +kernel
theorem dX7_opens_5 : decode (mX7_opens).2.1 5 = .ok (.if_icmp .ne 9, 3) := by decide +kernel
theorem dX7_opens_8 : decode (mX7_opens).2.1 8 = .ok (.aload_n 0, 1) := by decide +kernel
theorem dX7_opens_9 : decode (mX7_opens).2.1 9 = .ok (.invokevirtual 195, 3) := by decide +kernel
theorem dX7_opens_12 : decode (mX7_opens).2.1 12 = .ok (.iconst 0, 1) := by decide +kernel
theorem dX7_opens_13 : decode (mX7_opens).2.1 13 = .ok (.ireturn, 1) := by decide +kernel
theorem dX7_opens_14 : decode (mX7_opens).2.1 14 = .ok (.aload_n 0, 1) := by decide +kernel
theorem dX7_opens_15 : decode (mX7_opens).2.1 15 = .ok (.dup, 1) := by decide +kernel
theorem dX7_opens_16 : decode (mX7_opens).2.1 16 = .ok (.getfield 192, 3) := by decide +kernel
theorem dX7_opens_19 : decode (mX7_opens).2.1 19 = .ok (.iconst 1, 1) := by decide +kernel
theorem dX7_opens_20 : decode (mX7_opens).2.1 20 = .ok (.iadd, 1) := by decide +kernel
theorem dX7_opens_21 : decode (mX7_opens).2.1 21 = .ok (.putfield 192, 3) := by decide +kernel
theorem dX7_opens_24 : decode (mX7_opens).2.1 24 = .ok (.aload_n 0, 1) := by decide +kernel
theorem dX7_opens_25 : decode (mX7_opens).2.1 25 = .ok (.invokevirtual 198, 3) := by decide +kernel
theorem dX7_opens_28 : decode (mX7_opens).2.1 28 = .ok (.iconst 1, 1) := by decide +kernel
theorem dX7_opens_29 : decode (mX7_opens).2.1 29 = .ok (.ireturn, 1) := by decide +kernel
theorem dX7_name_0 : decode (mX7_name).2.1 0 = .ok (.aload_n 0, 1) := by decide +kernel
theorem dX7_name_1 : decode (mX7_name).2.1 1 = .ok (.bipush 103, 2) := by decide +kernel
theorem dX7_name_3 : decode (mX7_name).2.1 3 = .ok (.bipush 114, 2) := by decide +kernel
theorem dX7_name_5 : decode (mX7_name).2.1 5 = .ok (.bipush 111, 2) := by decide +kernel
theorem dX7_name_7 : decode (mX7_name).2.1 7 = .ok (.bipush 117, 2) := by decide +kernel
theorem dX7_name_9 : decode (mX7_name).2.1 9 = .ok (.bipush 110, 2) := by decide +kernel
theorem dX7_name_11 : decode (mX7_name).2.1 11 = .ok (.bipush 100, 2) := by decide +kernel
theorem dX7_name_13 : decode (mX7_name).2.1 13 = .ok (.iconst 0, 1) := by decide +kernel
theorem dX7_name_14 : decode (mX7_name).2.1 14 = .ok (.iconst 0, 1) := by decide +kernel
theorem dX7_name_15 : decode (mX7_name).2.1 15 = .ok (.invokevirtual 201, 3) := by decide +kernel
theorem dX7_name_18 : decode (mX7_name).2.1 18 = .ok (.ifCond .eq 8, 3) := by decide +kernel
theorem dX7_name_21 : decode (mX7_name).2.1 21 = .ok (.aload_n 0, 1) := by decide +kernel
theorem dX7_name_22 : decode (mX7_name).2.1 22 = .ok (.getfield 205, 3) := by decide +kernel
theorem dX7_name_25 : decode (mX7_name).2.1 25 = .ok (.ireturn, 1) := by decide +kernel
theorem dX7_name_26 : decode (mX7_name).2.1 26 = .ok (.aload_n 0, 1) := by decide +kernel
theorem dX7_name_27 : decode (mX7_name).2.1 27 = .ok (.bipush 109, 2) := by decide +kernel
theorem dX7_name_29 : decode (mX7_name).2.1 29 = .ok (.bipush 101, 2) := by decide +kernel
theorem dX7_name_31 : decode (mX7_name).2.1 31 = .ok (.bipush 110, 2) := by decide +kernel
theorem dX7_name_33 : decode (mX7_name).2.1 33 = .ok (.iconst 0, 1) := by decide +kernel
theorem dX7_name_34 : decode (mX7_name).2.1 34 = .ok (.iconst 0, 1) := by decide +kernel
theorem dX7_name_35 : decode (mX7_name).2.1 35 = .ok (.iconst 0, 1) := by decide +kernel
theorem dX7_name_36 : decode (mX7_name).2.1 36 = .ok (.iconst 0, 1) := by decide +kernel
theorem dX7_name_37 : decode (mX7_name).2.1 37 = .ok (.iconst 0, 1) := by decide +kernel
theorem dX7_name_38 : decode (mX7_name).2.1 38 = .ok (.invokevirtual 201, 3) := by decide +kernel
theorem dX7_name_41 : decode (mX7_name).2.1 41 = .ok (.ifCond .eq 8, 3) := by decide +kernel
theorem dX7_name_44 : decode (mX7_name).2.1 44 = .ok (.aload_n 0, 1) := by decide +kernel
theorem dX7_name_45 : decode (mX7_name).2.1 45 = .ok (.getfield 208, 3) := by decide +kernel
theorem dX7_name_48 : decode (mX7_name).2.1 48 = .ok (.ireturn, 1) := by decide +kernel
theorem dX7_name_49 : decode (mX7_name).2.1 49 = .ok (.aload_n 0, 1) := by decide +kernel
theorem dX7_name_50 : decode (mX7_name).2.1 50 = .ok (.bipush 121, 2) := by decide +kernel
theorem dX7_name_52 : decode (mX7_name).2.1 52 = .ok (.bipush 97, 2) := by decide +kernel
theorem dX7_name_54 : decode (mX7_name).2.1 54 = .ok (.bipush 114, 2) := by decide +kernel
theorem dX7_name_56 : decode (mX7_name).2.1 56 = .ok (.bipush 100, 2) := by decide +kernel
theorem dX7_name_58 : decode (mX7_name).2.1 58 = .ok (.iconst 0, 1) := by decide +kernel
theorem dX7_name_59 : decode (mX7_name).2.1 59 = .ok (.iconst 0, 1) := by decide +kernel
theorem dX7_name_60 : decode (mX7_name).2.1 60 = .ok (.iconst 0, 1) := by decide +kernel
theorem dX7_name_61 : decode (mX7_name).2.1 61 = .ok (.iconst 0, 1) := by decide +kernel
theorem dX7_name_62 : decode (mX7_name).2.1 62 = .ok (.invokevirtual 201, 3) := by decide +kernel
theorem dX7_name_65 : decode (mX7_name).2.1 65 = .ok (.ifCond .eq 8, 3) := by decide +kernel
theorem dX7_name_68 : decode (mX7_name).2.1 68 = .ok (.aload_n 0, 1) := by decide +kernel
theorem dX7_name_69 : decode (mX7_name).2.1 69 = .ok (.getfield 211, 3) := by decide +kernel
theorem dX7_name_72 : decode (mX7_name).2.1 72 = .ok (.ireturn, 1) := by decide +kernel
theorem dX7_name_73 : decode (mX7_name).2.1 73 = .ok (.aload_n 0, 1) := by decide +kernel
theorem dX7_name_74 : decode (mX7_name).2.1 74 = .ok (.bipush 97, 2) := by decide +kernel
theorem dX7_name_76 : decode (mX7_name).2.1 76 = .ok (.bipush 104, 2) := by decide +kernel
theorem dX7_name_78 : decode (mX7_name).2.1 78 = .ok (.bipush 101, 2) := by decide +kernel
theorem dX7_name_80 : decode (mX7_name).2.1 80 = .ok (.bipush 97, 2) := by decide +kernel
theorem dX7_name_82 : decode (mX7_name).2.1 82 = .ok (.bipush 100, 2) := by decide +kernel
theorem dX7_name_84 : decode (mX7_name).2.1 84 = .ok (.iconst 0, 1) := by decide +kernel
theorem dX7_name_85 : decode (mX7_name).2.1 85 = .ok (.iconst 0, 1) := by decide +kernel
theorem dX7_name_86 : decode (mX7_name).2.1 86 = .ok (.iconst 0, 1) := by decide +kernel
theorem dX7_name_87 : decode (mX7_name).2.1 87 = .ok (.invokevirtual 201, 3) := by decide +kernel
theorem dX7_name_90 : decode (mX7_name).2.1 90 = .ok (.ifCond .eq 8, 3) := by decide +kernel
theorem dX7_name_93 : decode (mX7_name).2.1 93 = .ok (.aload_n 0, 1) := by decide +kernel
theorem dX7_name_94 : decode (mX7_name).2.1 94 = .ok (.getfield 214, 3) := by decide +kernel
theorem dX7_name_97 : decode (mX7_name).2.1 97 = .ok (.ireturn, 1) := by decide +kernel
theorem dX7_name_98 : decode (mX7_name).2.1 98 = .ok (.aload_n 0, 1) := by decide +kernel
theorem dX7_name_99 : decode (mX7_name).2.1 99 = .ok (.bipush 100, 2) := by decide +kernel
theorem dX7_name_101 : decode (mX7_name).2.1 101 = .ok (.bipush 97, 2) := by decide +kernel
theorem dX7_name_103 : decode (mX7_name).2.1 103 = .ok (.bipush 121, 2) := by decide +kernel
theorem dX7_name_105 : decode (mX7_name).2.1 105 = .ok (.iconst 0, 1) := by decide +kernel
theorem dX7_name_106 : decode (mX7_name).2.1 106 = .ok (.iconst 0, 1) := by decide +kernel
theorem dX7_name_107 : decode (mX7_name).2.1 107 = .ok (.iconst 0, 1) := by decide +kernel
theorem dX7_name_108 : decode (mX7_name).2.1 108 = .ok (.iconst 0, 1) := by decide +kernel
theorem dX7_name_109 : decode (mX7_name).2.1 109 = .ok (.iconst 0, 1) := by decide +kernel
theorem dX7_name_110 : decode (mX7_name).2.1 110 = .ok (.invokevirtual 201, 3) := by decide +kernel
theorem dX7_name_113 : decode (mX7_name).2.1 113 = .ok (.ifCond .eq 8, 3) := by decide +kernel
theorem dX7_name_116 : decode (mX7_name).2.1 116 = .ok (.aload_n 0, 1) := by decide +kernel
theorem dX7_name_117 : decode (mX7_name).2.1 117 = .ok (.getfield 217, 3) := by decide +kernel
theorem dX7_name_120 : decode (mX7_name).2.1 120 = .ok (.ireturn, 1) := by decide +kernel
theorem dX7_name_121 : decode (mX7_name).2.1 121 = .ok (.aload_n 0, 1) := by decide +kernel
theorem dX7_name_122 : decode (mX7_name).2.1 122 = .ok (.bipush 107, 2) := by decide +kernel
theorem dX7_name_124 : decode (mX7_name).2.1 124 = .ok (.bipush 110, 2) := by decide +kernel
theorem dX7_name_126 : decode (mX7_name).2.1 126 = .ok (.bipush 111, 2) := by decide +kernel
theorem dX7_name_128 : decode (mX7_name).2.1 128 = .ok (.bipush 119, 2) := by decide +kernel
theorem dX7_name_130 : decode (mX7_name).2.1 130 = .ok (.bipush 110, 2) := by decide +kernel
theorem dX7_name_132 : decode (mX7_name).2.1 132 = .ok (.iconst 0, 1) := by decide +kernel
theorem dX7_name_133 : decode (mX7_name).2.1 133 = .ok (.iconst 0, 1) := by decide +kernel
theorem dX7_name_134 : decode (mX7_name).2.1 134 = .ok (.iconst 0, 1) := by decide +kernel
theorem dX7_name_135 : decode (mX7_name).2.1 135 = .ok (.invokevirtual 201, 3) := by decide +kernel
theorem dX7_name_138 : decode (mX7_name).2.1 138 = .ok (.ifCond .eq 8, 3) := by decide +kernel
theorem dX7_name_141 : decode (mX7_name).2.1 141 = .ok (.aload_n 0, 1) := by decide +kernel
theorem dX7_name_142 : decode (mX7_name).2.1 142 = .ok (.getfield 220, 3) := by decide +kernel
theorem dX7_name_145 : decode (mX7_name).2.1 145 = .ok (.ireturn, 1) := by decide +kernel
theorem dX7_name_146 : decode (mX7_name).2.1 146 = .ok (.aload_n 0, 1) := by decide +kernel
theorem dX7_name_147 : decode (mX7_name).2.1 147 = .ok (.invokevirtual 195, 3) := by decide +kernel
theorem dX7_name_150 : decode (mX7_name).2.1 150 = .ok (.iconst 0, 1) := by decide +kernel
theorem dX7_name_151 : decode (mX7_name).2.1 151 = .ok (.ireturn, 1) := by decide +kernel
theorem dX7_atom_0 : decode (mX7_atom).2.1 0 = .ok (.iconst 0, 1) := by decide +kernel
theorem dX7_atom_1 : decode (mX7_atom).2.1 1 = .ok (.istore_n 1, 1) := by decide +kernel
theorem dX7_atom_2 : decode (mX7_atom).2.1 2 = .ok (.aload_n 0, 1) := by decide +kernel
theorem dX7_atom_3 : decode (mX7_atom).2.1 3 = .ok (.bipush 45, 2) := by decide +kernel
theorem dX7_atom_5 : decode (mX7_atom).2.1 5 = .ok (.invokevirtual 223, 3) := by decide +kernel
theorem dX7_atom_8 : decode (mX7_atom).2.1 8 = .ok (.ifCond .eq 29, 3) := by decide +kernel
theorem dX7_atom_11 : decode (mX7_atom).2.1 11 = .ok (.aload_n 0, 1) := by decide +kernel
theorem dX7_atom_12 : decode (mX7_atom).2.1 12 = .ok (.invokevirtual 226, 3) := by decide +kernel
theorem dX7_atom_15 : decode (mX7_atom).2.1 15 = .ok (.ifCond .eq 146, 3) := by decide +kernel
theorem dX7_atom_18 : decode (mX7_atom).2.1 18 = .ok (.aload_n 0, 1) := by decide +kernel
theorem dX7_atom_19 : decode (mX7_atom).2.1 19 = .ok (.invokevirtual 230, 3) := by decide +kernel
theorem dX7_atom_22 : decode (mX7_atom).2.1 22 = .ok (.ineg, 1) := by decide +kernel
theorem dX7_atom_23 : decode (mX7_atom).2.1 23 = .ok (.istore_n 1, 1) := by decide +kernel
theorem dX7_atom_24 : decode (mX7_atom).2.1 24 = .ok (.aload_n 0, 1) := by decide +kernel
theorem dX7_atom_25 : decode (mX7_atom).2.1 25 = .ok (.dup, 1) := by decide +kernel
theorem dX7_atom_26 : decode (mX7_atom).2.1 26 = .ok (.getfield 192, 3) := by decide +kernel
theorem dX7_atom_29 : decode (mX7_atom).2.1 29 = .ok (.iconst 1, 1) := by decide +kernel
theorem dX7_atom_30 : decode (mX7_atom).2.1 30 = .ok (.isub, 1) := by decide +kernel
theorem dX7_atom_31 : decode (mX7_atom).2.1 31 = .ok (.putfield 192, 3) := by decide +kernel
theorem dX7_atom_34 : decode (mX7_atom).2.1 34 = .ok (.goto 127, 3) := by decide +kernel
theorem dX7_atom_37 : decode (mX7_atom).2.1 37 = .ok (.aload_n 0, 1) := by decide +kernel
theorem dX7_atom_38 : decode (mX7_atom).2.1 38 = .ok (.bipush 40, 2) := by decide +kernel
theorem dX7_atom_40 : decode (mX7_atom).2.1 40 = .ok (.invokevirtual 223, 3) := by decide +kernel
theorem dX7_atom_43 : decode (mX7_atom).2.1 43 = .ok (.ifCond .eq 52, 3) := by decide +kernel
theorem dX7_atom_46 : decode (mX7_atom).2.1 46 = .ok (.aload_n 0, 1) := by decide +kernel
theorem dX7_atom_47 : decode (mX7_atom).2.1 47 = .ok (.invokevirtual 226, 3) := by decide +kernel
theorem dX7_atom_50 : decode (mX7_atom).2.1 50 = .ok (.ifCond .eq 111, 3) := by decide +kernel
theorem dX7_atom_53 : decode (mX7_atom).2.1 53 = .ok (.aload_n 0, 1) := by decide +kernel
theorem dX7_atom_54 : decode (mX7_atom).2.1 54 = .ok (.invokevirtual 233, 3) := by decide +kernel
theorem dX7_atom_57 : decode (mX7_atom).2.1 57 = .ok (.istore_n 1, 1) := by decide +kernel
theorem dX7_atom_58 : decode (mX7_atom).2.1 58 = .ok (.aload_n 0, 1) := by decide +kernel
theorem dX7_atom_59 : decode (mX7_atom).2.1 59 = .ok (.bipush 41, 2) := by decide +kernel
theorem dX7_atom_61 : decode (mX7_atom).2.1 61 = .ok (.invokevirtual 223, 3) := by decide +kernel
theorem dX7_atom_64 : decode (mX7_atom).2.1 64 = .ok (.ifCond .ne 7, 3) := by decide +kernel
theorem dX7_atom_67 : decode (mX7_atom).2.1 67 = .ok (.aload_n 0, 1) := by decide +kernel
theorem dX7_atom_68 : decode (mX7_atom).2.1 68 = .ok (.invokevirtual 195, 3) := by decide +kernel
theorem dX7_atom_71 : decode (mX7_atom).2.1 71 = .ok (.aload_n 0, 1) := by decide +kernel
theorem dX7_atom_72 : decode (mX7_atom).2.1 72 = .ok (.dup, 1) := by decide +kernel
theorem dX7_atom_73 : decode (mX7_atom).2.1 73 = .ok (.getfield 192, 3) := by decide +kernel
theorem dX7_atom_76 : decode (mX7_atom).2.1 76 = .ok (.iconst 1, 1) := by decide +kernel
theorem dX7_atom_77 : decode (mX7_atom).2.1 77 = .ok (.isub, 1) := by decide +kernel
theorem dX7_atom_78 : decode (mX7_atom).2.1 78 = .ok (.putfield 192, 3) := by decide +kernel
theorem dX7_atom_81 : decode (mX7_atom).2.1 81 = .ok (.aload_n 0, 1) := by decide +kernel
theorem dX7_atom_82 : decode (mX7_atom).2.1 82 = .ok (.getfield 181, 3) := by decide +kernel
theorem dX7_atom_85 : decode (mX7_atom).2.1 85 = .ok (.ifCond .ne 76, 3) := by decide +kernel
theorem dX7_atom_88 : decode (mX7_atom).2.1 88 = .ok (.aload_n 0, 1) := by decide +kernel
theorem dX7_atom_89 : decode (mX7_atom).2.1 89 = .ok (.invokevirtual 198, 3) := by decide +kernel
theorem dX7_atom_92 : decode (mX7_atom).2.1 92 = .ok (.goto 69, 3) := by decide +kernel
theorem dX7_atom_95 : decode (mX7_atom).2.1 95 = .ok (.aload_n 0, 1) := by decide +kernel
theorem dX7_atom_96 : decode (mX7_atom).2.1 96 = .ok (.getfield 181, 3) := by decide +kernel
theorem dX7_atom_99 : decode (mX7_atom).2.1 99 = .ok (.ifCond .ne 24, 3) := by decide +kernel
theorem dX7_atom_102 : decode (mX7_atom).2.1 102 = .ok (.aload_n 0, 1) := by decide +kernel
theorem dX7_atom_103 : decode (mX7_atom).2.1 103 = .ok (.getfield 164, 3) := by decide +kernel
theorem dX7_atom_106 : decode (mX7_atom).2.1 106 = .ok (.iconst 2, 1) := by decide +kernel
theorem dX7_atom_107 : decode (mX7_atom).2.1 107 = .ok (.if_icmp .ne 16, 3) := by decide +kernel
theorem dX7_atom_110 : decode (mX7_atom).2.1 110 = .ok (.aload_n 0, 1) := by decide +kernel
theorem dX7_atom_111 : decode (mX7_atom).2.1 111 = .ok (.getfield 175, 3) := by decide +kernel
theorem dX7_atom_114 : decode (mX7_atom).2.1 114 = .ok (.l2i, 1) := by decide +kernel
theorem dX7_atom_115 : decode (mX7_atom).2.1 115 = .ok (.istore_n 1, 1) := by decide +kernel
theorem dX7_atom_116 : decode (mX7_atom).2.1 116 = .ok (.aload_n 0, 1) := by decide +kernel
theorem dX7_atom_117 : decode (mX7_atom).2.1 117 = .ok (.invokevirtual 198, 3) := by decide +kernel
theorem dX7_atom_120 : decode (mX7_atom).2.1 120 = .ok (.goto 41, 3) := by decide +kernel
theorem dX7_atom_123 : decode (mX7_atom).2.1 123 = .ok (.aload_n 0, 1) := by decide +kernel
theorem dX7_atom_124 : decode (mX7_atom).2.1 124 = .ok (.getfield 181, 3) := by decide +kernel
theorem dX7_atom_127 : decode (mX7_atom).2.1 127 = .ok (.ifCond .ne 30, 3) := by decide +kernel
theorem dX7_atom_130 : decode (mX7_atom).2.1 130 = .ok (.aload_n 0, 1) := by decide +kernel
theorem dX7_atom_131 : decode (mX7_atom).2.1 131 = .ok (.getfield 164, 3) := by decide +kernel
theorem dX7_atom_134 : decode (mX7_atom).2.1 134 = .ok (.iconst 1, 1) := by decide +kernel
theorem dX7_atom_135 : decode (mX7_atom).2.1 135 = .ok (.if_icmp .ne 22, 3) := by decide +kernel
theorem dX7_atom_138 : decode (mX7_atom).2.1 138 = .ok (.aload_n 0, 1) := by decide +kernel
theorem dX7_atom_139 : decode (mX7_atom).2.1 139 = .ok (.invokevirtual 236, 3) := by decide +kernel
theorem dX7_atom_142 : decode (mX7_atom).2.1 142 = .ok (.istore_n 1, 1) := by decide +kernel
theorem dX7_atom_143 : decode (mX7_atom).2.1 143 = .ok (.aload_n 0, 1) := by decide +kernel
theorem dX7_atom_144 : decode (mX7_atom).2.1 144 = .ok (.getfield 181, 3) := by decide +kernel
theorem dX7_atom_147 : decode (mX7_atom).2.1 147 = .ok (.ifCond .ne 14, 3) := by decide +kernel
theorem dX7_atom_150 : decode (mX7_atom).2.1 150 = .ok (.aload_n 0, 1) := by decide +kernel
theorem dX7_atom_151 : decode (mX7_atom).2.1 151 = .ok (.invokevirtual 198, 3) := by decide +kernel
theorem dX7_atom_154 : decode (mX7_atom).2.1 154 = .ok (.goto 7, 3) := by decide +kernel
theorem dX7_atom_157 : decode (mX7_atom).2.1 157 = .ok (.aload_n 0, 1) := by decide +kernel
theorem dX7_atom_158 : decode (mX7_atom).2.1 158 = .ok (.invokevirtual 195, 3) := by decide +kernel
theorem dX7_atom_161 : decode (mX7_atom).2.1 161 = .ok (.iload_n 1, 1) := by decide +kernel
theorem dX7_atom_162 : decode (mX7_atom).2.1 162 = .ok (.ireturn, 1) := by decide +kernel
theorem dX7_term_0 : decode (mX7_term).2.1 0 = .ok (.aload_n 0, 1) := by decide +kernel
theorem dX7_term_1 : decode (mX7_term).2.1 1 = .ok (.invokevirtual 230, 3) := by decide +kernel
theorem dX7_term_4 : decode (mX7_term).2.1 4 = .ok (.istore_n 1, 1) := by decide +kernel
theorem dX7_term_5 : decode (mX7_term).2.1 5 = .ok (.aload_n 0, 1) := by decide +kernel
theorem dX7_term_6 : decode (mX7_term).2.1 6 = .ok (.bipush 42, 2) := by decide +kernel
theorem dX7_term_8 : decode (mX7_term).2.1 8 = .ok (.invokevirtual 223, 3) := by decide +kernel
theorem dX7_term_11 : decode (mX7_term).2.1 11 = .ok (.ifCond .eq 17, 3) := by decide +kernel
theorem dX7_term_14 : decode (mX7_term).2.1 14 = .ok (.aload_n 0, 1) := by decide +kernel
theorem dX7_term_15 : decode (mX7_term).2.1 15 = .ok (.invokevirtual 198, 3) := by decide +kernel
theorem dX7_term_18 : decode (mX7_term).2.1 18 = .ok (.iload_n 1, 1) := by decide +kernel
theorem dX7_term_19 : decode (mX7_term).2.1 19 = .ok (.aload_n 0, 1) := by decide +kernel
theorem dX7_term_20 : decode (mX7_term).2.1 20 = .ok (.invokevirtual 230, 3) := by decide +kernel
theorem dX7_term_23 : decode (mX7_term).2.1 23 = .ok (.imul, 1) := by decide +kernel
theorem dX7_term_24 : decode (mX7_term).2.1 24 = .ok (.istore_n 1, 1) := by decide +kernel
theorem dX7_term_25 : decode (mX7_term).2.1 25 = .ok (.goto (-20), 3) := by decide +kernel
theorem dX7_term_28 : decode (mX7_term).2.1 28 = .ok (.iload_n 1, 1) := by decide +kernel
theorem dX7_term_29 : decode (mX7_term).2.1 29 = .ok (.ireturn, 1) := by decide +kernel
theorem dX7_added_0 : decode (mX7_added).2.1 0 = .ok (.aload_n 0, 1) := by decide +kernel
theorem dX7_added_1 : decode (mX7_added).2.1 1 = .ok (.invokevirtual 239, 3) := by decide +kernel
theorem dX7_added_4 : decode (mX7_added).2.1 4 = .ok (.istore_n 1, 1) := by decide +kernel
theorem dX7_added_5 : decode (mX7_added).2.1 5 = .ok (.aload_n 0, 1) := by decide +kernel
theorem dX7_added_6 : decode (mX7_added).2.1 6 = .ok (.bipush 43, 2) := by decide +kernel
theorem dX7_added_8 : decode (mX7_added).2.1 8 = .ok (.invokevirtual 223, 3) := by decide +kernel
theorem dX7_added_11 : decode (mX7_added).2.1 11 = .ok (.ifCond .ne 12, 3) := by decide +kernel
theorem dX7_added_14 : decode (mX7_added).2.1 14 = .ok (.aload_n 0, 1) := by decide +kernel
theorem dX7_added_15 : decode (mX7_added).2.1 15 = .ok (.bipush 45, 2) := by decide +kernel
theorem dX7_added_17 : decode (mX7_added).2.1 17 = .ok (.invokevirtual 223, 3) := by decide +kernel
theorem dX7_added_20 : decode (mX7_added).2.1 20 = .ok (.ifCond .eq 46, 3) := by decide +kernel
theorem dX7_added_23 : decode (mX7_added).2.1 23 = .ok (.aload_n 0, 1) := by decide +kernel
theorem dX7_added_24 : decode (mX7_added).2.1 24 = .ok (.getfield 175, 3) := by decide +kernel
theorem dX7_added_27 : decode (mX7_added).2.1 27 = .ok (.ldc2_w 242, 3) := by decide +kernel
theorem dX7_added_30 : decode (mX7_added).2.1 30 = .ok (.lcmp, 1) := by decide +kernel
theorem dX7_added_31 : decode (mX7_added).2.1 31 = .ok (.ifCond .ne 7, 3) := by decide +kernel
theorem dX7_added_34 : decode (mX7_added).2.1 34 = .ok (.iconst 1, 1) := by decide +kernel
theorem dX7_added_35 : decode (mX7_added).2.1 35 = .ok (.goto 4, 3) := by decide +kernel
theorem dX7_added_38 : decode (mX7_added).2.1 38 = .ok (.iconst 0, 1) := by decide +kernel
theorem dX7_added_39 : decode (mX7_added).2.1 39 = .ok (.istore_n 2, 1) := by decide +kernel
theorem dX7_added_40 : decode (mX7_added).2.1 40 = .ok (.aload_n 0, 1) := by decide +kernel
theorem dX7_added_41 : decode (mX7_added).2.1 41 = .ok (.invokevirtual 198, 3) := by decide +kernel
theorem dX7_added_44 : decode (mX7_added).2.1 44 = .ok (.aload_n 0, 1) := by decide +kernel
theorem dX7_added_45 : decode (mX7_added).2.1 45 = .ok (.invokevirtual 239, 3) := by decide +kernel
theorem dX7_added_48 : decode (mX7_added).2.1 48 = .ok (.istore_n 3, 1) := by decide +kernel
theorem dX7_added_49 : decode (mX7_added).2.1 49 = .ok (.iload_n 2, 1) := by decide +kernel
theorem dX7_added_50 : decode (mX7_added).2.1 50 = .ok (.ifCond .eq 9, 3) := by decide +kernel
theorem dX7_added_53 : decode (mX7_added).2.1 53 = .ok (.iload_n 1, 1) := by decide +kernel
theorem dX7_added_54 : decode (mX7_added).2.1 54 = .ok (.iload_n 3, 1) := by decide +kernel
theorem dX7_added_55 : decode (mX7_added).2.1 55 = .ok (.iadd, 1) := by decide +kernel
theorem dX7_added_56 : decode (mX7_added).2.1 56 = .ok (.goto 6, 3) := by decide +kernel
theorem dX7_added_59 : decode (mX7_added).2.1 59 = .ok (.iload_n 1, 1) := by decide +kernel
theorem dX7_added_60 : decode (mX7_added).2.1 60 = .ok (.iload_n 3, 1) := by decide +kernel
theorem dX7_added_61 : decode (mX7_added).2.1 61 = .ok (.isub, 1) := by decide +kernel
theorem dX7_added_62 : decode (mX7_added).2.1 62 = .ok (.istore_n 1, 1) := by decide +kernel
theorem dX7_added_63 : decode (mX7_added).2.1 63 = .ok (.goto (-58), 3) := by decide +kernel
theorem dX7_added_66 : decode (mX7_added).2.1 66 = .ok (.iload_n 1, 1) := by decide +kernel
theorem dX7_added_67 : decode (mX7_added).2.1 67 = .ok (.ireturn, 1) := by decide +kernel
theorem dX7_not_0 : decode (mX7_not).2.1 0 = .ok (.aload_n 0, 1) := by decide +kernel
theorem dX7_not_1 : decode (mX7_not).2.1 1 = .ok (.bipush 110, 2) := by decide +kernel
theorem dX7_not_3 : decode (mX7_not).2.1 3 = .ok (.bipush 111, 2) := by decide +kernel
theorem dX7_not_5 : decode (mX7_not).2.1 5 = .ok (.bipush 116, 2) := by decide +kernel
theorem dX7_not_7 : decode (mX7_not).2.1 7 = .ok (.iconst 0, 1) := by decide +kernel
theorem dX7_not_8 : decode (mX7_not).2.1 8 = .ok (.iconst 0, 1) := by decide +kernel
theorem dX7_not_9 : decode (mX7_not).2.1 9 = .ok (.iconst 0, 1) := by decide +kernel
theorem dX7_not_10 : decode (mX7_not).2.1 10 = .ok (.iconst 0, 1) := by decide +kernel
theorem dX7_not_11 : decode (mX7_not).2.1 11 = .ok (.iconst 0, 1) := by decide +kernel
theorem dX7_not_12 : decode (mX7_not).2.1 12 = .ok (.invokevirtual 201, 3) := by decide +kernel
theorem dX7_not_15 : decode (mX7_not).2.1 15 = .ok (.ifCond .eq 37, 3) := by decide +kernel
theorem dX7_not_18 : decode (mX7_not).2.1 18 = .ok (.aload_n 0, 1) := by decide +kernel
theorem dX7_not_19 : decode (mX7_not).2.1 19 = .ok (.invokevirtual 226, 3) := by decide +kernel
theorem dX7_not_22 : decode (mX7_not).2.1 22 = .ok (.ifCond .ne 5, 3) := by decide +kernel
theorem dX7_not_25 : decode (mX7_not).2.1 25 = .ok (.iconst 0, 1) := by decide +kernel
theorem dX7_not_26 : decode (mX7_not).2.1 26 = .ok (.ireturn, 1) := by decide +kernel
theorem dX7_not_27 : decode (mX7_not).2.1 27 = .ok (.aload_n 0, 1) := by decide +kernel
theorem dX7_not_28 : decode (mX7_not).2.1 28 = .ok (.invokevirtual 244, 3) := by decide +kernel
theorem dX7_not_31 : decode (mX7_not).2.1 31 = .ok (.istore_n 1, 1) := by decide +kernel
theorem dX7_not_32 : decode (mX7_not).2.1 32 = .ok (.aload_n 0, 1) := by decide +kernel
theorem dX7_not_33 : decode (mX7_not).2.1 33 = .ok (.dup, 1) := by decide +kernel
theorem dX7_not_34 : decode (mX7_not).2.1 34 = .ok (.getfield 192, 3) := by decide +kernel
theorem dX7_not_37 : decode (mX7_not).2.1 37 = .ok (.iconst 1, 1) := by decide +kernel
theorem dX7_not_38 : decode (mX7_not).2.1 38 = .ok (.isub, 1) := by decide +kernel
theorem dX7_not_39 : decode (mX7_not).2.1 39 = .ok (.putfield 192, 3) := by decide +kernel
theorem dX7_not_42 : decode (mX7_not).2.1 42 = .ok (.iload_n 1, 1) := by decide +kernel
theorem dX7_not_43 : decode (mX7_not).2.1 43 = .ok (.ifCond .ne 7, 3) := by decide +kernel
theorem dX7_not_46 : decode (mX7_not).2.1 46 = .ok (.iconst 1, 1) := by decide +kernel
theorem dX7_not_47 : decode (mX7_not).2.1 47 = .ok (.goto 4, 3) := by decide +kernel
theorem dX7_not_50 : decode (mX7_not).2.1 50 = .ok (.iconst 0, 1) := by decide +kernel
theorem dX7_not_51 : decode (mX7_not).2.1 51 = .ok (.ireturn, 1) := by decide +kernel
theorem dX7_not_52 : decode (mX7_not).2.1 52 = .ok (.aload_n 0, 1) := by decide +kernel
theorem dX7_not_53 : decode (mX7_not).2.1 53 = .ok (.invokevirtual 247, 3) := by decide +kernel
theorem dX7_not_56 : decode (mX7_not).2.1 56 = .ok (.istore_n 1, 1) := by decide +kernel
theorem dX7_not_57 : decode (mX7_not).2.1 57 = .ok (.aload_n 0, 1) := by decide +kernel
theorem dX7_not_58 : decode (mX7_not).2.1 58 = .ok (.bipush 60, 2) := by decide +kernel
theorem dX7_not_60 : decode (mX7_not).2.1 60 = .ok (.invokevirtual 223, 3) := by decide +kernel
theorem dX7_not_63 : decode (mX7_not).2.1 63 = .ok (.ifCond .ne 14, 3) := by decide +kernel
theorem dX7_not_66 : decode (mX7_not).2.1 66 = .ok (.aload_n 0, 1) := by decide +kernel
theorem dX7_not_67 : decode (mX7_not).2.1 67 = .ok (.bipush 61, 2) := by decide +kernel
theorem dX7_not_69 : decode (mX7_not).2.1 69 = .ok (.invokevirtual 223, 3) := by decide +kernel
theorem dX7_not_72 : decode (mX7_not).2.1 72 = .ok (.ifCond .ne 5, 3) := by decide +kernel
theorem dX7_not_75 : decode (mX7_not).2.1 75 = .ok (.iload_n 1, 1) := by decide +kernel
theorem dX7_not_76 : decode (mX7_not).2.1 76 = .ok (.ireturn, 1) := by decide +kernel
theorem dX7_not_77 : decode (mX7_not).2.1 77 = .ok (.aload_n 0, 1) := by decide +kernel
theorem dX7_not_78 : decode (mX7_not).2.1 78 = .ok (.getfield 175, 3) := by decide +kernel
theorem dX7_not_81 : decode (mX7_not).2.1 81 = .ok (.ldc2_w 250, 3) := by decide +kernel
theorem dX7_not_84 : decode (mX7_not).2.1 84 = .ok (.lcmp, 1) := by decide +kernel
theorem dX7_not_85 : decode (mX7_not).2.1 85 = .ok (.ifCond .ne 7, 3) := by decide +kernel
theorem dX7_not_88 : decode (mX7_not).2.1 88 = .ok (.iconst 1, 1) := by decide +kernel
theorem dX7_not_89 : decode (mX7_not).2.1 89 = .ok (.goto 4, 3) := by decide +kernel
theorem dX7_not_92 : decode (mX7_not).2.1 92 = .ok (.iconst 0, 1) := by decide +kernel
theorem dX7_not_93 : decode (mX7_not).2.1 93 = .ok (.istore_n 2, 1) := by decide +kernel
theorem dX7_not_94 : decode (mX7_not).2.1 94 = .ok (.aload_n 0, 1) := by decide +kernel
theorem dX7_not_95 : decode (mX7_not).2.1 95 = .ok (.invokevirtual 198, 3) := by decide +kernel
theorem dX7_not_98 : decode (mX7_not).2.1 98 = .ok (.aload_n 0, 1) := by decide +kernel
theorem dX7_not_99 : decode (mX7_not).2.1 99 = .ok (.invokevirtual 247, 3) := by decide +kernel
theorem dX7_not_102 : decode (mX7_not).2.1 102 = .ok (.istore_n 3, 1) := by decide +kernel
theorem dX7_not_103 : decode (mX7_not).2.1 103 = .ok (.iload_n 2, 1) := by decide +kernel
theorem dX7_not_104 : decode (mX7_not).2.1 104 = .ok (.ifCond .eq 11, 3) := by decide +kernel
theorem dX7_not_107 : decode (mX7_not).2.1 107 = .ok (.iload_n 1, 1) := by decide +kernel
theorem dX7_not_108 : decode (mX7_not).2.1 108 = .ok (.iload_n 3, 1) := by decide +kernel
theorem dX7_not_109 : decode (mX7_not).2.1 109 = .ok (.if_icmp .ge 15, 3) := by decide +kernel
theorem dX7_not_112 : decode (mX7_not).2.1 112 = .ok (.goto 8, 3) := by decide +kernel
theorem dX7_not_115 : decode (mX7_not).2.1 115 = .ok (.iload_n 1, 1) := by decide +kernel
theorem dX7_not_116 : decode (mX7_not).2.1 116 = .ok (.iload_n 3, 1) := by decide +kernel
theorem dX7_not_117 : decode (mX7_not).2.1 117 = .ok (.if_icmp .ne 7, 3) := by decide +kernel
theorem dX7_not_120 : decode (mX7_not).2.1 120 = .ok (.iconst 1, 1) := by decide +kernel
theorem dX7_not_121 : decode (mX7_not).2.1 121 = .ok (.goto 4, 3) := by decide +kernel
theorem dX7_not_124 : decode (mX7_not).2.1 124 = .ok (.iconst 0, 1) := by decide +kernel
theorem dX7_not_125 : decode (mX7_not).2.1 125 = .ok (.ireturn, 1) := by decide +kernel
theorem dX7_both_0 : decode (mX7_both).2.1 0 = .ok (.aload_n 0, 1) := by decide +kernel
theorem dX7_both_1 : decode (mX7_both).2.1 1 = .ok (.invokevirtual 244, 3) := by decide +kernel
theorem dX7_both_4 : decode (mX7_both).2.1 4 = .ok (.istore_n 1, 1) := by decide +kernel
theorem dX7_both_5 : decode (mX7_both).2.1 5 = .ok (.aload_n 0, 1) := by decide +kernel
theorem dX7_both_6 : decode (mX7_both).2.1 6 = .ok (.bipush 97, 2) := by decide +kernel
theorem dX7_both_8 : decode (mX7_both).2.1 8 = .ok (.bipush 110, 2) := by decide +kernel
theorem dX7_both_10 : decode (mX7_both).2.1 10 = .ok (.bipush 100, 2) := by decide +kernel
theorem dX7_both_12 : decode (mX7_both).2.1 12 = .ok (.iconst 0, 1) := by decide +kernel
theorem dX7_both_13 : decode (mX7_both).2.1 13 = .ok (.iconst 0, 1) := by decide +kernel
theorem dX7_both_14 : decode (mX7_both).2.1 14 = .ok (.iconst 0, 1) := by decide +kernel
theorem dX7_both_15 : decode (mX7_both).2.1 15 = .ok (.iconst 0, 1) := by decide +kernel
theorem dX7_both_16 : decode (mX7_both).2.1 16 = .ok (.iconst 0, 1) := by decide +kernel
theorem dX7_both_17 : decode (mX7_both).2.1 17 = .ok (.invokevirtual 201, 3) := by decide +kernel
theorem dX7_both_20 : decode (mX7_both).2.1 20 = .ok (.ifCond .eq 29, 3) := by decide +kernel
theorem dX7_both_23 : decode (mX7_both).2.1 23 = .ok (.aload_n 0, 1) := by decide +kernel
theorem dX7_both_24 : decode (mX7_both).2.1 24 = .ok (.invokevirtual 198, 3) := by decide +kernel
theorem dX7_both_27 : decode (mX7_both).2.1 27 = .ok (.aload_n 0, 1) := by decide +kernel
theorem dX7_both_28 : decode (mX7_both).2.1 28 = .ok (.invokevirtual 244, 3) := by decide +kernel
theorem dX7_both_31 : decode (mX7_both).2.1 31 = .ok (.istore_n 2, 1) := by decide +kernel
theorem dX7_both_32 : decode (mX7_both).2.1 32 = .ok (.iload_n 1, 1) := by decide +kernel
theorem dX7_both_33 : decode (mX7_both).2.1 33 = .ok (.ifCond .eq 11, 3) := by decide +kernel
theorem dX7_both_36 : decode (mX7_both).2.1 36 = .ok (.iload_n 2, 1) := by decide +kernel
theorem dX7_both_37 : decode (mX7_both).2.1 37 = .ok (.ifCond .eq 7, 3) := by decide +kernel
theorem dX7_both_40 : decode (mX7_both).2.1 40 = .ok (.iconst 1, 1) := by decide +kernel
theorem dX7_both_41 : decode (mX7_both).2.1 41 = .ok (.goto 4, 3) := by decide +kernel
theorem dX7_both_44 : decode (mX7_both).2.1 44 = .ok (.iconst 0, 1) := by decide +kernel
theorem dX7_both_45 : decode (mX7_both).2.1 45 = .ok (.istore_n 1, 1) := by decide +kernel
theorem dX7_both_46 : decode (mX7_both).2.1 46 = .ok (.goto (-41), 3) := by decide +kernel
theorem dX7_both_49 : decode (mX7_both).2.1 49 = .ok (.iload_n 1, 1) := by decide +kernel
theorem dX7_both_50 : decode (mX7_both).2.1 50 = .ok (.ireturn, 1) := by decide +kernel
theorem dX7_either_0 : decode (mX7_either).2.1 0 = .ok (.aload_n 0, 1) := by decide +kernel
theorem dX7_either_1 : decode (mX7_either).2.1 1 = .ok (.invokevirtual 252, 3) := by decide +kernel
theorem dX7_either_4 : decode (mX7_either).2.1 4 = .ok (.istore_n 1, 1) := by decide +kernel
theorem dX7_either_5 : decode (mX7_either).2.1 5 = .ok (.aload_n 0, 1) := by decide +kernel
theorem dX7_either_6 : decode (mX7_either).2.1 6 = .ok (.bipush 111, 2) := by decide +kernel
theorem dX7_either_8 : decode (mX7_either).2.1 8 = .ok (.bipush 114, 2) := by decide +kernel
theorem dX7_either_10 : decode (mX7_either).2.1 10 = .ok (.iconst 0, 1) := by decide +kernel
theorem dX7_either_11 : decode (mX7_either).2.1 11 = .ok (.iconst 0, 1) := by decide +kernel
theorem dX7_either_12 : decode (mX7_either).2.1 12 = .ok (.iconst 0, 1) := by decide +kernel
theorem dX7_either_13 : decode (mX7_either).2.1 13 = .ok (.iconst 0, 1) := by decide +kernel
theorem dX7_either_14 : decode (mX7_either).2.1 14 = .ok (.iconst 0, 1) := by decide +kernel
theorem dX7_either_15 : decode (mX7_either).2.1 15 = .ok (.iconst 0, 1) := by decide +kernel
theorem dX7_either_16 : decode (mX7_either).2.1 16 = .ok (.invokevirtual 201, 3) := by decide +kernel
theorem dX7_either_19 : decode (mX7_either).2.1 19 = .ok (.ifCond .eq 29, 3) := by decide +kernel
theorem dX7_either_22 : decode (mX7_either).2.1 22 = .ok (.aload_n 0, 1) := by decide +kernel
theorem dX7_either_23 : decode (mX7_either).2.1 23 = .ok (.invokevirtual 198, 3) := by decide +kernel
theorem dX7_either_26 : decode (mX7_either).2.1 26 = .ok (.aload_n 0, 1) := by decide +kernel
theorem dX7_either_27 : decode (mX7_either).2.1 27 = .ok (.invokevirtual 252, 3) := by decide +kernel
theorem dX7_either_30 : decode (mX7_either).2.1 30 = .ok (.istore_n 2, 1) := by decide +kernel
theorem dX7_either_31 : decode (mX7_either).2.1 31 = .ok (.iload_n 1, 1) := by decide +kernel
theorem dX7_either_32 : decode (mX7_either).2.1 32 = .ok (.ifCond .ne 7, 3) := by decide +kernel
theorem dX7_either_35 : decode (mX7_either).2.1 35 = .ok (.iload_n 2, 1) := by decide +kernel
theorem dX7_either_36 : decode (mX7_either).2.1 36 = .ok (.ifCond .eq 7, 3) := by decide +kernel
theorem dX7_either_39 : decode (mX7_either).2.1 39 = .ok (.iconst 1, 1) := by decide +kernel
theorem dX7_either_40 : decode (mX7_either).2.1 40 = .ok (.goto 4, 3) := by decide +kernel
theorem dX7_either_43 : decode (mX7_either).2.1 43 = .ok (.iconst 0, 1) := by decide +kernel
theorem dX7_either_44 : decode (mX7_either).2.1 44 = .ok (.istore_n 1, 1) := by decide +kernel
theorem dX7_either_45 : decode (mX7_either).2.1 45 = .ok (.goto (-40), 3) := by decide +kernel
theorem dX7_either_48 : decode (mX7_either).2.1 48 = .ok (.iload_n 1, 1) := by decide +kernel
theorem dX7_either_49 : decode (mX7_either).2.1 49 = .ok (.ireturn, 1) := by decide +kernel
theorem dX7_part_0 : decode (mX7_part).2.1 0 = .ok (.iload_n 1, 1) := by decide +kernel
theorem dX7_part_1 : decode (mX7_part).2.1 1 = .ok (.ifCond .ne 7, 3) := by decide +kernel
theorem dX7_part_4 : decode (mX7_part).2.1 4 = .ok (.aload_n 0, 1) := by decide +kernel
theorem dX7_part_5 : decode (mX7_part).2.1 5 = .ok (.invokevirtual 195, 3) := by decide +kernel
theorem dX7_part_8 : decode (mX7_part).2.1 8 = .ok (.aload_n 0, 1) := by decide +kernel
theorem dX7_part_9 : decode (mX7_part).2.1 9 = .ok (.getfield 181, 3) := by decide +kernel
theorem dX7_part_12 : decode (mX7_part).2.1 12 = .ok (.ifCond .ne 7, 3) := by decide +kernel
theorem dX7_part_15 : decode (mX7_part).2.1 15 = .ok (.aload_n 0, 1) := by decide +kernel
theorem dX7_part_16 : decode (mX7_part).2.1 16 = .ok (.invokevirtual 198, 3) := by decide +kernel
theorem dX7_part_19 : decode (mX7_part).2.1 19 = .ok (.aload_n 0, 1) := by decide +kernel
theorem dX7_part_20 : decode (mX7_part).2.1 20 = .ok (.getfield 181, 3) := by decide +kernel
theorem dX7_part_23 : decode (mX7_part).2.1 23 = .ok (.ifCond .eq 7, 3) := by decide +kernel
theorem dX7_part_26 : decode (mX7_part).2.1 26 = .ok (.iconst 0, 1) := by decide +kernel
theorem dX7_part_27 : decode (mX7_part).2.1 27 = .ok (.goto 7, 3) := by decide +kernel
theorem dX7_part_30 : decode (mX7_part).2.1 30 = .ok (.aload_n 0, 1) := by decide +kernel
theorem dX7_part_31 : decode (mX7_part).2.1 31 = .ok (.invokevirtual 233, 3) := by decide +kernel
theorem dX7_part_34 : decode (mX7_part).2.1 34 = .ok (.istore_n 2, 1) := by decide +kernel
theorem dX7_part_35 : decode (mX7_part).2.1 35 = .ok (.aload_n 0, 1) := by decide +kernel
theorem dX7_part_36 : decode (mX7_part).2.1 36 = .ok (.bipush 59, 2) := by decide +kernel
theorem dX7_part_38 : decode (mX7_part).2.1 38 = .ok (.invokevirtual 223, 3) := by decide +kernel
theorem dX7_part_41 : decode (mX7_part).2.1 41 = .ok (.ifCond .ne 7, 3) := by decide +kernel
theorem dX7_part_44 : decode (mX7_part).2.1 44 = .ok (.aload_n 0, 1) := by decide +kernel
theorem dX7_part_45 : decode (mX7_part).2.1 45 = .ok (.invokevirtual 195, 3) := by decide +kernel
theorem dX7_part_48 : decode (mX7_part).2.1 48 = .ok (.aload_n 0, 1) := by decide +kernel
theorem dX7_part_49 : decode (mX7_part).2.1 49 = .ok (.getfield 181, 3) := by decide +kernel
theorem dX7_part_52 : decode (mX7_part).2.1 52 = .ok (.ifCond .ne 7, 3) := by decide +kernel
theorem dX7_part_55 : decode (mX7_part).2.1 55 = .ok (.aload_n 0, 1) := by decide +kernel
theorem dX7_part_56 : decode (mX7_part).2.1 56 = .ok (.invokevirtual 198, 3) := by decide +kernel
theorem dX7_part_59 : decode (mX7_part).2.1 59 = .ok (.iload_n 2, 1) := by decide +kernel
theorem dX7_part_60 : decode (mX7_part).2.1 60 = .ok (.ireturn, 1) := by decide +kernel
theorem dX7_read_0 : decode (mX7_read).2.1 0 = .ok (.aload_n 0, 1) := by decide +kernel
theorem dX7_read_1 : decode (mX7_read).2.1 1 = .ok (.sipush 160, 3) := by decide +kernel
theorem dX7_read_4 : decode (mX7_read).2.1 4 = .ok (.iload_n 1, 1) := by decide +kernel
theorem dX7_read_5 : decode (mX7_read).2.1 5 = .ok (.imul, 1) := by decide +kernel
theorem dX7_read_6 : decode (mX7_read).2.1 6 = .ok (.putfield 152, 3) := by decide +kernel
theorem dX7_read_9 : decode (mX7_read).2.1 9 = .ok (.aload_n 0, 1) := by decide +kernel
theorem dX7_read_10 : decode (mX7_read).2.1 10 = .ok (.aload_n 0, 1) := by decide +kernel
theorem dX7_read_11 : decode (mX7_read).2.1 11 = .ok (.getfield 17, 3) := by decide +kernel
theorem dX7_read_14 : decode (mX7_read).2.1 14 = .ok (.iload_n 1, 1) := by decide +kernel
theorem dX7_read_15 : decode (mX7_read).2.1 15 = .ok (.iaload, 1) := by decide +kernel
theorem dX7_read_16 : decode (mX7_read).2.1 16 = .ok (.putfield 149, 3) := by decide +kernel
theorem dX7_read_19 : decode (mX7_read).2.1 19 = .ok (.aload_n 0, 1) := by decide +kernel
theorem dX7_read_20 : decode (mX7_read).2.1 20 = .ok (.iconst 0, 1) := by decide +kernel
theorem dX7_read_21 : decode (mX7_read).2.1 21 = .ok (.putfield 155, 3) := by decide +kernel
theorem dX7_read_24 : decode (mX7_read).2.1 24 = .ok (.aload_n 0, 1) := by decide +kernel
theorem dX7_read_25 : decode (mX7_read).2.1 25 = .ok (.iconst 0, 1) := by decide +kernel
theorem dX7_read_26 : decode (mX7_read).2.1 26 = .ok (.putfield 192, 3) := by decide +kernel
theorem dX7_read_29 : decode (mX7_read).2.1 29 = .ok (.aload_n 0, 1) := by decide +kernel
theorem dX7_read_30 : decode (mX7_read).2.1 30 = .ok (.iconst 0, 1) := by decide +kernel
theorem dX7_read_31 : decode (mX7_read).2.1 31 = .ok (.putfield 181, 3) := by decide +kernel
theorem dX7_read_34 : decode (mX7_read).2.1 34 = .ok (.aload_n 0, 1) := by decide +kernel
theorem dX7_read_35 : decode (mX7_read).2.1 35 = .ok (.invokevirtual 198, 3) := by decide +kernel
theorem dX7_read_38 : decode (mX7_read).2.1 38 = .ok (.aload_n 0, 1) := by decide +kernel
theorem dX7_read_39 : decode (mX7_read).2.1 39 = .ok (.aload_n 0, 1) := by decide +kernel
theorem dX7_read_40 : decode (mX7_read).2.1 40 = .ok (.bipush 114, 2) := by decide +kernel
theorem dX7_read_42 : decode (mX7_read).2.1 42 = .ok (.bipush 97, 2) := by decide +kernel
theorem dX7_read_44 : decode (mX7_read).2.1 44 = .ok (.bipush 116, 2) := by decide +kernel
theorem dX7_read_46 : decode (mX7_read).2.1 46 = .ok (.bipush 101, 2) := by decide +kernel
theorem dX7_read_48 : decode (mX7_read).2.1 48 = .ok (.iconst 0, 1) := by decide +kernel
theorem dX7_read_49 : decode (mX7_read).2.1 49 = .ok (.iconst 0, 1) := by decide +kernel
theorem dX7_read_50 : decode (mX7_read).2.1 50 = .ok (.iconst 0, 1) := by decide +kernel
theorem dX7_read_51 : decode (mX7_read).2.1 51 = .ok (.iconst 0, 1) := by decide +kernel
theorem dX7_read_52 : decode (mX7_read).2.1 52 = .ok (.invokevirtual 201, 3) := by decide +kernel
theorem dX7_read_55 : decode (mX7_read).2.1 55 = .ok (.invokevirtual 255, 3) := by decide +kernel
theorem dX7_read_58 : decode (mX7_read).2.1 58 = .ok (.istore_n 3, 1) := by decide +kernel
theorem dX7_read_59 : decode (mX7_read).2.1 59 = .ok (.aload_n 0, 1) := by decide +kernel
theorem dX7_read_60 : decode (mX7_read).2.1 60 = .ok (.getfield 181, 3) := by decide +kernel
theorem dX7_read_63 : decode (mX7_read).2.1 63 = .ok (.ifCond .eq 7, 3) := by decide +kernel
theorem dX7_read_66 : decode (mX7_read).2.1 66 = .ok (.iconst 0, 1) := by decide +kernel
theorem dX7_read_67 : decode (mX7_read).2.1 67 = .ok (.goto 23, 3) := by decide +kernel
theorem dX7_read_70 : decode (mX7_read).2.1 70 = .ok (.aload_n 0, 1) := by decide +kernel
theorem dX7_read_71 : decode (mX7_read).2.1 71 = .ok (.aload_n 0, 1) := by decide +kernel
theorem dX7_read_72 : decode (mX7_read).2.1 72 = .ok (.bipush 110, 2) := by decide +kernel
theorem dX7_read_74 : decode (mX7_read).2.1 74 = .ok (.bipush 101, 2) := by decide +kernel
theorem dX7_read_76 : decode (mX7_read).2.1 76 = .ok (.bipush 101, 2) := by decide +kernel
theorem dX7_read_78 : decode (mX7_read).2.1 78 = .ok (.bipush 100, 2) := by decide +kernel
theorem dX7_read_80 : decode (mX7_read).2.1 80 = .ok (.iconst 0, 1) := by decide +kernel
theorem dX7_read_81 : decode (mX7_read).2.1 81 = .ok (.iconst 0, 1) := by decide +kernel
theorem dX7_read_82 : decode (mX7_read).2.1 82 = .ok (.iconst 0, 1) := by decide +kernel
theorem dX7_read_83 : decode (mX7_read).2.1 83 = .ok (.iconst 0, 1) := by decide +kernel
theorem dX7_read_84 : decode (mX7_read).2.1 84 = .ok (.invokevirtual 201, 3) := by decide +kernel
theorem dX7_read_87 : decode (mX7_read).2.1 87 = .ok (.invokevirtual 255, 3) := by decide +kernel
theorem dX7_read_90 : decode (mX7_read).2.1 90 = .ok (.istore 4, 2) := by decide +kernel
theorem dX7_read_92 : decode (mX7_read).2.1 92 = .ok (.aload_n 0, 1) := by decide +kernel
theorem dX7_read_93 : decode (mX7_read).2.1 93 = .ok (.getfield 181, 3) := by decide +kernel
theorem dX7_read_96 : decode (mX7_read).2.1 96 = .ok (.ifCond .eq 7, 3) := by decide +kernel
theorem dX7_read_99 : decode (mX7_read).2.1 99 = .ok (.iconst 0, 1) := by decide +kernel
theorem dX7_read_100 : decode (mX7_read).2.1 100 = .ok (.goto 24, 3) := by decide +kernel
theorem dX7_read_103 : decode (mX7_read).2.1 103 = .ok (.aload_n 0, 1) := by decide +kernel
theorem dX7_read_104 : decode (mX7_read).2.1 104 = .ok (.aload_n 0, 1) := by decide +kernel
theorem dX7_read_105 : decode (mX7_read).2.1 105 = .ok (.bipush 119, 2) := by decide +kernel
theorem dX7_read_107 : decode (mX7_read).2.1 107 = .ok (.bipush 111, 2) := by decide +kernel
theorem dX7_read_109 : decode (mX7_read).2.1 109 = .ok (.bipush 114, 2) := by decide +kernel
theorem dX7_read_111 : decode (mX7_read).2.1 111 = .ok (.bipush 116, 2) := by decide +kernel
theorem dX7_read_113 : decode (mX7_read).2.1 113 = .ok (.bipush 104, 2) := by decide +kernel
theorem dX7_read_115 : decode (mX7_read).2.1 115 = .ok (.iconst 0, 1) := by decide +kernel
theorem dX7_read_116 : decode (mX7_read).2.1 116 = .ok (.iconst 0, 1) := by decide +kernel
theorem dX7_read_117 : decode (mX7_read).2.1 117 = .ok (.iconst 0, 1) := by decide +kernel
theorem dX7_read_118 : decode (mX7_read).2.1 118 = .ok (.invokevirtual 201, 3) := by decide +kernel
theorem dX7_read_121 : decode (mX7_read).2.1 121 = .ok (.invokevirtual 255, 3) := by decide +kernel
theorem dX7_read_124 : decode (mX7_read).2.1 124 = .ok (.istore 5, 2) := by decide +kernel
theorem dX7_read_126 : decode (mX7_read).2.1 126 = .ok (.aload_n 0, 1) := by decide +kernel
theorem dX7_read_127 : decode (mX7_read).2.1 127 = .ok (.getfield 181, 3) := by decide +kernel
theorem dX7_read_130 : decode (mX7_read).2.1 130 = .ok (.ifCond .ne 14, 3) := by decide +kernel
theorem dX7_read_133 : decode (mX7_read).2.1 133 = .ok (.aload_n 0, 1) := by decide +kernel
theorem dX7_read_134 : decode (mX7_read).2.1 134 = .ok (.getfield 164, 3) := by decide +kernel
theorem dX7_read_137 : decode (mX7_read).2.1 137 = .ok (.ifCond .eq 7, 3) := by decide +kernel
theorem dX7_read_140 : decode (mX7_read).2.1 140 = .ok (.aload_n 0, 1) := by decide +kernel
theorem dX7_read_141 : decode (mX7_read).2.1 141 = .ok (.invokevirtual 195, 3) := by decide +kernel
theorem dX7_read_144 : decode (mX7_read).2.1 144 = .ok (.iload_n 2, 1) := by decide +kernel
theorem dX7_read_145 : decode (mX7_read).2.1 145 = .ok (.ifCond .ne 7, 3) := by decide +kernel
theorem dX7_read_148 : decode (mX7_read).2.1 148 = .ok (.iload_n 3, 1) := by decide +kernel
theorem dX7_read_149 : decode (mX7_read).2.1 149 = .ok (.goto 15, 3) := by decide +kernel
theorem dX7_read_152 : decode (mX7_read).2.1 152 = .ok (.iload_n 2, 1) := by decide +kernel
theorem dX7_read_153 : decode (mX7_read).2.1 153 = .ok (.iconst 1, 1) := by decide +kernel
theorem dX7_read_154 : decode (mX7_read).2.1 154 = .ok (.if_icmp .ne 8, 3) := by decide +kernel
theorem dX7_read_157 : decode (mX7_read).2.1 157 = .ok (.iload 4, 2) := by decide +kernel
theorem dX7_read_159 : decode (mX7_read).2.1 159 = .ok (.goto 5, 3) := by decide +kernel
theorem dX7_read_162 : decode (mX7_read).2.1 162 = .ok (.iload 5, 2) := by decide +kernel
theorem dX7_read_164 : decode (mX7_read).2.1 164 = .ok (.ireturn, 1) := by decide +kernel
theorem dX7_text_0 : decode (mX7_text).2.1 0 = .ok (.aload_n 0, 1) := by decide +kernel
theorem dX7_text_1 : decode (mX7_text).2.1 1 = .ok (.getfield 91, 3) := by decide +kernel
theorem dX7_text_4 : decode (mX7_text).2.1 4 = .ok (.bipush 6, 2) := by decide +kernel
theorem dX7_text_6 : decode (mX7_text).2.1 6 = .ok (.if_icmp .ne 6, 3) := by decide +kernel
theorem dX7_text_9 : decode (mX7_text).2.1 9 = .ok (.bipush (-4), 2) := by decide +kernel
theorem dX7_text_11 : decode (mX7_text).2.1 11 = .ok (.ireturn, 1) := by decide +kernel
theorem dX7_text_12 : decode (mX7_text).2.1 12 = .ok (.iconst 0, 1) := by decide +kernel
theorem dX7_text_13 : decode (mX7_text).2.1 13 = .ok (.istore_n 1, 1) := by decide +kernel
theorem dX7_text_14 : decode (mX7_text).2.1 14 = .ok (.iload_n 1, 1) := by decide +kernel
theorem dX7_text_15 : decode (mX7_text).2.1 15 = .ok (.aload_n 0, 1) := by decide +kernel
theorem dX7_text_16 : decode (mX7_text).2.1 16 = .ok (.getfield 146, 3) := by decide +kernel
theorem dX7_text_19 : decode (mX7_text).2.1 19 = .ok (.if_icmp .ge 30, 3) := by decide +kernel
theorem dX7_text_22 : decode (mX7_text).2.1 22 = .ok (.aload_n 0, 1) := by decide +kernel
theorem dX7_text_23 : decode (mX7_text).2.1 23 = .ok (.getfield 13, 3) := by decide +kernel
theorem dX7_text_26 : decode (mX7_text).2.1 26 = .ok (.sipush 160, 3) := by decide +kernel
theorem dX7_text_29 : decode (mX7_text).2.1 29 = .ok (.aload_n 0, 1) := by decide +kernel
theorem dX7_text_30 : decode (mX7_text).2.1 30 = .ok (.getfield 91, 3) := by decide +kernel
theorem dX7_text_33 : decode (mX7_text).2.1 33 = .ok (.imul, 1) := by decide +kernel
theorem dX7_text_34 : decode (mX7_text).2.1 34 = .ok (.iload_n 1, 1) := by decide +kernel
theorem dX7_text_35 : decode (mX7_text).2.1 35 = .ok (.iadd, 1) := by decide +kernel
theorem dX7_text_36 : decode (mX7_text).2.1 36 = .ok (.aload_n 0, 1) := by decide +kernel
theorem dX7_text_37 : decode (mX7_text).2.1 37 = .ok (.getfield 20, 3) := by decide +kernel
theorem dX7_text_40 : decode (mX7_text).2.1 40 = .ok (.iload_n 1, 1) := by decide +kernel
theorem dX7_text_41 : decode (mX7_text).2.1 41 = .ok (.iaload, 1) := by decide +kernel
theorem dX7_text_42 : decode (mX7_text).2.1 42 = .ok (.iastore, 1) := by decide +kernel
theorem dX7_text_43 : decode (mX7_text).2.1 43 = .ok (.iinc 1 1, 3) := by decide +kernel
theorem dX7_text_46 : decode (mX7_text).2.1 46 = .ok (.goto (-32), 3) := by decide +kernel
theorem dX7_text_49 : decode (mX7_text).2.1 49 = .ok (.aload_n 0, 1) := by decide +kernel
theorem dX7_text_50 : decode (mX7_text).2.1 50 = .ok (.getfield 17, 3) := by decide +kernel
theorem dX7_text_53 : decode (mX7_text).2.1 53 = .ok (.aload_n 0, 1) := by decide +kernel
theorem dX7_text_54 : decode (mX7_text).2.1 54 = .ok (.getfield 91, 3) := by decide +kernel
theorem dX7_text_57 : decode (mX7_text).2.1 57 = .ok (.aload_n 0, 1) := by decide +kernel
theorem dX7_text_58 : decode (mX7_text).2.1 58 = .ok (.getfield 146, 3) := by decide +kernel
theorem dX7_text_61 : decode (mX7_text).2.1 61 = .ok (.iastore, 1) := by decide +kernel
theorem dX7_text_62 : decode (mX7_text).2.1 62 = .ok (.aload_n 0, 1) := by decide +kernel
theorem dX7_text_63 : decode (mX7_text).2.1 63 = .ok (.iconst 0, 1) := by decide +kernel
theorem dX7_text_64 : decode (mX7_text).2.1 64 = .ok (.putfield 146, 3) := by decide +kernel
theorem dX7_text_67 : decode (mX7_text).2.1 67 = .ok (.aload_n 0, 1) := by decide +kernel
theorem dX7_text_68 : decode (mX7_text).2.1 68 = .ok (.aload_n 0, 1) := by decide +kernel
theorem dX7_text_69 : decode (mX7_text).2.1 69 = .ok (.getfield 91, 3) := by decide +kernel
theorem dX7_text_72 : decode (mX7_text).2.1 72 = .ok (.iconst 0, 1) := by decide +kernel
theorem dX7_text_73 : decode (mX7_text).2.1 73 = .ok (.invokevirtual 259, 3) := by decide +kernel
theorem dX7_text_76 : decode (mX7_text).2.1 76 = .ok (.istore_n 1, 1) := by decide +kernel
theorem dX7_text_77 : decode (mX7_text).2.1 77 = .ok (.aload_n 0, 1) := by decide +kernel
theorem dX7_text_78 : decode (mX7_text).2.1 78 = .ok (.getfield 181, 3) := by decide +kernel
theorem dX7_text_81 : decode (mX7_text).2.1 81 = .ok (.ifCond .eq 11, 3) := by decide +kernel
theorem dX7_text_84 : decode (mX7_text).2.1 84 = .ok (.bipush (-100), 2) := by decide +kernel
theorem dX7_text_86 : decode (mX7_text).2.1 86 = .ok (.aload_n 0, 1) := by decide +kernel
theorem dX7_text_87 : decode (mX7_text).2.1 87 = .ok (.getfield 185, 3) := by decide +kernel
theorem dX7_text_90 : decode (mX7_text).2.1 90 = .ok (.isub, 1) := by decide +kernel
theorem dX7_text_91 : decode (mX7_text).2.1 91 = .ok (.ireturn, 1) := by decide +kernel
theorem dX7_text_92 : decode (mX7_text).2.1 92 = .ok (.aload_n 0, 1) := by decide +kernel
theorem dX7_text_93 : decode (mX7_text).2.1 93 = .ok (.dup, 1) := by decide +kernel
theorem dX7_text_94 : decode (mX7_text).2.1 94 = .ok (.getfield 91, 3) := by decide +kernel
theorem dX7_text_97 : decode (mX7_text).2.1 97 = .ok (.iconst 1, 1) := by decide +kernel
theorem dX7_text_98 : decode (mX7_text).2.1 98 = .ok (.iadd, 1) := by decide +kernel
theorem dX7_text_99 : decode (mX7_text).2.1 99 = .ok (.putfield 91, 3) := by decide +kernel
theorem dX7_text_102 : decode (mX7_text).2.1 102 = .ok (.aload_n 0, 1) := by decide +kernel
theorem dX7_text_103 : decode (mX7_text).2.1 103 = .ok (.getfield 91, 3) := by decide +kernel
theorem dX7_text_106 : decode (mX7_text).2.1 106 = .ok (.iconst 1, 1) := by decide +kernel
theorem dX7_text_107 : decode (mX7_text).2.1 107 = .ok (.isub, 1) := by decide +kernel
theorem dX7_text_108 : decode (mX7_text).2.1 108 = .ok (.ireturn, 1) := by decide +kernel
theorem dX7_force_0 : decode (mX7_force).2.1 0 = .ok (.iload_n 1, 1) := by decide +kernel
theorem dX7_force_1 : decode (mX7_force).2.1 1 = .ok (.i2l, 1) := by decide +kernel
theorem dX7_force_2 : decode (mX7_force).2.1 2 = .ok (.lconst 0, 1) := by decide +kernel
theorem dX7_force_3 : decode (mX7_force).2.1 3 = .ok (.aload_n 0, 1) := by decide +kernel
theorem dX7_force_4 : decode (mX7_force).2.1 4 = .ok (.getfield 91, 3) := by decide +kernel
theorem dX7_force_7 : decode (mX7_force).2.1 7 = .ok (.iconst 1, 1) := by decide +kernel
theorem dX7_force_8 : decode (mX7_force).2.1 8 = .ok (.isub, 1) := by decide +kernel
theorem dX7_force_9 : decode (mX7_force).2.1 9 = .ok (.i2l, 1) := by decide +kernel
theorem dX7_force_10 : decode (mX7_force).2.1 10 = .ok (.invokestatic 96, 3) := by decide +kernel
theorem dX7_force_13 : decode (mX7_force).2.1 13 = .ok (.ifCond .ne 6, 3) := by decide +kernel
theorem dX7_force_16 : decode (mX7_force).2.1 16 = .ok (.bipush (-2), 2) := by decide +kernel
theorem dX7_force_18 : decode (mX7_force).2.1 18 = .ok (.ireturn, 1) := by decide +kernel
theorem dX7_force_19 : decode (mX7_force).2.1 19 = .ok (.aload_n 0, 1) := by decide +kernel
theorem dX7_force_20 : decode (mX7_force).2.1 20 = .ok (.getfield 262, 3) := by decide +kernel
theorem dX7_force_23 : decode (mX7_force).2.1 23 = .ok (.istore_n 2, 1) := by decide +kernel
theorem dX7_force_24 : decode (mX7_force).2.1 24 = .ok (.aload_n 0, 1) := by decide +kernel
theorem dX7_force_25 : decode (mX7_force).2.1 25 = .ok (.iload_n 1, 1) := by decide +kernel
theorem dX7_force_26 : decode (mX7_force).2.1 26 = .ok (.putfield 262, 3) := by decide +kernel
theorem dX7_force_29 : decode (mX7_force).2.1 29 = .ok (.iload_n 2, 1) := by decide +kernel
theorem dX7_force_30 : decode (mX7_force).2.1 30 = .ok (.ireturn, 1) := by decide +kernel
theorem dX7_says_0 : decode (mX7_says).2.1 0 = .ok (.aload_n 0, 1) := by decide +kernel
theorem dX7_says_1 : decode (mX7_says).2.1 1 = .ok (.aload_n 0, 1) := by decide +kernel
theorem dX7_says_2 : decode (mX7_says).2.1 2 = .ok (.getfield 23, 3) := by decide +kernel
theorem dX7_says_5 : decode (mX7_says).2.1 5 = .ok (.iload_n 2, 1) := by decide +kernel
theorem dX7_says_6 : decode (mX7_says).2.1 6 = .ok (.iaload, 1) := by decide +kernel
theorem dX7_says_7 : decode (mX7_says).2.1 7 = .ok (.putfield 205, 3) := by decide +kernel
theorem dX7_says_10 : decode (mX7_says).2.1 10 = .ok (.aload_n 0, 1) := by decide +kernel
theorem dX7_says_11 : decode (mX7_says).2.1 11 = .ok (.aload_n 0, 1) := by decide +kernel
theorem dX7_says_12 : decode (mX7_says).2.1 12 = .ok (.getfield 35, 3) := by decide +kernel
theorem dX7_says_15 : decode (mX7_says).2.1 15 = .ok (.iload_n 3, 1) := by decide +kernel
theorem dX7_says_16 : decode (mX7_says).2.1 16 = .ok (.iaload, 1) := by decide +kernel
theorem dX7_says_17 : decode (mX7_says).2.1 17 = .ok (.putfield 208, 3) := by decide +kernel
theorem dX7_says_20 : decode (mX7_says).2.1 20 = .ok (.aload_n 0, 1) := by decide +kernel
theorem dX7_says_21 : decode (mX7_says).2.1 21 = .ok (.iload_n 2, 1) := by decide +kernel
theorem dX7_says_22 : decode (mX7_says).2.1 22 = .ok (.putfield 211, 3) := by decide +kernel
theorem dX7_says_25 : decode (mX7_says).2.1 25 = .ok (.aload_n 0, 1) := by decide +kernel
theorem dX7_says_26 : decode (mX7_says).2.1 26 = .ok (.aload_n 0, 1) := by decide +kernel
theorem dX7_says_27 : decode (mX7_says).2.1 27 = .ok (.invokevirtual 137, 3) := by decide +kernel
theorem dX7_says_30 : decode (mX7_says).2.1 30 = .ok (.putfield 214, 3) := by decide +kernel
theorem dX7_says_33 : decode (mX7_says).2.1 33 = .ok (.aload_n 0, 1) := by decide +kernel
theorem dX7_says_34 : decode (mX7_says).2.1 34 = .ok (.aload_n 0, 1) := by decide +kernel
theorem dX7_says_35 : decode (mX7_says).2.1 35 = .ok (.getfield 265, 3) := by decide +kernel
theorem dX7_says_38 : decode (mX7_says).2.1 38 = .ok (.putfield 217, 3) := by decide +kernel
theorem dX7_says_41 : decode (mX7_says).2.1 41 = .ok (.aload_n 0, 1) := by decide +kernel
theorem dX7_says_42 : decode (mX7_says).2.1 42 = .ok (.aload_n 0, 1) := by decide +kernel
theorem dX7_says_43 : decode (mX7_says).2.1 43 = .ok (.getfield 26, 3) := by decide +kernel
theorem dX7_says_46 : decode (mX7_says).2.1 46 = .ok (.iload_n 2, 1) := by decide +kernel
theorem dX7_says_47 : decode (mX7_says).2.1 47 = .ok (.iaload, 1) := by decide +kernel
theorem dX7_says_48 : decode (mX7_says).2.1 48 = .ok (.putfield 220, 3) := by decide +kernel
theorem dX7_says_51 : decode (mX7_says).2.1 51 = .ok (.aload_n 0, 1) := by decide +kernel
theorem dX7_says_52 : decode (mX7_says).2.1 52 = .ok (.aload_n 0, 1) := by decide +kernel
theorem dX7_says_53 : decode (mX7_says).2.1 53 = .ok (.getfield 262, 3) := by decide +kernel
theorem dX7_says_56 : decode (mX7_says).2.1 56 = .ok (.iload_n 1, 1) := by decide +kernel
theorem dX7_says_57 : decode (mX7_says).2.1 57 = .ok (.invokevirtual 259, 3) := by decide +kernel
theorem dX7_says_60 : decode (mX7_says).2.1 60 = .ok (.ireturn, 1) := by decide +kernel
theorem dX7_needs_0 : decode (mX7_needs).2.1 0 = .ok (.aload_n 0, 1) := by decide +kernel
theorem dX7_needs_1 : decode (mX7_needs).2.1 1 = .ok (.iconst 1, 1) := by decide +kernel
theorem dX7_needs_2 : decode (mX7_needs).2.1 2 = .ok (.iload_n 1, 1) := by decide +kernel
theorem dX7_needs_3 : decode (mX7_needs).2.1 3 = .ok (.iload_n 2, 1) := by decide +kernel
theorem dX7_needs_4 : decode (mX7_needs).2.1 4 = .ok (.invokevirtual 268, 3) := by decide +kernel
theorem dX7_needs_7 : decode (mX7_needs).2.1 7 = .ok (.iconst 1, 1) := by decide +kernel
theorem dX7_needs_8 : decode (mX7_needs).2.1 8 = .ok (.sipush 999, 3) := by decide +kernel
theorem dX7_needs_11 : decode (mX7_needs).2.1 11 = .ok (.invokestatic 272, 3) := by decide +kernel
theorem dX7_needs_14 : decode (mX7_needs).2.1 14 = .ok (.ireturn, 1) := by decide +kernel
theorem dX7_does_0 : decode (mX7_does).2.1 0 = .ok (.aload_n 0, 1) := by decide +kernel
theorem dX7_does_1 : decode (mX7_does).2.1 1 = .ok (.iload_n 1, 1) := by decide +kernel
theorem dX7_does_2 : decode (mX7_does).2.1 2 = .ok (.invokevirtual 275, 3) := by decide +kernel
theorem dX7_does_5 : decode (mX7_does).2.1 5 = .ok (.istore_n 2, 1) := by decide +kernel
theorem dX7_does_6 : decode (mX7_does).2.1 6 = .ok (.aload_n 0, 1) := by decide +kernel
theorem dX7_does_7 : decode (mX7_does).2.1 7 = .ok (.getfield 29, 3) := by decide +kernel
theorem dX7_does_10 : decode (mX7_does).2.1 10 = .ok (.iload_n 1, 1) := by decide +kernel
theorem dX7_does_11 : decode (mX7_does).2.1 11 = .ok (.iaload, 1) := by decide +kernel
theorem dX7_does_12 : decode (mX7_does).2.1 12 = .ok (.istore_n 3, 1) := by decide +kernel
theorem dX7_does_13 : decode (mX7_does).2.1 13 = .ok (.aload_n 0, 1) := by decide +kernel
theorem dX7_does_14 : decode (mX7_does).2.1 14 = .ok (.iconst 0, 1) := by decide +kernel
theorem dX7_does_15 : decode (mX7_does).2.1 15 = .ok (.iload_n 2, 1) := by decide +kernel
theorem dX7_does_16 : decode (mX7_does).2.1 16 = .ok (.iload_n 1, 1) := by decide +kernel
theorem dX7_does_17 : decode (mX7_does).2.1 17 = .ok (.invokevirtual 268, 3) := by decide +kernel
theorem dX7_does_20 : decode (mX7_does).2.1 20 = .ok (.iconst 0, 1) := by decide +kernel
theorem dX7_does_21 : decode (mX7_does).2.1 21 = .ok (.sipush 999, 3) := by decide +kernel
theorem dX7_does_24 : decode (mX7_does).2.1 24 = .ok (.invokestatic 272, 3) := by decide +kernel
theorem dX7_does_27 : decode (mX7_does).2.1 27 = .ok (.istore 4, 2) := by decide +kernel
theorem dX7_does_29 : decode (mX7_does).2.1 29 = .ok (.iload 4, 2) := by decide +kernel
theorem dX7_does_31 : decode (mX7_does).2.1 31 = .ok (.istore 5, 2) := by decide +kernel
theorem dX7_does_33 : decode (mX7_does).2.1 33 = .ok (.iload_n 3, 1) := by decide +kernel
theorem dX7_does_34 : decode (mX7_does).2.1 34 = .ok (.iconst 2, 1) := by decide +kernel
theorem dX7_does_35 : decode (mX7_does).2.1 35 = .ok (.if_icmp .eq 8, 3) := by decide +kernel
theorem dX7_does_38 : decode (mX7_does).2.1 38 = .ok (.iload_n 3, 1) := by decide +kernel
theorem dX7_does_39 : decode (mX7_does).2.1 39 = .ok (.iconst 4, 1) := by decide +kernel
theorem dX7_does_40 : decode (mX7_does).2.1 40 = .ok (.if_icmp .ne 54, 3) := by decide +kernel
theorem dX7_does_43 : decode (mX7_does).2.1 43 = .ok (.aload_n 0, 1) := by decide +kernel
theorem dX7_does_44 : decode (mX7_does).2.1 44 = .ok (.getfield 23, 3) := by decide +kernel
theorem dX7_does_47 : decode (mX7_does).2.1 47 = .ok (.iload_n 2, 1) := by decide +kernel
theorem dX7_does_48 : decode (mX7_does).2.1 48 = .ok (.iaload, 1) := by decide +kernel
theorem dX7_does_49 : decode (mX7_does).2.1 49 = .ok (.aload_n 0, 1) := by decide +kernel
theorem dX7_does_50 : decode (mX7_does).2.1 50 = .ok (.getfield 32, 3) := by decide +kernel
theorem dX7_does_53 : decode (mX7_does).2.1 53 = .ok (.iload_n 1, 1) := by decide +kernel
theorem dX7_does_54 : decode (mX7_does).2.1 54 = .ok (.iaload, 1) := by decide +kernel
theorem dX7_does_55 : decode (mX7_does).2.1 55 = .ok (.iconst 4, 1) := by decide +kernel
theorem dX7_does_56 : decode (mX7_does).2.1 56 = .ok (.irem, 1) := by decide +kernel
theorem dX7_does_57 : decode (mX7_does).2.1 57 = .ok (.if_icmp .ne 16, 3) := by decide +kernel
theorem dX7_does_60 : decode (mX7_does).2.1 60 = .ok (.aload_n 0, 1) := by decide +kernel
theorem dX7_does_61 : decode (mX7_does).2.1 61 = .ok (.getfield 265, 3) := by decide +kernel
theorem dX7_does_64 : decode (mX7_does).2.1 64 = .ok (.iconst 2, 1) := by decide +kernel
theorem dX7_does_65 : decode (mX7_does).2.1 65 = .ok (.irem, 1) := by decide +kernel
theorem dX7_does_66 : decode (mX7_does).2.1 66 = .ok (.iconst 1, 1) := by decide +kernel
theorem dX7_does_67 : decode (mX7_does).2.1 67 = .ok (.if_icmp .ne 6, 3) := by decide +kernel
theorem dX7_does_70 : decode (mX7_does).2.1 70 = .ok (.iconst 0, 1) := by decide +kernel
theorem dX7_does_71 : decode (mX7_does).2.1 71 = .ok (.istore 5, 2) := by decide +kernel
theorem dX7_does_73 : decode (mX7_does).2.1 73 = .ok (.iload_n 3, 1) := by decide +kernel
theorem dX7_does_74 : decode (mX7_does).2.1 74 = .ok (.iconst 4, 1) := by decide +kernel
theorem dX7_does_75 : decode (mX7_does).2.1 75 = .ok (.if_icmp .ne 85, 3) := by decide +kernel
theorem dX7_does_78 : decode (mX7_does).2.1 78 = .ok (.iload 5, 2) := by decide +kernel
theorem dX7_does_80 : decode (mX7_does).2.1 80 = .ok (.iconst 3, 1) := by decide +kernel
theorem dX7_does_81 : decode (mX7_does).2.1 81 = .ok (.aload_n 0, 1) := by decide +kernel
theorem dX7_does_82 : decode (mX7_does).2.1 82 = .ok (.getfield 23, 3) := by decide +kernel
theorem dX7_does_85 : decode (mX7_does).2.1 85 = .ok (.iload_n 2, 1) := by decide +kernel
theorem dX7_does_86 : decode (mX7_does).2.1 86 = .ok (.iaload, 1) := by decide +kernel
theorem dX7_does_87 : decode (mX7_does).2.1 87 = .ok (.imul, 1) := by decide +kernel
theorem dX7_does_88 : decode (mX7_does).2.1 88 = .ok (.isub, 1) := by decide +kernel
theorem dX7_does_89 : decode (mX7_does).2.1 89 = .ok (.istore 5, 2) := by decide +kernel
theorem dX7_does_91 : decode (mX7_does).2.1 91 = .ok (.goto 69, 3) := by decide +kernel
theorem dX7_does_94 : decode (mX7_does).2.1 94 = .ok (.iload_n 3, 1) := by decide +kernel
theorem dX7_does_95 : decode (mX7_does).2.1 95 = .ok (.ifCond .eq 65, 3) := by decide +kernel
theorem dX7_does_98 : decode (mX7_does).2.1 98 = .ok (.iload 4, 2) := by decide +kernel
theorem dX7_does_100 : decode (mX7_does).2.1 100 = .ok (.iconst 2, 1) := by decide +kernel
theorem dX7_does_101 : decode (mX7_does).2.1 101 = .ok (.idiv, 1) := by decide +kernel
theorem dX7_does_102 : decode (mX7_does).2.1 102 = .ok (.bipush 10, 2) := by decide +kernel
theorem dX7_does_104 : decode (mX7_does).2.1 104 = .ok (.iadd, 1) := by decide +kernel
theorem dX7_does_105 : decode (mX7_does).2.1 105 = .ok (.istore 5, 2) := by decide +kernel
theorem dX7_does_107 : decode (mX7_does).2.1 107 = .ok (.iload_n 3, 1) := by decide +kernel
theorem dX7_does_108 : decode (mX7_does).2.1 108 = .ok (.iconst 3, 1) := by decide +kernel
theorem dX7_does_109 : decode (mX7_does).2.1 109 = .ok (.if_icmp .ne 25, 3) := by decide +kernel
theorem dX7_does_112 : decode (mX7_does).2.1 112 = .ok (.aload_n 0, 1) := by decide +kernel
theorem dX7_does_113 : decode (mX7_does).2.1 113 = .ok (.getfield 265, 3) := by decide +kernel
theorem dX7_does_116 : decode (mX7_does).2.1 116 = .ok (.aload_n 0, 1) := by decide +kernel
theorem dX7_does_117 : decode (mX7_does).2.1 117 = .ok (.getfield 32, 3) := by decide +kernel
theorem dX7_does_120 : decode (mX7_does).2.1 120 = .ok (.iload_n 1, 1) := by decide +kernel
theorem dX7_does_121 : decode (mX7_does).2.1 121 = .ok (.iaload, 1) := by decide +kernel
theorem dX7_does_122 : decode (mX7_does).2.1 122 = .ok (.iconst 2, 1) := by decide +kernel
theorem dX7_does_123 : decode (mX7_does).2.1 123 = .ok (.iadd, 1) := by decide +kernel
theorem dX7_does_124 : decode (mX7_does).2.1 124 = .ok (.irem, 1) := by decide +kernel
theorem dX7_does_125 : decode (mX7_does).2.1 125 = .ok (.ifCond .ne 9, 3) := by decide +kernel
theorem dX7_does_128 : decode (mX7_does).2.1 128 = .ok (.iload 5, 2) := by decide +kernel
theorem dX7_does_130 : decode (mX7_does).2.1 130 = .ok (.iconst 2, 1) := by decide +kernel
theorem dX7_does_131 : decode (mX7_does).2.1 131 = .ok (.imul, 1) := by decide +kernel
theorem dX7_does_132 : decode (mX7_does).2.1 132 = .ok (.istore 5, 2) := by decide +kernel
theorem dX7_does_134 : decode (mX7_does).2.1 134 = .ok (.iload_n 3, 1) := by decide +kernel
theorem dX7_does_135 : decode (mX7_does).2.1 135 = .ok (.iconst 5, 1) := by decide +kernel
theorem dX7_does_136 : decode (mX7_does).2.1 136 = .ok (.if_icmp .ne 24, 3) := by decide +kernel
theorem dX7_does_139 : decode (mX7_does).2.1 139 = .ok (.aload_n 0, 1) := by decide +kernel
theorem dX7_does_140 : decode (mX7_does).2.1 140 = .ok (.getfield 23, 3) := by decide +kernel
theorem dX7_does_143 : decode (mX7_does).2.1 143 = .ok (.iload_n 2, 1) := by decide +kernel
theorem dX7_does_144 : decode (mX7_does).2.1 144 = .ok (.iaload, 1) := by decide +kernel
theorem dX7_does_145 : decode (mX7_does).2.1 145 = .ok (.iconst 3, 1) := by decide +kernel
theorem dX7_does_146 : decode (mX7_does).2.1 146 = .ok (.if_icmp .ne 14, 3) := by decide +kernel
theorem dX7_does_149 : decode (mX7_does).2.1 149 = .ok (.iload 5, 2) := by decide +kernel
theorem dX7_does_151 : decode (mX7_does).2.1 151 = .ok (.aload_n 0, 1) := by decide +kernel
theorem dX7_does_152 : decode (mX7_does).2.1 152 = .ok (.getfield 32, 3) := by decide +kernel
theorem dX7_does_155 : decode (mX7_does).2.1 155 = .ok (.iload_n 1, 1) := by decide +kernel
theorem dX7_does_156 : decode (mX7_does).2.1 156 = .ok (.iaload, 1) := by decide +kernel
theorem dX7_does_157 : decode (mX7_does).2.1 157 = .ok (.iadd, 1) := by decide +kernel
theorem dX7_does_158 : decode (mX7_does).2.1 158 = .ok (.istore 5, 2) := by decide +kernel
theorem dX7_does_160 : decode (mX7_does).2.1 160 = .ok (.iload 5, 2) := by decide +kernel
theorem dX7_does_162 : decode (mX7_does).2.1 162 = .ok (.ifCond .ge 7, 3) := by decide +kernel
theorem dX7_does_165 : decode (mX7_does).2.1 165 = .ok (.iconst 0, 1) := by decide +kernel
theorem dX7_does_166 : decode (mX7_does).2.1 166 = .ok (.goto 5, 3) := by decide +kernel
theorem dX7_does_169 : decode (mX7_does).2.1 169 = .ok (.iload 5, 2) := by decide +kernel
theorem dX7_does_171 : decode (mX7_does).2.1 171 = .ok (.ireturn, 1) := by decide +kernel
theorem dX7_costs_0 : decode (mX7_costs).2.1 0 = .ok (.aload_n 0, 1) := by decide +kernel
theorem dX7_costs_1 : decode (mX7_costs).2.1 1 = .ok (.getfield 29, 3) := by decide +kernel
theorem dX7_costs_4 : decode (mX7_costs).2.1 4 = .ok (.iload_n 1, 1) := by decide +kernel
theorem dX7_costs_5 : decode (mX7_costs).2.1 5 = .ok (.iaload, 1) := by decide +kernel
theorem dX7_costs_6 : decode (mX7_costs).2.1 6 = .ok (.istore_n 2, 1) := by decide +kernel
theorem dX7_costs_7 : decode (mX7_costs).2.1 7 = .ok (.iload_n 2, 1) := by decide +kernel
theorem dX7_costs_8 : decode (mX7_costs).2.1 8 = .ok (.ifCond .eq 8, 3) := by decide +kernel
theorem dX7_costs_11 : decode (mX7_costs).2.1 11 = .ok (.iload_n 2, 1) := by decide +kernel
theorem dX7_costs_12 : decode (mX7_costs).2.1 12 = .ok (.iconst 2, 1) := by decide +kernel
theorem dX7_costs_13 : decode (mX7_costs).2.1 13 = .ok (.if_icmp .ne 5, 3) := by decide +kernel
theorem dX7_costs_16 : decode (mX7_costs).2.1 16 = .ok (.iconst 0, 1) := by decide +kernel
theorem dX7_costs_17 : decode (mX7_costs).2.1 17 = .ok (.ireturn, 1) := by decide +kernel
theorem dX7_costs_18 : decode (mX7_costs).2.1 18 = .ok (.iload_n 2, 1) := by decide +kernel
theorem dX7_costs_19 : decode (mX7_costs).2.1 19 = .ok (.iconst 4, 1) := by decide +kernel
theorem dX7_costs_20 : decode (mX7_costs).2.1 20 = .ok (.if_icmp .ne 5, 3) := by decide +kernel
theorem dX7_costs_23 : decode (mX7_costs).2.1 23 = .ok (.iconst 1, 1) := by decide +kernel
theorem dX7_costs_24 : decode (mX7_costs).2.1 24 = .ok (.ireturn, 1) := by decide +kernel
theorem dX7_costs_25 : decode (mX7_costs).2.1 25 = .ok (.iload_n 2, 1) := by decide +kernel
theorem dX7_costs_26 : decode (mX7_costs).2.1 26 = .ok (.iconst 1, 1) := by decide +kernel
theorem dX7_costs_27 : decode (mX7_costs).2.1 27 = .ok (.if_icmp .ne 12, 3) := by decide +kernel
theorem dX7_costs_30 : decode (mX7_costs).2.1 30 = .ok (.aload_n 0, 1) := by decide +kernel
theorem dX7_costs_31 : decode (mX7_costs).2.1 31 = .ok (.getfield 32, 3) := by decide +kernel
theorem dX7_costs_34 : decode (mX7_costs).2.1 34 = .ok (.iload_n 1, 1) := by decide +kernel
theorem dX7_costs_35 : decode (mX7_costs).2.1 35 = .ok (.iaload, 1) := by decide +kernel
theorem dX7_costs_36 : decode (mX7_costs).2.1 36 = .ok (.goto 30, 3) := by decide +kernel
theorem dX7_costs_39 : decode (mX7_costs).2.1 39 = .ok (.iload_n 2, 1) := by decide +kernel
theorem dX7_costs_40 : decode (mX7_costs).2.1 40 = .ok (.iconst 3, 1) := by decide +kernel
theorem dX7_costs_41 : decode (mX7_costs).2.1 41 = .ok (.if_icmp .ne 16, 3) := by decide +kernel
theorem dX7_costs_44 : decode (mX7_costs).2.1 44 = .ok (.iconst 2, 1) := by decide +kernel
theorem dX7_costs_45 : decode (mX7_costs).2.1 45 = .ok (.aload_n 0, 1) := by decide +kernel
theorem dX7_costs_46 : decode (mX7_costs).2.1 46 = .ok (.getfield 32, 3) := by decide +kernel
theorem dX7_costs_49 : decode (mX7_costs).2.1 49 = .ok (.iload_n 1, 1) := by decide +kernel
theorem dX7_costs_50 : decode (mX7_costs).2.1 50 = .ok (.iaload, 1) := by decide +kernel
theorem dX7_costs_51 : decode (mX7_costs).2.1 51 = .ok (.imul, 1) := by decide +kernel
theorem dX7_costs_52 : decode (mX7_costs).2.1 52 = .ok (.iconst 5, 1) := by decide +kernel
theorem dX7_costs_53 : decode (mX7_costs).2.1 53 = .ok (.iadd, 1) := by decide +kernel
theorem dX7_costs_54 : decode (mX7_costs).2.1 54 = .ok (.goto 12, 3) := by decide +kernel
theorem dX7_costs_57 : decode (mX7_costs).2.1 57 = .ok (.aload_n 0, 1) := by decide +kernel
theorem dX7_costs_58 : decode (mX7_costs).2.1 58 = .ok (.getfield 32, 3) := by decide +kernel
theorem dX7_costs_61 : decode (mX7_costs).2.1 61 = .ok (.iload_n 1, 1) := by decide +kernel
theorem dX7_costs_62 : decode (mX7_costs).2.1 62 = .ok (.iaload, 1) := by decide +kernel
theorem dX7_costs_63 : decode (mX7_costs).2.1 63 = .ok (.bipush 10, 2) := by decide +kernel
theorem dX7_costs_65 : decode (mX7_costs).2.1 65 = .ok (.isub, 1) := by decide +kernel
theorem dX7_costs_66 : decode (mX7_costs).2.1 66 = .ok (.istore_n 3, 1) := by decide +kernel
theorem dX7_costs_67 : decode (mX7_costs).2.1 67 = .ok (.iload_n 3, 1) := by decide +kernel
theorem dX7_costs_68 : decode (mX7_costs).2.1 68 = .ok (.ifCond .ge 7, 3) := by decide +kernel
theorem dX7_costs_71 : decode (mX7_costs).2.1 71 = .ok (.iconst 0, 1) := by decide +kernel
theorem dX7_costs_72 : decode (mX7_costs).2.1 72 = .ok (.goto 4, 3) := by decide +kernel
theorem dX7_costs_75 : decode (mX7_costs).2.1 75 = .ok (.iload_n 3, 1) := by decide +kernel
theorem dX7_costs_76 : decode (mX7_costs).2.1 76 = .ok (.ireturn, 1) := by decide +kernel
theorem dX7_turn_0 : decode (mX7_turn).2.1 0 = .ok (.aload_n 0, 1) := by decide +kernel
theorem dX7_turn_1 : decode (mX7_turn).2.1 1 = .ok (.getfield 41, 3) := by decide +kernel
theorem dX7_turn_4 : decode (mX7_turn).2.1 4 = .ok (.iload_n 1, 1) := by decide +kernel
theorem dX7_turn_5 : decode (mX7_turn).2.1 5 = .ok (.dup2, 1) := by decide +kernel
theorem dX7_turn_6 : decode (mX7_turn).2.1 6 = .ok (.iaload, 1) := by decide +kernel
theorem dX7_turn_7 : decode (mX7_turn).2.1 7 = .ok (.aload_n 0, 1) := by decide +kernel
theorem dX7_turn_8 : decode (mX7_turn).2.1 8 = .ok (.iload_n 1, 1) := by decide +kernel
theorem dX7_turn_9 : decode (mX7_turn).2.1 9 = .ok (.invokevirtual 141, 3) := by decide +kernel
theorem dX7_turn_12 : decode (mX7_turn).2.1 12 = .ok (.iadd, 1) := by decide +kernel
theorem dX7_turn_13 : decode (mX7_turn).2.1 13 = .ok (.iastore, 1) := by decide +kernel
theorem dX7_turn_14 : decode (mX7_turn).2.1 14 = .ok (.iconst 1, 1) := by decide +kernel
theorem dX7_turn_15 : decode (mX7_turn).2.1 15 = .ok (.istore_n 2, 1) := by decide +kernel
theorem dX7_turn_16 : decode (mX7_turn).2.1 16 = .ok (.iload_n 2, 1) := by decide +kernel
theorem dX7_turn_17 : decode (mX7_turn).2.1 17 = .ok (.ifCond .eq 89, 3) := by decide +kernel
theorem dX7_turn_20 : decode (mX7_turn).2.1 20 = .ok (.aload_n 0, 1) := by decide +kernel
theorem dX7_turn_21 : decode (mX7_turn).2.1 21 = .ok (.invokevirtual 137, 3) := by decide +kernel
theorem dX7_turn_24 : decode (mX7_turn).2.1 24 = .ok (.ifCond .le 82, 3) := by decide +kernel
theorem dX7_turn_27 : decode (mX7_turn).2.1 27 = .ok (.aload_n 0, 1) := by decide +kernel
theorem dX7_turn_28 : decode (mX7_turn).2.1 28 = .ok (.iload_n 1, 1) := by decide +kernel
theorem dX7_turn_29 : decode (mX7_turn).2.1 29 = .ok (.invokevirtual 275, 3) := by decide +kernel
theorem dX7_turn_32 : decode (mX7_turn).2.1 32 = .ok (.istore_n 3, 1) := by decide +kernel
theorem dX7_turn_33 : decode (mX7_turn).2.1 33 = .ok (.aload_n 0, 1) := by decide +kernel
theorem dX7_turn_34 : decode (mX7_turn).2.1 34 = .ok (.iload_n 3, 1) := by decide +kernel
theorem dX7_turn_35 : decode (mX7_turn).2.1 35 = .ok (.iload_n 1, 1) := by decide +kernel
theorem dX7_turn_36 : decode (mX7_turn).2.1 36 = .ok (.invokevirtual 110, 3) := by decide +kernel
theorem dX7_turn_39 : decode (mX7_turn).2.1 39 = .ok (.istore 4, 2) := by decide +kernel
theorem dX7_turn_41 : decode (mX7_turn).2.1 41 = .ok (.aload_n 0, 1) := by decide +kernel
theorem dX7_turn_42 : decode (mX7_turn).2.1 42 = .ok (.getfield 41, 3) := by decide +kernel
theorem dX7_turn_45 : decode (mX7_turn).2.1 45 = .ok (.iload_n 1, 1) := by decide +kernel
theorem dX7_turn_46 : decode (mX7_turn).2.1 46 = .ok (.iaload, 1) := by decide +kernel
theorem dX7_turn_47 : decode (mX7_turn).2.1 47 = .ok (.iload 4, 2) := by decide +kernel
theorem dX7_turn_49 : decode (mX7_turn).2.1 49 = .ok (.if_icmp .lt 7, 3) := by decide +kernel
theorem dX7_turn_52 : decode (mX7_turn).2.1 52 = .ok (.iconst 1, 1) := by decide +kernel
theorem dX7_turn_53 : decode (mX7_turn).2.1 53 = .ok (.goto 4, 3) := by decide +kernel
theorem dX7_turn_56 : decode (mX7_turn).2.1 56 = .ok (.iconst 0, 1) := by decide +kernel
theorem dX7_turn_57 : decode (mX7_turn).2.1 57 = .ok (.istore_n 2, 1) := by decide +kernel
theorem dX7_turn_58 : decode (mX7_turn).2.1 58 = .ok (.iload_n 2, 1) := by decide +kernel
theorem dX7_turn_59 : decode (mX7_turn).2.1 59 = .ok (.ifCond .eq 44, 3) := by decide +kernel
theorem dX7_turn_62 : decode (mX7_turn).2.1 62 = .ok (.aload_n 0, 1) := by decide +kernel
theorem dX7_turn_63 : decode (mX7_turn).2.1 63 = .ok (.getfield 26, 3) := by decide +kernel
theorem dX7_turn_66 : decode (mX7_turn).2.1 66 = .ok (.iload_n 3, 1) := by decide +kernel
theorem dX7_turn_67 : decode (mX7_turn).2.1 67 = .ok (.iconst 1, 1) := by decide +kernel
theorem dX7_turn_68 : decode (mX7_turn).2.1 68 = .ok (.iastore, 1) := by decide +kernel
theorem dX7_turn_69 : decode (mX7_turn).2.1 69 = .ok (.aload_n 0, 1) := by decide +kernel
theorem dX7_turn_70 : decode (mX7_turn).2.1 70 = .ok (.getfield 41, 3) := by decide +kernel
theorem dX7_turn_73 : decode (mX7_turn).2.1 73 = .ok (.iload_n 1, 1) := by decide +kernel
theorem dX7_turn_74 : decode (mX7_turn).2.1 74 = .ok (.dup2, 1) := by decide +kernel
theorem dX7_turn_75 : decode (mX7_turn).2.1 75 = .ok (.iaload, 1) := by decide +kernel
theorem dX7_turn_76 : decode (mX7_turn).2.1 76 = .ok (.iload 4, 2) := by decide +kernel
theorem dX7_turn_78 : decode (mX7_turn).2.1 78 = .ok (.isub, 1) := by decide +kernel
theorem dX7_turn_79 : decode (mX7_turn).2.1 79 = .ok (.iastore, 1) := by decide +kernel
theorem dX7_turn_80 : decode (mX7_turn).2.1 80 = .ok (.aload_n 0, 1) := by decide +kernel
theorem dX7_turn_81 : decode (mX7_turn).2.1 81 = .ok (.getfield 44, 3) := by decide +kernel
theorem dX7_turn_84 : decode (mX7_turn).2.1 84 = .ok (.iload_n 1, 1) := by decide +kernel
theorem dX7_turn_85 : decode (mX7_turn).2.1 85 = .ok (.dup2, 1) := by decide +kernel
theorem dX7_turn_86 : decode (mX7_turn).2.1 86 = .ok (.iaload, 1) := by decide +kernel
theorem dX7_turn_87 : decode (mX7_turn).2.1 87 = .ok (.aload_n 0, 1) := by decide +kernel
theorem dX7_turn_88 : decode (mX7_turn).2.1 88 = .ok (.getfield 50, 3) := by decide +kernel
theorem dX7_turn_91 : decode (mX7_turn).2.1 91 = .ok (.iadd, 1) := by decide +kernel
theorem dX7_turn_92 : decode (mX7_turn).2.1 92 = .ok (.iastore, 1) := by decide +kernel
theorem dX7_turn_93 : decode (mX7_turn).2.1 93 = .ok (.aload_n 0, 1) := by decide +kernel
theorem dX7_turn_94 : decode (mX7_turn).2.1 94 = .ok (.getfield 38, 3) := by decide +kernel
theorem dX7_turn_97 : decode (mX7_turn).2.1 97 = .ok (.iload_n 1, 1) := by decide +kernel
theorem dX7_turn_98 : decode (mX7_turn).2.1 98 = .ok (.dup2, 1) := by decide +kernel
theorem dX7_turn_99 : decode (mX7_turn).2.1 99 = .ok (.iaload, 1) := by decide +kernel
theorem dX7_turn_100 : decode (mX7_turn).2.1 100 = .ok (.iconst 1, 1) := by decide +kernel
theorem dX7_turn_101 : decode (mX7_turn).2.1 101 = .ok (.iadd, 1) := by decide +kernel
theorem dX7_turn_102 : decode (mX7_turn).2.1 102 = .ok (.iastore, 1) := by decide +kernel
theorem dX7_turn_103 : decode (mX7_turn).2.1 103 = .ok (.goto (-87), 3) := by decide +kernel
theorem dX7_turn_106 : decode (mX7_turn).2.1 106 = .ok (.aload_n 0, 1) := by decide +kernel
theorem dX7_turn_107 : decode (mX7_turn).2.1 107 = .ok (.invokevirtual 137, 3) := by decide +kernel
theorem dX7_turn_110 : decode (mX7_turn).2.1 110 = .ok (.ifCond .ne 10, 3) := by decide +kernel
theorem dX7_turn_113 : decode (mX7_turn).2.1 113 = .ok (.aload_n 0, 1) := by decide +kernel
theorem dX7_turn_114 : decode (mX7_turn).2.1 114 = .ok (.getfield 41, 3) := by decide +kernel
theorem dX7_turn_117 : decode (mX7_turn).2.1 117 = .ok (.iload_n 1, 1) := by decide +kernel
theorem dX7_turn_118 : decode (mX7_turn).2.1 118 = .ok (.iconst 0, 1) := by decide +kernel
theorem dX7_turn_119 : decode (mX7_turn).2.1 119 = .ok (.iastore, 1) := by decide +kernel
theorem dX7_turn_120 : decode (mX7_turn).2.1 120 = .ok (.aload_n 0, 1) := by decide +kernel
theorem dX7_turn_121 : decode (mX7_turn).2.1 121 = .ok (.getfield 47, 3) := by decide +kernel
theorem dX7_turn_124 : decode (mX7_turn).2.1 124 = .ok (.iload_n 1, 1) := by decide +kernel
theorem dX7_turn_125 : decode (mX7_turn).2.1 125 = .ok (.dup2, 1) := by decide +kernel
theorem dX7_turn_126 : decode (mX7_turn).2.1 126 = .ok (.iaload, 1) := by decide +kernel
theorem dX7_turn_127 : decode (mX7_turn).2.1 127 = .ok (.aload_n 0, 1) := by decide +kernel
theorem dX7_turn_128 : decode (mX7_turn).2.1 128 = .ok (.getfield 35, 3) := by decide +kernel
theorem dX7_turn_131 : decode (mX7_turn).2.1 131 = .ok (.iload_n 1, 1) := by decide +kernel
theorem dX7_turn_132 : decode (mX7_turn).2.1 132 = .ok (.iaload, 1) := by decide +kernel
theorem dX7_turn_133 : decode (mX7_turn).2.1 133 = .ok (.aload_n 0, 1) := by decide +kernel
theorem dX7_turn_134 : decode (mX7_turn).2.1 134 = .ok (.getfield 53, 3) := by decide +kernel
theorem dX7_turn_137 : decode (mX7_turn).2.1 137 = .ok (.imul, 1) := by decide +kernel
theorem dX7_turn_138 : decode (mX7_turn).2.1 138 = .ok (.aload_n 0, 1) := by decide +kernel
theorem dX7_turn_139 : decode (mX7_turn).2.1 139 = .ok (.iload_n 1, 1) := by decide +kernel
theorem dX7_turn_140 : decode (mX7_turn).2.1 140 = .ok (.invokevirtual 134, 3) := by decide +kernel
theorem dX7_turn_143 : decode (mX7_turn).2.1 143 = .ok (.iadd, 1) := by decide +kernel
theorem dX7_turn_144 : decode (mX7_turn).2.1 144 = .ok (.iadd, 1) := by decide +kernel
theorem dX7_turn_145 : decode (mX7_turn).2.1 145 = .ok (.iastore, 1) := by decide +kernel
theorem dX7_turn_146 : decode (mX7_turn).2.1 146 = .ok (.aload_n 0, 1) := by decide +kernel
theorem dX7_turn_147 : decode (mX7_turn).2.1 147 = .ok (.getfield 44, 3) := by decide +kernel
theorem dX7_turn_150 : decode (mX7_turn).2.1 150 = .ok (.iload_n 1, 1) := by decide +kernel
theorem dX7_turn_151 : decode (mX7_turn).2.1 151 = .ok (.dup2, 1) := by decide +kernel
theorem dX7_turn_152 : decode (mX7_turn).2.1 152 = .ok (.iaload, 1) := by decide +kernel
theorem dX7_turn_153 : decode (mX7_turn).2.1 153 = .ok (.aload_n 0, 1) := by decide +kernel
theorem dX7_turn_154 : decode (mX7_turn).2.1 154 = .ok (.getfield 129, 3) := by decide +kernel
theorem dX7_turn_157 : decode (mX7_turn).2.1 157 = .ok (.iadd, 1) := by decide +kernel
theorem dX7_turn_158 : decode (mX7_turn).2.1 158 = .ok (.iastore, 1) := by decide +kernel
theorem dX7_turn_159 : decode (mX7_turn).2.1 159 = .ok (.return_, 1) := by decide +kernel
theorem dX7_passes_0 : decode (mX7_passes).2.1 0 = .ok (.iconst 0, 1) := by decide +kernel
theorem dX7_passes_1 : decode (mX7_passes).2.1 1 = .ok (.istore_n 2, 1) := by decide +kernel
theorem dX7_passes_2 : decode (mX7_passes).2.1 2 = .ok (.iload_n 2, 1) := by decide +kernel
theorem dX7_passes_3 : decode (mX7_passes).2.1 3 = .ok (.iconst 2, 1) := by decide +kernel
theorem dX7_passes_4 : decode (mX7_passes).2.1 4 = .ok (.if_icmp .ge 26, 3) := by decide +kernel
theorem dX7_passes_7 : decode (mX7_passes).2.1 7 = .ok (.aload_n 0, 1) := by decide +kernel
theorem dX7_passes_8 : decode (mX7_passes).2.1 8 = .ok (.invokevirtual 137, 3) := by decide +kernel
theorem dX7_passes_11 : decode (mX7_passes).2.1 11 = .ok (.ifCond .le 13, 3) := by decide +kernel
theorem dX7_passes_14 : decode (mX7_passes).2.1 14 = .ok (.iload_n 2, 1) := by decide +kernel
theorem dX7_passes_15 : decode (mX7_passes).2.1 15 = .ok (.iload_n 1, 1) := by decide +kernel
theorem dX7_passes_16 : decode (mX7_passes).2.1 16 = .ok (.if_icmp .eq 8, 3) := by decide +kernel
theorem dX7_passes_19 : decode (mX7_passes).2.1 19 = .ok (.aload_n 0, 1) := by decide +kernel
theorem dX7_passes_20 : decode (mX7_passes).2.1 20 = .ok (.iload_n 2, 1) := by decide +kernel
theorem dX7_passes_21 : decode (mX7_passes).2.1 21 = .ok (.invokevirtual 278, 3) := by decide +kernel
theorem dX7_passes_24 : decode (mX7_passes).2.1 24 = .ok (.iinc 2 1, 3) := by decide +kernel
theorem dX7_passes_27 : decode (mX7_passes).2.1 27 = .ok (.goto (-25), 3) := by decide +kernel
theorem dX7_passes_30 : decode (mX7_passes).2.1 30 = .ok (.aload_n 0, 1) := by decide +kernel
theorem dX7_passes_31 : decode (mX7_passes).2.1 31 = .ok (.aload_n 0, 1) := by decide +kernel
theorem dX7_passes_32 : decode (mX7_passes).2.1 32 = .ok (.getfield 265, 3) := by decide +kernel
theorem dX7_passes_35 : decode (mX7_passes).2.1 35 = .ok (.sipush 999, 3) := by decide +kernel
theorem dX7_passes_38 : decode (mX7_passes).2.1 38 = .ok (.if_icmp .ge 12, 3) := by decide +kernel
theorem dX7_passes_41 : decode (mX7_passes).2.1 41 = .ok (.aload_n 0, 1) := by decide +kernel
theorem dX7_passes_42 : decode (mX7_passes).2.1 42 = .ok (.getfield 265, 3) := by decide +kernel
theorem dX7_passes_45 : decode (mX7_passes).2.1 45 = .ok (.iconst 1, 1) := by decide +kernel
theorem dX7_passes_46 : decode (mX7_passes).2.1 46 = .ok (.iadd, 1) := by decide +kernel
theorem dX7_passes_47 : decode (mX7_passes).2.1 47 = .ok (.goto 6, 3) := by decide +kernel
theorem dX7_passes_50 : decode (mX7_passes).2.1 50 = .ok (.sipush 999, 3) := by decide +kernel
theorem dX7_passes_53 : decode (mX7_passes).2.1 53 = .ok (.putfield 265, 3) := by decide +kernel
theorem dX7_passes_56 : decode (mX7_passes).2.1 56 = .ok (.return_, 1) := by decide +kernel
theorem dX7_day_0 : decode (mX7_day).2.1 0 = .ok (.aload_n 0, 1) := by decide +kernel
theorem dX7_day_1 : decode (mX7_day).2.1 1 = .ok (.iconst (-1), 1) := by decide +kernel
theorem dX7_day_2 : decode (mX7_day).2.1 2 = .ok (.invokevirtual 282, 3) := by decide +kernel
theorem dX7_day_5 : decode (mX7_day).2.1 5 = .ok (.aload_n 0, 1) := by decide +kernel
theorem dX7_day_6 : decode (mX7_day).2.1 6 = .ok (.invokevirtual 137, 3) := by decide +kernel
theorem dX7_day_9 : decode (mX7_day).2.1 9 = .ok (.ireturn, 1) := by decide +kernel
theorem dX7_laysAside_0 : decode (mX7_laysAside).2.1 0 = .ok (.iconst 0, 1) := by decide +kernel
theorem dX7_laysAside_1 : decode (mX7_laysAside).2.1 1 = .ok (.istore_n 1, 1) := by decide +kernel
theorem dX7_laysAside_2 : decode (mX7_laysAside).2.1 2 = .ok (.iload_n 1, 1) := by decide +kernel
theorem dX7_laysAside_3 : decode (mX7_laysAside).2.1 3 = .ok (.bipush 24, 2) := by decide +kernel
theorem dX7_laysAside_5 : decode (mX7_laysAside).2.1 5 = .ok (.if_icmp .ge 33, 3) := by decide +kernel
theorem dX7_laysAside_8 : decode (mX7_laysAside).2.1 8 = .ok (.aload_n 0, 1) := by decide +kernel
theorem dX7_laysAside_9 : decode (mX7_laysAside).2.1 9 = .ok (.getfield 56, 3) := by decide +kernel
theorem dX7_laysAside_12 : decode (mX7_laysAside).2.1 12 = .ok (.iload_n 1, 1) := by decide +kernel
theorem dX7_laysAside_13 : decode (mX7_laysAside).2.1 13 = .ok (.aload_n 0, 1) := by decide +kernel
theorem dX7_laysAside_14 : decode (mX7_laysAside).2.1 14 = .ok (.getfield 23, 3) := by decide +kernel
theorem dX7_laysAside_17 : decode (mX7_laysAside).2.1 17 = .ok (.iload_n 1, 1) := by decide +kernel
theorem dX7_laysAside_18 : decode (mX7_laysAside).2.1 18 = .ok (.iaload, 1) := by decide +kernel
theorem dX7_laysAside_19 : decode (mX7_laysAside).2.1 19 = .ok (.iastore, 1) := by decide +kernel
theorem dX7_laysAside_20 : decode (mX7_laysAside).2.1 20 = .ok (.aload_n 0, 1) := by decide +kernel
theorem dX7_laysAside_21 : decode (mX7_laysAside).2.1 21 = .ok (.getfield 59, 3) := by decide +kernel
theorem dX7_laysAside_24 : decode (mX7_laysAside).2.1 24 = .ok (.iload_n 1, 1) := by decide +kernel
theorem dX7_laysAside_25 : decode (mX7_laysAside).2.1 25 = .ok (.aload_n 0, 1) := by decide +kernel
theorem dX7_laysAside_26 : decode (mX7_laysAside).2.1 26 = .ok (.getfield 26, 3) := by decide +kernel
theorem dX7_laysAside_29 : decode (mX7_laysAside).2.1 29 = .ok (.iload_n 1, 1) := by decide +kernel
theorem dX7_laysAside_30 : decode (mX7_laysAside).2.1 30 = .ok (.iaload, 1) := by decide +kernel
theorem dX7_laysAside_31 : decode (mX7_laysAside).2.1 31 = .ok (.iastore, 1) := by decide +kernel
theorem dX7_laysAside_32 : decode (mX7_laysAside).2.1 32 = .ok (.iinc 1 1, 3) := by decide +kernel
theorem dX7_laysAside_35 : decode (mX7_laysAside).2.1 35 = .ok (.goto (-33), 3) := by decide +kernel
theorem dX7_laysAside_38 : decode (mX7_laysAside).2.1 38 = .ok (.iconst 0, 1) := by decide +kernel
theorem dX7_laysAside_39 : decode (mX7_laysAside).2.1 39 = .ok (.istore_n 1, 1) := by decide +kernel
theorem dX7_laysAside_40 : decode (mX7_laysAside).2.1 40 = .ok (.iload_n 1, 1) := by decide +kernel
theorem dX7_laysAside_41 : decode (mX7_laysAside).2.1 41 = .ok (.iconst 2, 1) := by decide +kernel
theorem dX7_laysAside_42 : decode (mX7_laysAside).2.1 42 = .ok (.if_icmp .ge 87, 3) := by decide +kernel
theorem dX7_laysAside_45 : decode (mX7_laysAside).2.1 45 = .ok (.aload_n 0, 1) := by decide +kernel
theorem dX7_laysAside_46 : decode (mX7_laysAside).2.1 46 = .ok (.getfield 62, 3) := by decide +kernel
theorem dX7_laysAside_49 : decode (mX7_laysAside).2.1 49 = .ok (.iconst 5, 1) := by decide +kernel
theorem dX7_laysAside_50 : decode (mX7_laysAside).2.1 50 = .ok (.iload_n 1, 1) := by decide +kernel
theorem dX7_laysAside_51 : decode (mX7_laysAside).2.1 51 = .ok (.imul, 1) := by decide +kernel
theorem dX7_laysAside_52 : decode (mX7_laysAside).2.1 52 = .ok (.aload_n 0, 1) := by decide +kernel
theorem dX7_laysAside_53 : decode (mX7_laysAside).2.1 53 = .ok (.getfield 35, 3) := by decide +kernel
theorem dX7_laysAside_56 : decode (mX7_laysAside).2.1 56 = .ok (.iload_n 1, 1) := by decide +kernel
theorem dX7_laysAside_57 : decode (mX7_laysAside).2.1 57 = .ok (.iaload, 1) := by decide +kernel
theorem dX7_laysAside_58 : decode (mX7_laysAside).2.1 58 = .ok (.iastore, 1) := by decide +kernel
theorem dX7_laysAside_59 : decode (mX7_laysAside).2.1 59 = .ok (.aload_n 0, 1) := by decide +kernel
theorem dX7_laysAside_60 : decode (mX7_laysAside).2.1 60 = .ok (.getfield 62, 3) := by decide +kernel
theorem dX7_laysAside_63 : decode (mX7_laysAside).2.1 63 = .ok (.iconst 5, 1) := by decide +kernel
theorem dX7_laysAside_64 : decode (mX7_laysAside).2.1 64 = .ok (.iload_n 1, 1) := by decide +kernel
theorem dX7_laysAside_65 : decode (mX7_laysAside).2.1 65 = .ok (.imul, 1) := by decide +kernel
theorem dX7_laysAside_66 : decode (mX7_laysAside).2.1 66 = .ok (.iconst 1, 1) := by decide +kernel
theorem dX7_laysAside_67 : decode (mX7_laysAside).2.1 67 = .ok (.iadd, 1) := by decide +kernel
theorem dX7_laysAside_68 : decode (mX7_laysAside).2.1 68 = .ok (.aload_n 0, 1) := by decide +kernel
theorem dX7_laysAside_69 : decode (mX7_laysAside).2.1 69 = .ok (.getfield 38, 3) := by decide +kernel
theorem dX7_laysAside_72 : decode (mX7_laysAside).2.1 72 = .ok (.iload_n 1, 1) := by decide +kernel
theorem dX7_laysAside_73 : decode (mX7_laysAside).2.1 73 = .ok (.iaload, 1) := by decide +kernel
theorem dX7_laysAside_74 : decode (mX7_laysAside).2.1 74 = .ok (.iastore, 1) := by decide +kernel
theorem dX7_laysAside_75 : decode (mX7_laysAside).2.1 75 = .ok (.aload_n 0, 1) := by decide +kernel
theorem dX7_laysAside_76 : decode (mX7_laysAside).2.1 76 = .ok (.getfield 62, 3) := by decide +kernel
theorem dX7_laysAside_79 : decode (mX7_laysAside).2.1 79 = .ok (.iconst 5, 1) := by decide +kernel
theorem dX7_laysAside_80 : decode (mX7_laysAside).2.1 80 = .ok (.iload_n 1, 1) := by decide +kernel
theorem dX7_laysAside_81 : decode (mX7_laysAside).2.1 81 = .ok (.imul, 1) := by decide +kernel
theorem dX7_laysAside_82 : decode (mX7_laysAside).2.1 82 = .ok (.iconst 2, 1) := by decide +kernel
theorem dX7_laysAside_83 : decode (mX7_laysAside).2.1 83 = .ok (.iadd, 1) := by decide +kernel
theorem dX7_laysAside_84 : decode (mX7_laysAside).2.1 84 = .ok (.aload_n 0, 1) := by decide +kernel
theorem dX7_laysAside_85 : decode (mX7_laysAside).2.1 85 = .ok (.getfield 41, 3) := by decide +kernel
theorem dX7_laysAside_88 : decode (mX7_laysAside).2.1 88 = .ok (.iload_n 1, 1) := by decide +kernel
theorem dX7_laysAside_89 : decode (mX7_laysAside).2.1 89 = .ok (.iaload, 1) := by decide +kernel
theorem dX7_laysAside_90 : decode (mX7_laysAside).2.1 90 = .ok (.iastore, 1) := by decide +kernel
theorem dX7_laysAside_91 : decode (mX7_laysAside).2.1 91 = .ok (.aload_n 0, 1) := by decide +kernel
theorem dX7_laysAside_92 : decode (mX7_laysAside).2.1 92 = .ok (.getfield 62, 3) := by decide +kernel
theorem dX7_laysAside_95 : decode (mX7_laysAside).2.1 95 = .ok (.iconst 5, 1) := by decide +kernel
theorem dX7_laysAside_96 : decode (mX7_laysAside).2.1 96 = .ok (.iload_n 1, 1) := by decide +kernel
theorem dX7_laysAside_97 : decode (mX7_laysAside).2.1 97 = .ok (.imul, 1) := by decide +kernel
theorem dX7_laysAside_98 : decode (mX7_laysAside).2.1 98 = .ok (.iconst 3, 1) := by decide +kernel
theorem dX7_laysAside_99 : decode (mX7_laysAside).2.1 99 = .ok (.iadd, 1) := by decide +kernel
theorem dX7_laysAside_100 : decode (mX7_laysAside).2.1 100 = .ok (.aload_n 0, 1) := by decide +kernel
theorem dX7_laysAside_101 : decode (mX7_laysAside).2.1 101 = .ok (.getfield 44, 3) := by decide +kernel
theorem dX7_laysAside_104 : decode (mX7_laysAside).2.1 104 = .ok (.iload_n 1, 1) := by decide +kernel
theorem dX7_laysAside_105 : decode (mX7_laysAside).2.1 105 = .ok (.iaload, 1) := by decide +kernel
theorem dX7_laysAside_106 : decode (mX7_laysAside).2.1 106 = .ok (.iastore, 1) := by decide +kernel
theorem dX7_laysAside_107 : decode (mX7_laysAside).2.1 107 = .ok (.aload_n 0, 1) := by decide +kernel
theorem dX7_laysAside_108 : decode (mX7_laysAside).2.1 108 = .ok (.getfield 62, 3) := by decide +kernel
theorem dX7_laysAside_111 : decode (mX7_laysAside).2.1 111 = .ok (.iconst 5, 1) := by decide +kernel
theorem dX7_laysAside_112 : decode (mX7_laysAside).2.1 112 = .ok (.iload_n 1, 1) := by decide +kernel
theorem dX7_laysAside_113 : decode (mX7_laysAside).2.1 113 = .ok (.imul, 1) := by decide +kernel
theorem dX7_laysAside_114 : decode (mX7_laysAside).2.1 114 = .ok (.iconst 4, 1) := by decide +kernel
theorem dX7_laysAside_115 : decode (mX7_laysAside).2.1 115 = .ok (.iadd, 1) := by decide +kernel
theorem dX7_laysAside_116 : decode (mX7_laysAside).2.1 116 = .ok (.aload_n 0, 1) := by decide +kernel
theorem dX7_laysAside_117 : decode (mX7_laysAside).2.1 117 = .ok (.getfield 47, 3) := by decide +kernel
theorem dX7_laysAside_120 : decode (mX7_laysAside).2.1 120 = .ok (.iload_n 1, 1) := by decide +kernel
theorem dX7_laysAside_121 : decode (mX7_laysAside).2.1 121 = .ok (.iaload, 1) := by decide +kernel
theorem dX7_laysAside_122 : decode (mX7_laysAside).2.1 122 = .ok (.iastore, 1) := by decide +kernel
theorem dX7_laysAside_123 : decode (mX7_laysAside).2.1 123 = .ok (.iinc 1 1, 3) := by decide +kernel
theorem dX7_laysAside_126 : decode (mX7_laysAside).2.1 126 = .ok (.goto (-86), 3) := by decide +kernel
theorem dX7_laysAside_129 : decode (mX7_laysAside).2.1 129 = .ok (.aload_n 0, 1) := by decide +kernel
theorem dX7_laysAside_130 : decode (mX7_laysAside).2.1 130 = .ok (.aload_n 0, 1) := by decide +kernel
theorem dX7_laysAside_131 : decode (mX7_laysAside).2.1 131 = .ok (.getfield 265, 3) := by decide +kernel
theorem dX7_laysAside_134 : decode (mX7_laysAside).2.1 134 = .ok (.putfield 285, 3) := by decide +kernel
theorem dX7_laysAside_137 : decode (mX7_laysAside).2.1 137 = .ok (.aload_n 0, 1) := by decide +kernel
theorem dX7_laysAside_138 : decode (mX7_laysAside).2.1 138 = .ok (.aload_n 0, 1) := by decide +kernel
theorem dX7_laysAside_139 : decode (mX7_laysAside).2.1 139 = .ok (.getfield 50, 3) := by decide +kernel
theorem dX7_laysAside_142 : decode (mX7_laysAside).2.1 142 = .ok (.putfield 288, 3) := by decide +kernel
theorem dX7_laysAside_145 : decode (mX7_laysAside).2.1 145 = .ok (.return_, 1) := by decide +kernel
theorem dX7_laysBack_0 : decode (mX7_laysBack).2.1 0 = .ok (.iconst 0, 1) := by decide +kernel
theorem dX7_laysBack_1 : decode (mX7_laysBack).2.1 1 = .ok (.istore_n 1, 1) := by decide +kernel
theorem dX7_laysBack_2 : decode (mX7_laysBack).2.1 2 = .ok (.iload_n 1, 1) := by decide +kernel
theorem dX7_laysBack_3 : decode (mX7_laysBack).2.1 3 = .ok (.bipush 24, 2) := by decide +kernel
theorem dX7_laysBack_5 : decode (mX7_laysBack).2.1 5 = .ok (.if_icmp .ge 33, 3) := by decide +kernel
theorem dX7_laysBack_8 : decode (mX7_laysBack).2.1 8 = .ok (.aload_n 0, 1) := by decide +kernel
theorem dX7_laysBack_9 : decode (mX7_laysBack).2.1 9 = .ok (.getfield 23, 3) := by decide +kernel
theorem dX7_laysBack_12 : decode (mX7_laysBack).2.1 12 = .ok (.iload_n 1, 1) := by decide +kernel
theorem dX7_laysBack_13 : decode (mX7_laysBack).2.1 13 = .ok (.aload_n 0, 1) := by decide +kernel
theorem dX7_laysBack_14 : decode (mX7_laysBack).2.1 14 = .ok (.getfield 56, 3) := by decide +kernel
theorem dX7_laysBack_17 : decode (mX7_laysBack).2.1 17 = .ok (.iload_n 1, 1) := by decide +kernel
theorem dX7_laysBack_18 : decode (mX7_laysBack).2.1 18 = .ok (.iaload, 1) := by decide +kernel
theorem dX7_laysBack_19 : decode (mX7_laysBack).2.1 19 = .ok (.iastore, 1) := by decide +kernel
theorem dX7_laysBack_20 : decode (mX7_laysBack).2.1 20 = .ok (.aload_n 0, 1) := by decide +kernel
theorem dX7_laysBack_21 : decode (mX7_laysBack).2.1 21 = .ok (.getfield 26, 3) := by decide +kernel
theorem dX7_laysBack_24 : decode (mX7_laysBack).2.1 24 = .ok (.iload_n 1, 1) := by decide +kernel
theorem dX7_laysBack_25 : decode (mX7_laysBack).2.1 25 = .ok (.aload_n 0, 1) := by decide +kernel
theorem dX7_laysBack_26 : decode (mX7_laysBack).2.1 26 = .ok (.getfield 59, 3) := by decide +kernel
theorem dX7_laysBack_29 : decode (mX7_laysBack).2.1 29 = .ok (.iload_n 1, 1) := by decide +kernel
theorem dX7_laysBack_30 : decode (mX7_laysBack).2.1 30 = .ok (.iaload, 1) := by decide +kernel
theorem dX7_laysBack_31 : decode (mX7_laysBack).2.1 31 = .ok (.iastore, 1) := by decide +kernel
theorem dX7_laysBack_32 : decode (mX7_laysBack).2.1 32 = .ok (.iinc 1 1, 3) := by decide +kernel
theorem dX7_laysBack_35 : decode (mX7_laysBack).2.1 35 = .ok (.goto (-33), 3) := by decide +kernel
theorem dX7_laysBack_38 : decode (mX7_laysBack).2.1 38 = .ok (.iconst 0, 1) := by decide +kernel
theorem dX7_laysBack_39 : decode (mX7_laysBack).2.1 39 = .ok (.istore_n 1, 1) := by decide +kernel
theorem dX7_laysBack_40 : decode (mX7_laysBack).2.1 40 = .ok (.iload_n 1, 1) := by decide +kernel
theorem dX7_laysBack_41 : decode (mX7_laysBack).2.1 41 = .ok (.iconst 2, 1) := by decide +kernel
theorem dX7_laysBack_42 : decode (mX7_laysBack).2.1 42 = .ok (.if_icmp .ge 87, 3) := by decide +kernel
theorem dX7_laysBack_45 : decode (mX7_laysBack).2.1 45 = .ok (.aload_n 0, 1) := by decide +kernel
theorem dX7_laysBack_46 : decode (mX7_laysBack).2.1 46 = .ok (.getfield 35, 3) := by decide +kernel
theorem dX7_laysBack_49 : decode (mX7_laysBack).2.1 49 = .ok (.iload_n 1, 1) := by decide +kernel
theorem dX7_laysBack_50 : decode (mX7_laysBack).2.1 50 = .ok (.aload_n 0, 1) := by decide +kernel
theorem dX7_laysBack_51 : decode (mX7_laysBack).2.1 51 = .ok (.getfield 62, 3) := by decide +kernel
theorem dX7_laysBack_54 : decode (mX7_laysBack).2.1 54 = .ok (.iconst 5, 1) := by decide +kernel
theorem dX7_laysBack_55 : decode (mX7_laysBack).2.1 55 = .ok (.iload_n 1, 1) := by decide +kernel
theorem dX7_laysBack_56 : decode (mX7_laysBack).2.1 56 = .ok (.imul, 1) := by decide +kernel
theorem dX7_laysBack_57 : decode (mX7_laysBack).2.1 57 = .ok (.iaload, 1) := by decide +kernel
theorem dX7_laysBack_58 : decode (mX7_laysBack).2.1 58 = .ok (.iastore, 1) := by decide +kernel
theorem dX7_laysBack_59 : decode (mX7_laysBack).2.1 59 = .ok (.aload_n 0, 1) := by decide +kernel
theorem dX7_laysBack_60 : decode (mX7_laysBack).2.1 60 = .ok (.getfield 38, 3) := by decide +kernel
theorem dX7_laysBack_63 : decode (mX7_laysBack).2.1 63 = .ok (.iload_n 1, 1) := by decide +kernel
theorem dX7_laysBack_64 : decode (mX7_laysBack).2.1 64 = .ok (.aload_n 0, 1) := by decide +kernel
theorem dX7_laysBack_65 : decode (mX7_laysBack).2.1 65 = .ok (.getfield 62, 3) := by decide +kernel
theorem dX7_laysBack_68 : decode (mX7_laysBack).2.1 68 = .ok (.iconst 5, 1) := by decide +kernel
theorem dX7_laysBack_69 : decode (mX7_laysBack).2.1 69 = .ok (.iload_n 1, 1) := by decide +kernel
theorem dX7_laysBack_70 : decode (mX7_laysBack).2.1 70 = .ok (.imul, 1) := by decide +kernel
theorem dX7_laysBack_71 : decode (mX7_laysBack).2.1 71 = .ok (.iconst 1, 1) := by decide +kernel
theorem dX7_laysBack_72 : decode (mX7_laysBack).2.1 72 = .ok (.iadd, 1) := by decide +kernel
theorem dX7_laysBack_73 : decode (mX7_laysBack).2.1 73 = .ok (.iaload, 1) := by decide +kernel
theorem dX7_laysBack_74 : decode (mX7_laysBack).2.1 74 = .ok (.iastore, 1) := by decide +kernel
theorem dX7_laysBack_75 : decode (mX7_laysBack).2.1 75 = .ok (.aload_n 0, 1) := by decide +kernel
theorem dX7_laysBack_76 : decode (mX7_laysBack).2.1 76 = .ok (.getfield 41, 3) := by decide +kernel
theorem dX7_laysBack_79 : decode (mX7_laysBack).2.1 79 = .ok (.iload_n 1, 1) := by decide +kernel
theorem dX7_laysBack_80 : decode (mX7_laysBack).2.1 80 = .ok (.aload_n 0, 1) := by decide +kernel
theorem dX7_laysBack_81 : decode (mX7_laysBack).2.1 81 = .ok (.getfield 62, 3) := by decide +kernel
theorem dX7_laysBack_84 : decode (mX7_laysBack).2.1 84 = .ok (.iconst 5, 1) := by decide +kernel
theorem dX7_laysBack_85 : decode (mX7_laysBack).2.1 85 = .ok (.iload_n 1, 1) := by decide +kernel
theorem dX7_laysBack_86 : decode (mX7_laysBack).2.1 86 = .ok (.imul, 1) := by decide +kernel
theorem dX7_laysBack_87 : decode (mX7_laysBack).2.1 87 = .ok (.iconst 2, 1) := by decide +kernel
theorem dX7_laysBack_88 : decode (mX7_laysBack).2.1 88 = .ok (.iadd, 1) := by decide +kernel
theorem dX7_laysBack_89 : decode (mX7_laysBack).2.1 89 = .ok (.iaload, 1) := by decide +kernel
theorem dX7_laysBack_90 : decode (mX7_laysBack).2.1 90 = .ok (.iastore, 1) := by decide +kernel
theorem dX7_laysBack_91 : decode (mX7_laysBack).2.1 91 = .ok (.aload_n 0, 1) := by decide +kernel
theorem dX7_laysBack_92 : decode (mX7_laysBack).2.1 92 = .ok (.getfield 44, 3) := by decide +kernel
theorem dX7_laysBack_95 : decode (mX7_laysBack).2.1 95 = .ok (.iload_n 1, 1) := by decide +kernel
theorem dX7_laysBack_96 : decode (mX7_laysBack).2.1 96 = .ok (.aload_n 0, 1) := by decide +kernel
theorem dX7_laysBack_97 : decode (mX7_laysBack).2.1 97 = .ok (.getfield 62, 3) := by decide +kernel
theorem dX7_laysBack_100 : decode (mX7_laysBack).2.1 100 = .ok (.iconst 5, 1) := by decide +kernel
theorem dX7_laysBack_101 : decode (mX7_laysBack).2.1 101 = .ok (.iload_n 1, 1) := by decide +kernel
theorem dX7_laysBack_102 : decode (mX7_laysBack).2.1 102 = .ok (.imul, 1) := by decide +kernel
theorem dX7_laysBack_103 : decode (mX7_laysBack).2.1 103 = .ok (.iconst 3, 1) := by decide +kernel
theorem dX7_laysBack_104 : decode (mX7_laysBack).2.1 104 = .ok (.iadd, 1) := by decide +kernel
theorem dX7_laysBack_105 : decode (mX7_laysBack).2.1 105 = .ok (.iaload, 1) := by decide +kernel
theorem dX7_laysBack_106 : decode (mX7_laysBack).2.1 106 = .ok (.iastore, 1) := by decide +kernel
theorem dX7_laysBack_107 : decode (mX7_laysBack).2.1 107 = .ok (.aload_n 0, 1) := by decide +kernel
theorem dX7_laysBack_108 : decode (mX7_laysBack).2.1 108 = .ok (.getfield 47, 3) := by decide +kernel
theorem dX7_laysBack_111 : decode (mX7_laysBack).2.1 111 = .ok (.iload_n 1, 1) := by decide +kernel
theorem dX7_laysBack_112 : decode (mX7_laysBack).2.1 112 = .ok (.aload_n 0, 1) := by decide +kernel
theorem dX7_laysBack_113 : decode (mX7_laysBack).2.1 113 = .ok (.getfield 62, 3) := by decide +kernel
theorem dX7_laysBack_116 : decode (mX7_laysBack).2.1 116 = .ok (.iconst 5, 1) := by decide +kernel
theorem dX7_laysBack_117 : decode (mX7_laysBack).2.1 117 = .ok (.iload_n 1, 1) := by decide +kernel
theorem dX7_laysBack_118 : decode (mX7_laysBack).2.1 118 = .ok (.imul, 1) := by decide +kernel
theorem dX7_laysBack_119 : decode (mX7_laysBack).2.1 119 = .ok (.iconst 4, 1) := by decide +kernel
theorem dX7_laysBack_120 : decode (mX7_laysBack).2.1 120 = .ok (.iadd, 1) := by decide +kernel
theorem dX7_laysBack_121 : decode (mX7_laysBack).2.1 121 = .ok (.iaload, 1) := by decide +kernel
theorem dX7_laysBack_122 : decode (mX7_laysBack).2.1 122 = .ok (.iastore, 1) := by decide +kernel
theorem dX7_laysBack_123 : decode (mX7_laysBack).2.1 123 = .ok (.iinc 1 1, 3) := by decide +kernel
theorem dX7_laysBack_126 : decode (mX7_laysBack).2.1 126 = .ok (.goto (-86), 3) := by decide +kernel
theorem dX7_laysBack_129 : decode (mX7_laysBack).2.1 129 = .ok (.aload_n 0, 1) := by decide +kernel
theorem dX7_laysBack_130 : decode (mX7_laysBack).2.1 130 = .ok (.aload_n 0, 1) := by decide +kernel
theorem dX7_laysBack_131 : decode (mX7_laysBack).2.1 131 = .ok (.getfield 285, 3) := by decide +kernel
theorem dX7_laysBack_134 : decode (mX7_laysBack).2.1 134 = .ok (.putfield 265, 3) := by decide +kernel
theorem dX7_laysBack_137 : decode (mX7_laysBack).2.1 137 = .ok (.aload_n 0, 1) := by decide +kernel
theorem dX7_laysBack_138 : decode (mX7_laysBack).2.1 138 = .ok (.aload_n 0, 1) := by decide +kernel
theorem dX7_laysBack_139 : decode (mX7_laysBack).2.1 139 = .ok (.getfield 288, 3) := by decide +kernel
theorem dX7_laysBack_142 : decode (mX7_laysBack).2.1 142 = .ok (.putfield 50, 3) := by decide +kernel
theorem dX7_laysBack_145 : decode (mX7_laysBack).2.1 145 = .ok (.return_, 1) := by decide +kernel
theorem dX7_runs_0 : decode (mX7_runs).2.1 0 = .ok (.aload_n 0, 1) := by decide +kernel
theorem dX7_runs_1 : decode (mX7_runs).2.1 1 = .ok (.iconst 0, 1) := by decide +kernel
theorem dX7_runs_2 : decode (mX7_runs).2.1 2 = .ok (.putfield 291, 3) := by decide +kernel
theorem dX7_runs_5 : decode (mX7_runs).2.1 5 = .ok (.aload_n 0, 1) := by decide +kernel
theorem dX7_runs_6 : decode (mX7_runs).2.1 6 = .ok (.invokevirtual 137, 3) := by decide +kernel
theorem dX7_runs_9 : decode (mX7_runs).2.1 9 = .ok (.ifCond .le 43, 3) := by decide +kernel
theorem dX7_runs_12 : decode (mX7_runs).2.1 12 = .ok (.aload_n 0, 1) := by decide +kernel
theorem dX7_runs_13 : decode (mX7_runs).2.1 13 = .ok (.getfield 291, 3) := by decide +kernel
theorem dX7_runs_16 : decode (mX7_runs).2.1 16 = .ok (.sipush 300, 3) := by decide +kernel
theorem dX7_runs_19 : decode (mX7_runs).2.1 19 = .ok (.if_icmp .ge 33, 3) := by decide +kernel
theorem dX7_runs_22 : decode (mX7_runs).2.1 22 = .ok (.aload_n 0, 1) := by decide +kernel
theorem dX7_runs_23 : decode (mX7_runs).2.1 23 = .ok (.aload_n 0, 1) := by decide +kernel
theorem dX7_runs_24 : decode (mX7_runs).2.1 24 = .ok (.getfield 291, 3) := by decide +kernel
theorem dX7_runs_27 : decode (mX7_runs).2.1 27 = .ok (.iload_n 2, 1) := by decide +kernel
theorem dX7_runs_28 : decode (mX7_runs).2.1 28 = .ok (.if_icmp .ge 7, 3) := by decide +kernel
theorem dX7_runs_31 : decode (mX7_runs).2.1 31 = .ok (.iload_n 1, 1) := by decide +kernel
theorem dX7_runs_32 : decode (mX7_runs).2.1 32 = .ok (.goto 4, 3) := by decide +kernel
theorem dX7_runs_35 : decode (mX7_runs).2.1 35 = .ok (.iconst (-1), 1) := by decide +kernel
theorem dX7_runs_36 : decode (mX7_runs).2.1 36 = .ok (.invokevirtual 282, 3) := by decide +kernel
theorem dX7_runs_39 : decode (mX7_runs).2.1 39 = .ok (.aload_n 0, 1) := by decide +kernel
theorem dX7_runs_40 : decode (mX7_runs).2.1 40 = .ok (.dup, 1) := by decide +kernel
theorem dX7_runs_41 : decode (mX7_runs).2.1 41 = .ok (.getfield 291, 3) := by decide +kernel
theorem dX7_runs_44 : decode (mX7_runs).2.1 44 = .ok (.iconst 1, 1) := by decide +kernel
theorem dX7_runs_45 : decode (mX7_runs).2.1 45 = .ok (.iadd, 1) := by decide +kernel
theorem dX7_runs_46 : decode (mX7_runs).2.1 46 = .ok (.putfield 291, 3) := by decide +kernel
theorem dX7_runs_49 : decode (mX7_runs).2.1 49 = .ok (.goto (-44), 3) := by decide +kernel
theorem dX7_runs_52 : decode (mX7_runs).2.1 52 = .ok (.return_, 1) := by decide +kernel
theorem dX7_gain_0 : decode (mX7_gain).2.1 0 = .ok (.aload_n 0, 1) := by decide +kernel
theorem dX7_gain_1 : decode (mX7_gain).2.1 1 = .ok (.getfield 44, 3) := by decide +kernel
theorem dX7_gain_4 : decode (mX7_gain).2.1 4 = .ok (.iload_n 1, 1) := by decide +kernel
theorem dX7_gain_5 : decode (mX7_gain).2.1 5 = .ok (.iaload, 1) := by decide +kernel
theorem dX7_gain_6 : decode (mX7_gain).2.1 6 = .ok (.aload_n 0, 1) := by decide +kernel
theorem dX7_gain_7 : decode (mX7_gain).2.1 7 = .ok (.getfield 47, 3) := by decide +kernel
theorem dX7_gain_10 : decode (mX7_gain).2.1 10 = .ok (.iload_n 1, 1) := by decide +kernel
theorem dX7_gain_11 : decode (mX7_gain).2.1 11 = .ok (.iaload, 1) := by decide +kernel
theorem dX7_gain_12 : decode (mX7_gain).2.1 12 = .ok (.isub, 1) := by decide +kernel
theorem dX7_gain_13 : decode (mX7_gain).2.1 13 = .ok (.ireturn, 1) := by decide +kernel
theorem dX7_worthAll_0 : decode (mX7_worthAll).2.1 0 = .ok (.iconst 0, 1) := by decide +kernel
theorem dX7_worthAll_1 : decode (mX7_worthAll).2.1 1 = .ok (.istore_n 1, 1) := by decide +kernel
theorem dX7_worthAll_2 : decode (mX7_worthAll).2.1 2 = .ok (.iconst 0, 1) := by decide +kernel
theorem dX7_worthAll_3 : decode (mX7_worthAll).2.1 3 = .ok (.istore_n 2, 1) := by decide +kernel
theorem dX7_worthAll_4 : decode (mX7_worthAll).2.1 4 = .ok (.iload_n 2, 1) := by decide +kernel
theorem dX7_worthAll_5 : decode (mX7_worthAll).2.1 5 = .ok (.bipush 24, 2) := by decide +kernel
theorem dX7_worthAll_7 : decode (mX7_worthAll).2.1 7 = .ok (.if_icmp .ge 28, 3) := by decide +kernel
theorem dX7_worthAll_10 : decode (mX7_worthAll).2.1 10 = .ok (.iload_n 1, 1) := by decide +kernel
theorem dX7_worthAll_11 : decode (mX7_worthAll).2.1 11 = .ok (.aload_n 0, 1) := by decide +kernel
theorem dX7_worthAll_12 : decode (mX7_worthAll).2.1 12 = .ok (.iconst 2, 1) := by decide +kernel
theorem dX7_worthAll_13 : decode (mX7_worthAll).2.1 13 = .ok (.iload_n 2, 1) := by decide +kernel
theorem dX7_worthAll_14 : decode (mX7_worthAll).2.1 14 = .ok (.iconst 0, 1) := by decide +kernel
theorem dX7_worthAll_15 : decode (mX7_worthAll).2.1 15 = .ok (.invokevirtual 268, 3) := by decide +kernel
theorem dX7_worthAll_18 : decode (mX7_worthAll).2.1 18 = .ok (.sipush (-999), 3) := by decide +kernel
theorem dX7_worthAll_21 : decode (mX7_worthAll).2.1 21 = .ok (.sipush 999, 3) := by decide +kernel
theorem dX7_worthAll_24 : decode (mX7_worthAll).2.1 24 = .ok (.invokestatic 272, 3) := by decide +kernel
theorem dX7_worthAll_27 : decode (mX7_worthAll).2.1 27 = .ok (.iadd, 1) := by decide +kernel
theorem dX7_worthAll_28 : decode (mX7_worthAll).2.1 28 = .ok (.istore_n 1, 1) := by decide +kernel
theorem dX7_worthAll_29 : decode (mX7_worthAll).2.1 29 = .ok (.iinc 2 1, 3) := by decide +kernel
theorem dX7_worthAll_32 : decode (mX7_worthAll).2.1 32 = .ok (.goto (-28), 3) := by decide +kernel
theorem dX7_worthAll_35 : decode (mX7_worthAll).2.1 35 = .ok (.iload_n 1, 1) := by decide +kernel
theorem dX7_worthAll_36 : decode (mX7_worthAll).2.1 36 = .ok (.ireturn, 1) := by decide +kernel
theorem dX7_run_0 : decode (mX7_run).2.1 0 = .ok (.iload_n 1, 1) := by decide +kernel
theorem dX7_run_1 : decode (mX7_run).2.1 1 = .ok (.i2l, 1) := by decide +kernel
theorem dX7_run_2 : decode (mX7_run).2.1 2 = .ok (.lconst 0, 1) := by decide +kernel
theorem dX7_run_3 : decode (mX7_run).2.1 3 = .ok (.ldc2_w 117, 3) := by decide +kernel
theorem dX7_run_6 : decode (mX7_run).2.1 6 = .ok (.invokestatic 96, 3) := by decide +kernel
theorem dX7_run_9 : decode (mX7_run).2.1 9 = .ok (.ifCond .ne 7, 3) := by decide +kernel
theorem dX7_run_12 : decode (mX7_run).2.1 12 = .ok (.ldc_w 294, 3) := by decide +kernel
theorem dX7_run_15 : decode (mX7_run).2.1 15 = .ok (.ireturn, 1) := by decide +kernel
theorem dX7_run_16 : decode (mX7_run).2.1 16 = .ok (.iload_n 1, 1) := by decide +kernel
theorem dX7_run_17 : decode (mX7_run).2.1 17 = .ok (.iconst 5, 1) := by decide +kernel
theorem dX7_run_18 : decode (mX7_run).2.1 18 = .ok (.if_icmp .ne 10, 3) := by decide +kernel
theorem dX7_run_21 : decode (mX7_run).2.1 21 = .ok (.aload_n 0, 1) := by decide +kernel
theorem dX7_run_22 : decode (mX7_run).2.1 22 = .ok (.invokevirtual 295, 3) := by decide +kernel
theorem dX7_run_25 : decode (mX7_run).2.1 25 = .ok (.goto 4, 3) := by decide +kernel
theorem dX7_run_28 : decode (mX7_run).2.1 28 = .ok (.iconst 0, 1) := by decide +kernel
theorem dX7_run_29 : decode (mX7_run).2.1 29 = .ok (.istore_n 2, 1) := by decide +kernel
theorem dX7_run_30 : decode (mX7_run).2.1 30 = .ok (.aload_n 0, 1) := by decide +kernel
theorem dX7_run_31 : decode (mX7_run).2.1 31 = .ok (.invokevirtual 298, 3) := by decide +kernel
theorem dX7_run_34 : decode (mX7_run).2.1 34 = .ok (.aload_n 0, 1) := by decide +kernel
theorem dX7_run_35 : decode (mX7_run).2.1 35 = .ok (.iconst (-1), 1) := by decide +kernel
theorem dX7_run_36 : decode (mX7_run).2.1 36 = .ok (.iconst 0, 1) := by decide +kernel
theorem dX7_run_37 : decode (mX7_run).2.1 37 = .ok (.invokevirtual 301, 3) := by decide +kernel
theorem dX7_run_40 : decode (mX7_run).2.1 40 = .ok (.aload_n 0, 1) := by decide +kernel
theorem dX7_run_41 : decode (mX7_run).2.1 41 = .ok (.getfield 44, 3) := by decide +kernel
theorem dX7_run_44 : decode (mX7_run).2.1 44 = .ok (.iconst 0, 1) := by decide +kernel
theorem dX7_run_45 : decode (mX7_run).2.1 45 = .ok (.iaload, 1) := by decide +kernel
theorem dX7_run_46 : decode (mX7_run).2.1 46 = .ok (.aload_n 0, 1) := by decide +kernel
theorem dX7_run_47 : decode (mX7_run).2.1 47 = .ok (.getfield 44, 3) := by decide +kernel
theorem dX7_run_50 : decode (mX7_run).2.1 50 = .ok (.iconst 1, 1) := by decide +kernel
theorem dX7_run_51 : decode (mX7_run).2.1 51 = .ok (.iaload, 1) := by decide +kernel
theorem dX7_run_52 : decode (mX7_run).2.1 52 = .ok (.iadd, 1) := by decide +kernel
theorem dX7_run_53 : decode (mX7_run).2.1 53 = .ok (.istore_n 3, 1) := by decide +kernel
theorem dX7_run_54 : decode (mX7_run).2.1 54 = .ok (.iload_n 1, 1) := by decide +kernel
theorem dX7_run_55 : decode (mX7_run).2.1 55 = .ok (.ifCond .ne 10, 3) := by decide +kernel
theorem dX7_run_58 : decode (mX7_run).2.1 58 = .ok (.aload_n 0, 1) := by decide +kernel
theorem dX7_run_59 : decode (mX7_run).2.1 59 = .ok (.getfield 291, 3) := by decide +kernel
theorem dX7_run_62 : decode (mX7_run).2.1 62 = .ok (.goto 44, 3) := by decide +kernel
theorem dX7_run_65 : decode (mX7_run).2.1 65 = .ok (.iload_n 1, 1) := by decide +kernel
theorem dX7_run_66 : decode (mX7_run).2.1 66 = .ok (.iconst 1, 1) := by decide +kernel
theorem dX7_run_67 : decode (mX7_run).2.1 67 = .ok (.if_icmp .ne 12, 3) := by decide +kernel
theorem dX7_run_70 : decode (mX7_run).2.1 70 = .ok (.aload_n 0, 1) := by decide +kernel
theorem dX7_run_71 : decode (mX7_run).2.1 71 = .ok (.getfield 38, 3) := by decide +kernel
theorem dX7_run_74 : decode (mX7_run).2.1 74 = .ok (.iconst 0, 1) := by decide +kernel
theorem dX7_run_75 : decode (mX7_run).2.1 75 = .ok (.iaload, 1) := by decide +kernel
theorem dX7_run_76 : decode (mX7_run).2.1 76 = .ok (.goto 30, 3) := by decide +kernel
theorem dX7_run_79 : decode (mX7_run).2.1 79 = .ok (.iload_n 1, 1) := by decide +kernel
theorem dX7_run_80 : decode (mX7_run).2.1 80 = .ok (.iconst 4, 1) := by decide +kernel
theorem dX7_run_81 : decode (mX7_run).2.1 81 = .ok (.if_icmp .ge 13, 3) := by decide +kernel
theorem dX7_run_84 : decode (mX7_run).2.1 84 = .ok (.aload_n 0, 1) := by decide +kernel
theorem dX7_run_85 : decode (mX7_run).2.1 85 = .ok (.iload_n 1, 1) := by decide +kernel
theorem dX7_run_86 : decode (mX7_run).2.1 86 = .ok (.iconst 2, 1) := by decide +kernel
theorem dX7_run_87 : decode (mX7_run).2.1 87 = .ok (.isub, 1) := by decide +kernel
theorem dX7_run_88 : decode (mX7_run).2.1 88 = .ok (.invokevirtual 305, 3) := by decide +kernel
theorem dX7_run_91 : decode (mX7_run).2.1 91 = .ok (.goto 15, 3) := by decide +kernel
theorem dX7_run_94 : decode (mX7_run).2.1 94 = .ok (.iload_n 1, 1) := by decide +kernel
theorem dX7_run_95 : decode (mX7_run).2.1 95 = .ok (.iconst 4, 1) := by decide +kernel
theorem dX7_run_96 : decode (mX7_run).2.1 96 = .ok (.if_icmp .ne 7, 3) := by decide +kernel
theorem dX7_run_99 : decode (mX7_run).2.1 99 = .ok (.iload_n 3, 1) := by decide +kernel
theorem dX7_run_100 : decode (mX7_run).2.1 100 = .ok (.goto 6, 3) := by decide +kernel
theorem dX7_run_103 : decode (mX7_run).2.1 103 = .ok (.iload_n 2, 1) := by decide +kernel
theorem dX7_run_104 : decode (mX7_run).2.1 104 = .ok (.iload_n 3, 1) := by decide +kernel
theorem dX7_run_105 : decode (mX7_run).2.1 105 = .ok (.isub, 1) := by decide +kernel
theorem dX7_run_106 : decode (mX7_run).2.1 106 = .ok (.istore 4, 2) := by decide +kernel
theorem dX7_run_108 : decode (mX7_run).2.1 108 = .ok (.aload_n 0, 1) := by decide +kernel
theorem dX7_run_109 : decode (mX7_run).2.1 109 = .ok (.invokevirtual 308, 3) := by decide +kernel
theorem dX7_run_112 : decode (mX7_run).2.1 112 = .ok (.iload 4, 2) := by decide +kernel
theorem dX7_run_114 : decode (mX7_run).2.1 114 = .ok (.ireturn, 1) := by decide +kernel
theorem dX7_done_0 : decode (mX7_done).2.1 0 = .ok (.iload_n 1, 1) := by decide +kernel
theorem dX7_done_1 : decode (mX7_done).2.1 1 = .ok (.invokestatic 114, 3) := by decide +kernel
theorem dX7_done_4 : decode (mX7_done).2.1 4 = .ok (.ifCond .eq 15, 3) := by decide +kernel
theorem dX7_done_7 : decode (mX7_done).2.1 7 = .ok (.iload_n 2, 1) := by decide +kernel
theorem dX7_done_8 : decode (mX7_done).2.1 8 = .ok (.i2l, 1) := by decide +kernel
theorem dX7_done_9 : decode (mX7_done).2.1 9 = .ok (.lconst 0, 1) := by decide +kernel
theorem dX7_done_10 : decode (mX7_done).2.1 10 = .ok (.ldc2_w 311, 3) := by decide +kernel
theorem dX7_done_13 : decode (mX7_done).2.1 13 = .ok (.invokestatic 96, 3) := by decide +kernel
theorem dX7_done_16 : decode (mX7_done).2.1 16 = .ok (.ifCond .ne 6, 3) := by decide +kernel
theorem dX7_done_19 : decode (mX7_done).2.1 19 = .ok (.bipush (-2), 2) := by decide +kernel
theorem dX7_done_21 : decode (mX7_done).2.1 21 = .ok (.ireturn, 1) := by decide +kernel
theorem dX7_done_22 : decode (mX7_done).2.1 22 = .ok (.aload_n 0, 1) := by decide +kernel
theorem dX7_done_23 : decode (mX7_done).2.1 23 = .ok (.invokevirtual 298, 3) := by decide +kernel
theorem dX7_done_26 : decode (mX7_done).2.1 26 = .ok (.iconst 0, 1) := by decide +kernel
theorem dX7_done_27 : decode (mX7_done).2.1 27 = .ok (.istore_n 3, 1) := by decide +kernel
theorem dX7_done_28 : decode (mX7_done).2.1 28 = .ok (.iload_n 3, 1) := by decide +kernel
theorem dX7_done_29 : decode (mX7_done).2.1 29 = .ok (.iload_n 2, 1) := by decide +kernel
theorem dX7_done_30 : decode (mX7_done).2.1 30 = .ok (.if_icmp .ge 14, 3) := by decide +kernel
theorem dX7_done_33 : decode (mX7_done).2.1 33 = .ok (.aload_n 0, 1) := by decide +kernel
theorem dX7_done_34 : decode (mX7_done).2.1 34 = .ok (.iconst (-1), 1) := by decide +kernel
theorem dX7_done_35 : decode (mX7_done).2.1 35 = .ok (.invokevirtual 282, 3) := by decide +kernel
theorem dX7_done_38 : decode (mX7_done).2.1 38 = .ok (.iinc 3 1, 3) := by decide +kernel
theorem dX7_done_41 : decode (mX7_done).2.1 41 = .ok (.goto (-13), 3) := by decide +kernel
theorem dX7_done_44 : decode (mX7_done).2.1 44 = .ok (.aload_n 0, 1) := by decide +kernel
theorem dX7_done_45 : decode (mX7_done).2.1 45 = .ok (.getfield 38, 3) := by decide +kernel
theorem dX7_done_48 : decode (mX7_done).2.1 48 = .ok (.iload_n 1, 1) := by decide +kernel
theorem dX7_done_49 : decode (mX7_done).2.1 49 = .ok (.iaload, 1) := by decide +kernel
theorem dX7_done_50 : decode (mX7_done).2.1 50 = .ok (.istore_n 3, 1) := by decide +kernel
theorem dX7_done_51 : decode (mX7_done).2.1 51 = .ok (.aload_n 0, 1) := by decide +kernel
theorem dX7_done_52 : decode (mX7_done).2.1 52 = .ok (.invokevirtual 308, 3) := by decide +kernel
theorem dX7_done_55 : decode (mX7_done).2.1 55 = .ok (.iload_n 3, 1) := by decide +kernel
theorem dX7_done_56 : decode (mX7_done).2.1 56 = .ok (.ireturn, 1) := by decide +kernel
theorem dX7_ease_0 : decode (mX7_ease).2.1 0 = .ok (.iload_n 1, 1) := by decide +kernel
theorem dX7_ease_1 : decode (mX7_ease).2.1 1 = .ok (.invokestatic 114, 3) := by decide +kernel
theorem dX7_ease_4 : decode (mX7_ease).2.1 4 = .ok (.ifCond .eq 13, 3) := by decide +kernel
theorem dX7_ease_7 : decode (mX7_ease).2.1 7 = .ok (.iload_n 2, 1) := by decide +kernel
theorem dX7_ease_8 : decode (mX7_ease).2.1 8 = .ok (.i2l, 1) := by decide +kernel
theorem dX7_ease_9 : decode (mX7_ease).2.1 9 = .ok (.lconst 0, 1) := by decide +kernel
theorem dX7_ease_10 : decode (mX7_ease).2.1 10 = .ok (.lconst 1, 1) := by decide +kernel
theorem dX7_ease_11 : decode (mX7_ease).2.1 11 = .ok (.invokestatic 96, 3) := by decide +kernel
theorem dX7_ease_14 : decode (mX7_ease).2.1 14 = .ok (.ifCond .ne 7, 3) := by decide +kernel
theorem dX7_ease_17 : decode (mX7_ease).2.1 17 = .ok (.ldc_w 294, 3) := by decide +kernel
theorem dX7_ease_20 : decode (mX7_ease).2.1 20 = .ok (.ireturn, 1) := by decide +kernel
theorem dX7_ease_21 : decode (mX7_ease).2.1 21 = .ok (.aload_n 0, 1) := by decide +kernel
theorem dX7_ease_22 : decode (mX7_ease).2.1 22 = .ok (.invokevirtual 298, 3) := by decide +kernel
theorem dX7_ease_25 : decode (mX7_ease).2.1 25 = .ok (.iconst 0, 1) := by decide +kernel
theorem dX7_ease_26 : decode (mX7_ease).2.1 26 = .ok (.istore_n 3, 1) := by decide +kernel
theorem dX7_ease_27 : decode (mX7_ease).2.1 27 = .ok (.iconst 0, 1) := by decide +kernel
theorem dX7_ease_28 : decode (mX7_ease).2.1 28 = .ok (.istore 4, 2) := by decide +kernel
theorem dX7_ease_30 : decode (mX7_ease).2.1 30 = .ok (.iconst 0, 1) := by decide +kernel
theorem dX7_ease_31 : decode (mX7_ease).2.1 31 = .ok (.istore 5, 2) := by decide +kernel
theorem dX7_ease_33 : decode (mX7_ease).2.1 33 = .ok (.iload 5, 2) := by decide +kernel
theorem dX7_ease_35 : decode (mX7_ease).2.1 35 = .ok (.bipush 10, 2) := by decide +kernel
theorem dX7_ease_37 : decode (mX7_ease).2.1 37 = .ok (.if_icmp .gt 46, 3) := by decide +kernel
theorem dX7_ease_40 : decode (mX7_ease).2.1 40 = .ok (.aload_n 0, 1) := by decide +kernel
theorem dX7_ease_41 : decode (mX7_ease).2.1 41 = .ok (.iload_n 1, 1) := by decide +kernel
theorem dX7_ease_42 : decode (mX7_ease).2.1 42 = .ok (.iload 5, 2) := by decide +kernel
theorem dX7_ease_44 : decode (mX7_ease).2.1 44 = .ok (.invokevirtual 301, 3) := by decide +kernel
theorem dX7_ease_47 : decode (mX7_ease).2.1 47 = .ok (.aload_n 0, 1) := by decide +kernel
theorem dX7_ease_48 : decode (mX7_ease).2.1 48 = .ok (.iload_n 1, 1) := by decide +kernel
theorem dX7_ease_49 : decode (mX7_ease).2.1 49 = .ok (.invokevirtual 305, 3) := by decide +kernel
theorem dX7_ease_52 : decode (mX7_ease).2.1 52 = .ok (.istore 6, 2) := by decide +kernel
theorem dX7_ease_54 : decode (mX7_ease).2.1 54 = .ok (.aload_n 0, 1) := by decide +kernel
theorem dX7_ease_55 : decode (mX7_ease).2.1 55 = .ok (.invokevirtual 308, 3) := by decide +kernel
theorem dX7_ease_58 : decode (mX7_ease).2.1 58 = .ok (.iload 5, 2) := by decide +kernel
theorem dX7_ease_60 : decode (mX7_ease).2.1 60 = .ok (.ifCond .eq 10, 3) := by decide +kernel
theorem dX7_ease_63 : decode (mX7_ease).2.1 63 = .ok (.iload 6, 2) := by decide +kernel
theorem dX7_ease_65 : decode (mX7_ease).2.1 65 = .ok (.iload 4, 2) := by decide +kernel
theorem dX7_ease_67 : decode (mX7_ease).2.1 67 = .ok (.if_icmp .le 10, 3) := by decide +kernel
theorem dX7_ease_70 : decode (mX7_ease).2.1 70 = .ok (.iload 5, 2) := by decide +kernel
theorem dX7_ease_72 : decode (mX7_ease).2.1 72 = .ok (.istore_n 3, 1) := by decide +kernel
theorem dX7_ease_73 : decode (mX7_ease).2.1 73 = .ok (.iload 6, 2) := by decide +kernel
theorem dX7_ease_75 : decode (mX7_ease).2.1 75 = .ok (.istore 4, 2) := by decide +kernel
theorem dX7_ease_77 : decode (mX7_ease).2.1 77 = .ok (.iinc 5 1, 3) := by decide +kernel
theorem dX7_ease_80 : decode (mX7_ease).2.1 80 = .ok (.goto (-47), 3) := by decide +kernel
theorem dX7_ease_83 : decode (mX7_ease).2.1 83 = .ok (.iload_n 2, 1) := by decide +kernel
theorem dX7_ease_84 : decode (mX7_ease).2.1 84 = .ok (.ifCond .ne 7, 3) := by decide +kernel
theorem dX7_ease_87 : decode (mX7_ease).2.1 87 = .ok (.iload_n 3, 1) := by decide +kernel
theorem dX7_ease_88 : decode (mX7_ease).2.1 88 = .ok (.goto 5, 3) := by decide +kernel
theorem dX7_ease_91 : decode (mX7_ease).2.1 91 = .ok (.iload 4, 2) := by decide +kernel
theorem dX7_ease_93 : decode (mX7_ease).2.1 93 = .ok (.ireturn, 1) := by decide +kernel
theorem dX7_gainBy_0 : decode (mX7_gainBy).2.1 0 = .ok (.aload_n 0, 1) := by decide +kernel
theorem dX7_gainBy_1 : decode (mX7_gainBy).2.1 1 = .ok (.invokevirtual 298, 3) := by decide +kernel
theorem dX7_gainBy_4 : decode (mX7_gainBy).2.1 4 = .ok (.aload_n 0, 1) := by decide +kernel
theorem dX7_gainBy_5 : decode (mX7_gainBy).2.1 5 = .ok (.getfield 35, 3) := by decide +kernel
theorem dX7_gainBy_8 : decode (mX7_gainBy).2.1 8 = .ok (.iload_n 1, 1) := by decide +kernel
theorem dX7_gainBy_9 : decode (mX7_gainBy).2.1 9 = .ok (.iload_n 2, 1) := by decide +kernel
theorem dX7_gainBy_10 : decode (mX7_gainBy).2.1 10 = .ok (.iastore, 1) := by decide +kernel
theorem dX7_gainBy_11 : decode (mX7_gainBy).2.1 11 = .ok (.aload_n 0, 1) := by decide +kernel
theorem dX7_gainBy_12 : decode (mX7_gainBy).2.1 12 = .ok (.iconst (-1), 1) := by decide +kernel
theorem dX7_gainBy_13 : decode (mX7_gainBy).2.1 13 = .ok (.iconst 0, 1) := by decide +kernel
theorem dX7_gainBy_14 : decode (mX7_gainBy).2.1 14 = .ok (.invokevirtual 301, 3) := by decide +kernel
theorem dX7_gainBy_17 : decode (mX7_gainBy).2.1 17 = .ok (.aload_n 0, 1) := by decide +kernel
theorem dX7_gainBy_18 : decode (mX7_gainBy).2.1 18 = .ok (.iload_n 1, 1) := by decide +kernel
theorem dX7_gainBy_19 : decode (mX7_gainBy).2.1 19 = .ok (.invokevirtual 305, 3) := by decide +kernel
theorem dX7_gainBy_22 : decode (mX7_gainBy).2.1 22 = .ok (.istore_n 3, 1) := by decide +kernel
theorem dX7_gainBy_23 : decode (mX7_gainBy).2.1 23 = .ok (.aload_n 0, 1) := by decide +kernel
theorem dX7_gainBy_24 : decode (mX7_gainBy).2.1 24 = .ok (.invokevirtual 308, 3) := by decide +kernel
theorem dX7_gainBy_27 : decode (mX7_gainBy).2.1 27 = .ok (.iload_n 3, 1) := by decide +kernel
theorem dX7_gainBy_28 : decode (mX7_gainBy).2.1 28 = .ok (.ireturn, 1) := by decide +kernel
theorem dX7_bestMen_0 : decode (mX7_bestMen).2.1 0 = .ok (.iconst 1, 1) := by decide +kernel
theorem dX7_bestMen_1 : decode (mX7_bestMen).2.1 1 = .ok (.istore_n 2, 1) := by decide +kernel
theorem dX7_bestMen_2 : decode (mX7_bestMen).2.1 2 = .ok (.aload_n 0, 1) := by decide +kernel
theorem dX7_bestMen_3 : decode (mX7_bestMen).2.1 3 = .ok (.aload_n 0, 1) := by decide +kernel
theorem dX7_bestMen_4 : decode (mX7_bestMen).2.1 4 = .ok (.iload_n 1, 1) := by decide +kernel
theorem dX7_bestMen_5 : decode (mX7_bestMen).2.1 5 = .ok (.iconst 1, 1) := by decide +kernel
theorem dX7_bestMen_6 : decode (mX7_bestMen).2.1 6 = .ok (.invokevirtual 313, 3) := by decide +kernel
theorem dX7_bestMen_9 : decode (mX7_bestMen).2.1 9 = .ok (.putfield 316, 3) := by decide +kernel
theorem dX7_bestMen_12 : decode (mX7_bestMen).2.1 12 = .ok (.iconst 2, 1) := by decide +kernel
theorem dX7_bestMen_13 : decode (mX7_bestMen).2.1 13 = .ok (.istore_n 3, 1) := by decide +kernel
theorem dX7_bestMen_14 : decode (mX7_bestMen).2.1 14 = .ok (.iload_n 3, 1) := by decide +kernel
theorem dX7_bestMen_15 : decode (mX7_bestMen).2.1 15 = .ok (.bipush 30, 2) := by decide +kernel
theorem dX7_bestMen_17 : decode (mX7_bestMen).2.1 17 = .ok (.if_icmp .gt 34, 3) := by decide +kernel
theorem dX7_bestMen_20 : decode (mX7_bestMen).2.1 20 = .ok (.aload_n 0, 1) := by decide +kernel
theorem dX7_bestMen_21 : decode (mX7_bestMen).2.1 21 = .ok (.iload_n 1, 1) := by decide +kernel
theorem dX7_bestMen_22 : decode (mX7_bestMen).2.1 22 = .ok (.iload_n 3, 1) := by decide +kernel
theorem dX7_bestMen_23 : decode (mX7_bestMen).2.1 23 = .ok (.invokevirtual 313, 3) := by decide +kernel
theorem dX7_bestMen_26 : decode (mX7_bestMen).2.1 26 = .ok (.istore 4, 2) := by decide +kernel
theorem dX7_bestMen_28 : decode (mX7_bestMen).2.1 28 = .ok (.iload 4, 2) := by decide +kernel
theorem dX7_bestMen_30 : decode (mX7_bestMen).2.1 30 = .ok (.aload_n 0, 1) := by decide +kernel
theorem dX7_bestMen_31 : decode (mX7_bestMen).2.1 31 = .ok (.getfield 316, 3) := by decide +kernel
theorem dX7_bestMen_34 : decode (mX7_bestMen).2.1 34 = .ok (.if_icmp .le 11, 3) := by decide +kernel
theorem dX7_bestMen_37 : decode (mX7_bestMen).2.1 37 = .ok (.iload_n 3, 1) := by decide +kernel
theorem dX7_bestMen_38 : decode (mX7_bestMen).2.1 38 = .ok (.istore_n 2, 1) := by decide +kernel
theorem dX7_bestMen_39 : decode (mX7_bestMen).2.1 39 = .ok (.aload_n 0, 1) := by decide +kernel
theorem dX7_bestMen_40 : decode (mX7_bestMen).2.1 40 = .ok (.iload 4, 2) := by decide +kernel
theorem dX7_bestMen_42 : decode (mX7_bestMen).2.1 42 = .ok (.putfield 316, 3) := by decide +kernel
theorem dX7_bestMen_45 : decode (mX7_bestMen).2.1 45 = .ok (.iinc 3 1, 3) := by decide +kernel
theorem dX7_bestMen_48 : decode (mX7_bestMen).2.1 48 = .ok (.goto (-34), 3) := by decide +kernel
theorem dX7_bestMen_51 : decode (mX7_bestMen).2.1 51 = .ok (.iload_n 2, 1) := by decide +kernel
theorem dX7_bestMen_52 : decode (mX7_bestMen).2.1 52 = .ok (.ireturn, 1) := by decide +kernel
theorem dX7_men_0 : decode (mX7_men).2.1 0 = .ok (.iload_n 1, 1) := by decide +kernel
theorem dX7_men_1 : decode (mX7_men).2.1 1 = .ok (.invokestatic 114, 3) := by decide +kernel
theorem dX7_men_4 : decode (mX7_men).2.1 4 = .ok (.ifCond .eq 13, 3) := by decide +kernel
theorem dX7_men_7 : decode (mX7_men).2.1 7 = .ok (.iload_n 2, 1) := by decide +kernel
theorem dX7_men_8 : decode (mX7_men).2.1 8 = .ok (.i2l, 1) := by decide +kernel
theorem dX7_men_9 : decode (mX7_men).2.1 9 = .ok (.lconst 0, 1) := by decide +kernel
theorem dX7_men_10 : decode (mX7_men).2.1 10 = .ok (.lconst 1, 1) := by decide +kernel
theorem dX7_men_11 : decode (mX7_men).2.1 11 = .ok (.invokestatic 96, 3) := by decide +kernel
theorem dX7_men_14 : decode (mX7_men).2.1 14 = .ok (.ifCond .ne 7, 3) := by decide +kernel
theorem dX7_men_17 : decode (mX7_men).2.1 17 = .ok (.ldc_w 294, 3) := by decide +kernel
theorem dX7_men_20 : decode (mX7_men).2.1 20 = .ok (.ireturn, 1) := by decide +kernel
theorem dX7_men_21 : decode (mX7_men).2.1 21 = .ok (.aload_n 0, 1) := by decide +kernel
theorem dX7_men_22 : decode (mX7_men).2.1 22 = .ok (.iload_n 1, 1) := by decide +kernel
theorem dX7_men_23 : decode (mX7_men).2.1 23 = .ok (.invokevirtual 319, 3) := by decide +kernel
theorem dX7_men_26 : decode (mX7_men).2.1 26 = .ok (.istore_n 3, 1) := by decide +kernel
theorem dX7_men_27 : decode (mX7_men).2.1 27 = .ok (.iload_n 2, 1) := by decide +kernel
theorem dX7_men_28 : decode (mX7_men).2.1 28 = .ok (.ifCond .ne 7, 3) := by decide +kernel
theorem dX7_men_31 : decode (mX7_men).2.1 31 = .ok (.iload_n 3, 1) := by decide +kernel
theorem dX7_men_32 : decode (mX7_men).2.1 32 = .ok (.goto 7, 3) := by decide +kernel
theorem dX7_men_35 : decode (mX7_men).2.1 35 = .ok (.aload_n 0, 1) := by decide +kernel
theorem dX7_men_36 : decode (mX7_men).2.1 36 = .ok (.getfield 316, 3) := by decide +kernel
theorem dX7_men_39 : decode (mX7_men).2.1 39 = .ok (.ireturn, 1) := by decide +kernel
theorem dX7_quarrel_0 : decode (mX7_quarrel).2.1 0 = .ok (.iload_n 1, 1) := by decide +kernel
theorem dX7_quarrel_1 : decode (mX7_quarrel).2.1 1 = .ok (.i2l, 1) := by decide +kernel
theorem dX7_quarrel_2 : decode (mX7_quarrel).2.1 2 = .ok (.lconst 0, 1) := by decide +kernel
theorem dX7_quarrel_3 : decode (mX7_quarrel).2.1 3 = .ok (.ldc2_w 322, 3) := by decide +kernel
theorem dX7_quarrel_6 : decode (mX7_quarrel).2.1 6 = .ok (.invokestatic 96, 3) := by decide +kernel
theorem dX7_quarrel_9 : decode (mX7_quarrel).2.1 9 = .ok (.ifCond .ne 6, 3) := by decide +kernel
theorem dX7_quarrel_12 : decode (mX7_quarrel).2.1 12 = .ok (.bipush (-2), 2) := by decide +kernel
theorem dX7_quarrel_14 : decode (mX7_quarrel).2.1 14 = .ok (.ireturn, 1) := by decide +kernel
theorem dX7_quarrel_15 : decode (mX7_quarrel).2.1 15 = .ok (.aload_n 0, 1) := by decide +kernel
theorem dX7_quarrel_16 : decode (mX7_quarrel).2.1 16 = .ok (.getfield 35, 3) := by decide +kernel
theorem dX7_quarrel_19 : decode (mX7_quarrel).2.1 19 = .ok (.iconst 0, 1) := by decide +kernel
theorem dX7_quarrel_20 : decode (mX7_quarrel).2.1 20 = .ok (.iaload, 1) := by decide +kernel
theorem dX7_quarrel_21 : decode (mX7_quarrel).2.1 21 = .ok (.istore_n 2, 1) := by decide +kernel
theorem dX7_quarrel_22 : decode (mX7_quarrel).2.1 22 = .ok (.aload_n 0, 1) := by decide +kernel
theorem dX7_quarrel_23 : decode (mX7_quarrel).2.1 23 = .ok (.getfield 35, 3) := by decide +kernel
theorem dX7_quarrel_26 : decode (mX7_quarrel).2.1 26 = .ok (.iconst 1, 1) := by decide +kernel
theorem dX7_quarrel_27 : decode (mX7_quarrel).2.1 27 = .ok (.iaload, 1) := by decide +kernel
theorem dX7_quarrel_28 : decode (mX7_quarrel).2.1 28 = .ok (.istore_n 3, 1) := by decide +kernel
theorem dX7_quarrel_29 : decode (mX7_quarrel).2.1 29 = .ok (.iconst 0, 1) := by decide +kernel
theorem dX7_quarrel_30 : decode (mX7_quarrel).2.1 30 = .ok (.istore 4, 2) := by decide +kernel
theorem dX7_quarrel_32 : decode (mX7_quarrel).2.1 32 = .ok (.iconst 0, 1) := by decide +kernel
theorem dX7_quarrel_33 : decode (mX7_quarrel).2.1 33 = .ok (.istore 5, 2) := by decide +kernel
theorem dX7_quarrel_35 : decode (mX7_quarrel).2.1 35 = .ok (.iconst 0, 1) := by decide +kernel
theorem dX7_quarrel_36 : decode (mX7_quarrel).2.1 36 = .ok (.istore 6, 2) := by decide +kernel
theorem dX7_quarrel_38 : decode (mX7_quarrel).2.1 38 = .ok (.iload 6, 2) := by decide +kernel
theorem dX7_quarrel_40 : decode (mX7_quarrel).2.1 40 = .ok (.bipush 8, 2) := by decide +kernel
theorem dX7_quarrel_42 : decode (mX7_quarrel).2.1 42 = .ok (.if_icmp .ge 74, 3) := by decide +kernel
theorem dX7_quarrel_45 : decode (mX7_quarrel).2.1 45 = .ok (.iload 5, 2) := by decide +kernel
theorem dX7_quarrel_47 : decode (mX7_quarrel).2.1 47 = .ok (.iconst 2, 1) := by decide +kernel
theorem dX7_quarrel_48 : decode (mX7_quarrel).2.1 48 = .ok (.if_icmp .ge 68, 3) := by decide +kernel
theorem dX7_quarrel_51 : decode (mX7_quarrel).2.1 51 = .ok (.iload 6, 2) := by decide +kernel
theorem dX7_quarrel_53 : decode (mX7_quarrel).2.1 53 = .ok (.iconst 2, 1) := by decide +kernel
theorem dX7_quarrel_54 : decode (mX7_quarrel).2.1 54 = .ok (.irem, 1) := by decide +kernel
theorem dX7_quarrel_55 : decode (mX7_quarrel).2.1 55 = .ok (.istore 7, 2) := by decide +kernel
theorem dX7_quarrel_57 : decode (mX7_quarrel).2.1 57 = .ok (.aload_n 0, 1) := by decide +kernel
theorem dX7_quarrel_58 : decode (mX7_quarrel).2.1 58 = .ok (.iload 7, 2) := by decide +kernel
theorem dX7_quarrel_60 : decode (mX7_quarrel).2.1 60 = .ok (.aload_n 0, 1) := by decide +kernel
theorem dX7_quarrel_61 : decode (mX7_quarrel).2.1 61 = .ok (.getfield 35, 3) := by decide +kernel
theorem dX7_quarrel_64 : decode (mX7_quarrel).2.1 64 = .ok (.iload 7, 2) := by decide +kernel
theorem dX7_quarrel_66 : decode (mX7_quarrel).2.1 66 = .ok (.iaload, 1) := by decide +kernel
theorem dX7_quarrel_67 : decode (mX7_quarrel).2.1 67 = .ok (.invokevirtual 313, 3) := by decide +kernel
theorem dX7_quarrel_70 : decode (mX7_quarrel).2.1 70 = .ok (.istore 8, 2) := by decide +kernel
theorem dX7_quarrel_72 : decode (mX7_quarrel).2.1 72 = .ok (.aload_n 0, 1) := by decide +kernel
theorem dX7_quarrel_73 : decode (mX7_quarrel).2.1 73 = .ok (.iload 7, 2) := by decide +kernel
theorem dX7_quarrel_75 : decode (mX7_quarrel).2.1 75 = .ok (.invokevirtual 319, 3) := by decide +kernel
theorem dX7_quarrel_78 : decode (mX7_quarrel).2.1 78 = .ok (.istore 9, 2) := by decide +kernel
theorem dX7_quarrel_80 : decode (mX7_quarrel).2.1 80 = .ok (.aload_n 0, 1) := by decide +kernel
theorem dX7_quarrel_81 : decode (mX7_quarrel).2.1 81 = .ok (.getfield 316, 3) := by decide +kernel
theorem dX7_quarrel_84 : decode (mX7_quarrel).2.1 84 = .ok (.iload 8, 2) := by decide +kernel
theorem dX7_quarrel_86 : decode (mX7_quarrel).2.1 86 = .ok (.if_icmp .le 21, 3) := by decide +kernel
theorem dX7_quarrel_89 : decode (mX7_quarrel).2.1 89 = .ok (.aload_n 0, 1) := by decide +kernel
theorem dX7_quarrel_90 : decode (mX7_quarrel).2.1 90 = .ok (.getfield 35, 3) := by decide +kernel
theorem dX7_quarrel_93 : decode (mX7_quarrel).2.1 93 = .ok (.iload 7, 2) := by decide +kernel
theorem dX7_quarrel_95 : decode (mX7_quarrel).2.1 95 = .ok (.iload 9, 2) := by decide +kernel
theorem dX7_quarrel_97 : decode (mX7_quarrel).2.1 97 = .ok (.iastore, 1) := by decide +kernel
theorem dX7_quarrel_98 : decode (mX7_quarrel).2.1 98 = .ok (.iinc 4 1, 3) := by decide +kernel
theorem dX7_quarrel_101 : decode (mX7_quarrel).2.1 101 = .ok (.iconst 0, 1) := by decide +kernel
theorem dX7_quarrel_102 : decode (mX7_quarrel).2.1 102 = .ok (.istore 5, 2) := by decide +kernel
theorem dX7_quarrel_104 : decode (mX7_quarrel).2.1 104 = .ok (.goto 6, 3) := by decide +kernel
theorem dX7_quarrel_107 : decode (mX7_quarrel).2.1 107 = .ok (.iinc 5 1, 3) := by decide +kernel
theorem dX7_quarrel_110 : decode (mX7_quarrel).2.1 110 = .ok (.iinc 6 1, 3) := by decide +kernel
theorem dX7_quarrel_113 : decode (mX7_quarrel).2.1 113 = .ok (.goto (-75), 3) := by decide +kernel
theorem dX7_quarrel_116 : decode (mX7_quarrel).2.1 116 = .ok (.iload_n 1, 1) := by decide +kernel
theorem dX7_quarrel_117 : decode (mX7_quarrel).2.1 117 = .ok (.ifCond .ne 8, 3) := by decide +kernel
theorem dX7_quarrel_120 : decode (mX7_quarrel).2.1 120 = .ok (.iload 4, 2) := by decide +kernel
theorem dX7_quarrel_122 : decode (mX7_quarrel).2.1 122 = .ok (.goto 11, 3) := by decide +kernel
theorem dX7_quarrel_125 : decode (mX7_quarrel).2.1 125 = .ok (.aload_n 0, 1) := by decide +kernel
theorem dX7_quarrel_126 : decode (mX7_quarrel).2.1 126 = .ok (.getfield 35, 3) := by decide +kernel
theorem dX7_quarrel_129 : decode (mX7_quarrel).2.1 129 = .ok (.iload_n 1, 1) := by decide +kernel
theorem dX7_quarrel_130 : decode (mX7_quarrel).2.1 130 = .ok (.iconst 1, 1) := by decide +kernel
theorem dX7_quarrel_131 : decode (mX7_quarrel).2.1 131 = .ok (.isub, 1) := by decide +kernel
theorem dX7_quarrel_132 : decode (mX7_quarrel).2.1 132 = .ok (.iaload, 1) := by decide +kernel
theorem dX7_quarrel_133 : decode (mX7_quarrel).2.1 133 = .ok (.istore 6, 2) := by decide +kernel
theorem dX7_quarrel_135 : decode (mX7_quarrel).2.1 135 = .ok (.aload_n 0, 1) := by decide +kernel
theorem dX7_quarrel_136 : decode (mX7_quarrel).2.1 136 = .ok (.getfield 35, 3) := by decide +kernel
theorem dX7_quarrel_139 : decode (mX7_quarrel).2.1 139 = .ok (.iconst 0, 1) := by decide +kernel
theorem dX7_quarrel_140 : decode (mX7_quarrel).2.1 140 = .ok (.iload_n 2, 1) := by decide +kernel
theorem dX7_quarrel_141 : decode (mX7_quarrel).2.1 141 = .ok (.iastore, 1) := by decide +kernel
theorem dX7_quarrel_142 : decode (mX7_quarrel).2.1 142 = .ok (.aload_n 0, 1) := by decide +kernel
theorem dX7_quarrel_143 : decode (mX7_quarrel).2.1 143 = .ok (.getfield 35, 3) := by decide +kernel
theorem dX7_quarrel_146 : decode (mX7_quarrel).2.1 146 = .ok (.iconst 1, 1) := by decide +kernel
theorem dX7_quarrel_147 : decode (mX7_quarrel).2.1 147 = .ok (.iload_n 3, 1) := by decide +kernel
theorem dX7_quarrel_148 : decode (mX7_quarrel).2.1 148 = .ok (.iastore, 1) := by decide +kernel
theorem dX7_quarrel_149 : decode (mX7_quarrel).2.1 149 = .ok (.iload 6, 2) := by decide +kernel
theorem dX7_quarrel_151 : decode (mX7_quarrel).2.1 151 = .ok (.ireturn, 1) := by decide +kernel
theorem dX7_bore_0 : decode (mX7_bore).2.1 0 = .ok (.iload_n 1, 1) := by decide +kernel
theorem dX7_bore_1 : decode (mX7_bore).2.1 1 = .ok (.invokestatic 100, 3) := by decide +kernel
theorem dX7_bore_4 : decode (mX7_bore).2.1 4 = .ok (.ifCond .eq 23, 3) := by decide +kernel
theorem dX7_bore_7 : decode (mX7_bore).2.1 7 = .ok (.iload_n 2, 1) := by decide +kernel
theorem dX7_bore_8 : decode (mX7_bore).2.1 8 = .ok (.i2l, 1) := by decide +kernel
theorem dX7_bore_9 : decode (mX7_bore).2.1 9 = .ok (.lconst 1, 1) := by decide +kernel
theorem dX7_bore_10 : decode (mX7_bore).2.1 10 = .ok (.ldc2_w 324, 3) := by decide +kernel
theorem dX7_bore_13 : decode (mX7_bore).2.1 13 = .ok (.invokestatic 96, 3) := by decide +kernel
theorem dX7_bore_16 : decode (mX7_bore).2.1 16 = .ok (.ifCond .eq 11, 3) := by decide +kernel
theorem dX7_bore_19 : decode (mX7_bore).2.1 19 = .ok (.iload_n 1, 1) := by decide +kernel
theorem dX7_bore_20 : decode (mX7_bore).2.1 20 = .ok (.iload_n 2, 1) := by decide +kernel
theorem dX7_bore_21 : decode (mX7_bore).2.1 21 = .ok (.iadd, 1) := by decide +kernel
theorem dX7_bore_22 : decode (mX7_bore).2.1 22 = .ok (.bipush 24, 2) := by decide +kernel
theorem dX7_bore_24 : decode (mX7_bore).2.1 24 = .ok (.if_icmp .le 6, 3) := by decide +kernel
theorem dX7_bore_27 : decode (mX7_bore).2.1 27 = .ok (.bipush (-2), 2) := by decide +kernel
theorem dX7_bore_29 : decode (mX7_bore).2.1 29 = .ok (.ireturn, 1) := by decide +kernel
theorem dX7_bore_30 : decode (mX7_bore).2.1 30 = .ok (.iconst 0, 1) := by decide +kernel
theorem dX7_bore_31 : decode (mX7_bore).2.1 31 = .ok (.istore_n 3, 1) := by decide +kernel
theorem dX7_bore_32 : decode (mX7_bore).2.1 32 = .ok (.iload_n 1, 1) := by decide +kernel
theorem dX7_bore_33 : decode (mX7_bore).2.1 33 = .ok (.istore 4, 2) := by decide +kernel
theorem dX7_bore_35 : decode (mX7_bore).2.1 35 = .ok (.iload 4, 2) := by decide +kernel
theorem dX7_bore_37 : decode (mX7_bore).2.1 37 = .ok (.iload_n 1, 1) := by decide +kernel
theorem dX7_bore_38 : decode (mX7_bore).2.1 38 = .ok (.iload_n 2, 1) := by decide +kernel
theorem dX7_bore_39 : decode (mX7_bore).2.1 39 = .ok (.iadd, 1) := by decide +kernel
theorem dX7_bore_40 : decode (mX7_bore).2.1 40 = .ok (.if_icmp .ge 29, 3) := by decide +kernel
theorem dX7_bore_43 : decode (mX7_bore).2.1 43 = .ok (.iload_n 3, 1) := by decide +kernel
theorem dX7_bore_44 : decode (mX7_bore).2.1 44 = .ok (.iconst 1, 1) := by decide +kernel
theorem dX7_bore_45 : decode (mX7_bore).2.1 45 = .ok (.aload_n 0, 1) := by decide +kernel
theorem dX7_bore_46 : decode (mX7_bore).2.1 46 = .ok (.getfield 26, 3) := by decide +kernel
theorem dX7_bore_49 : decode (mX7_bore).2.1 49 = .ok (.iload 4, 2) := by decide +kernel
theorem dX7_bore_51 : decode (mX7_bore).2.1 51 = .ok (.iaload, 1) := by decide +kernel
theorem dX7_bore_52 : decode (mX7_bore).2.1 52 = .ok (.isub, 1) := by decide +kernel
theorem dX7_bore_53 : decode (mX7_bore).2.1 53 = .ok (.iadd, 1) := by decide +kernel
theorem dX7_bore_54 : decode (mX7_bore).2.1 54 = .ok (.istore_n 3, 1) := by decide +kernel
theorem dX7_bore_55 : decode (mX7_bore).2.1 55 = .ok (.aload_n 0, 1) := by decide +kernel
theorem dX7_bore_56 : decode (mX7_bore).2.1 56 = .ok (.getfield 26, 3) := by decide +kernel
theorem dX7_bore_59 : decode (mX7_bore).2.1 59 = .ok (.iload 4, 2) := by decide +kernel
theorem dX7_bore_61 : decode (mX7_bore).2.1 61 = .ok (.iconst 1, 1) := by decide +kernel
theorem dX7_bore_62 : decode (mX7_bore).2.1 62 = .ok (.iastore, 1) := by decide +kernel
theorem dX7_bore_63 : decode (mX7_bore).2.1 63 = .ok (.iinc 4 1, 3) := by decide +kernel
theorem dX7_bore_66 : decode (mX7_bore).2.1 66 = .ok (.goto (-31), 3) := by decide +kernel
theorem dX7_bore_69 : decode (mX7_bore).2.1 69 = .ok (.iload_n 3, 1) := by decide +kernel
theorem dX7_bore_70 : decode (mX7_bore).2.1 70 = .ok (.ireturn, 1) := by decide +kernel
theorem dX7_well_0 : decode (mX7_well).2.1 0 = .ok (.iload_n 1, 1) := by decide +kernel
theorem dX7_well_1 : decode (mX7_well).2.1 1 = .ok (.invokestatic 114, 3) := by decide +kernel
theorem dX7_well_4 : decode (mX7_well).2.1 4 = .ok (.ifCond .ne 6, 3) := by decide +kernel
theorem dX7_well_7 : decode (mX7_well).2.1 7 = .ok (.bipush (-2), 2) := by decide +kernel
theorem dX7_well_9 : decode (mX7_well).2.1 9 = .ok (.ireturn, 1) := by decide +kernel
theorem dX7_well_10 : decode (mX7_well).2.1 10 = .ok (.iconst 0, 1) := by decide +kernel
theorem dX7_well_11 : decode (mX7_well).2.1 11 = .ok (.istore_n 2, 1) := by decide +kernel
theorem dX7_well_12 : decode (mX7_well).2.1 12 = .ok (.iload_n 2, 1) := by decide +kernel
theorem dX7_well_13 : decode (mX7_well).2.1 13 = .ok (.aload_n 0, 1) := by decide +kernel
theorem dX7_well_14 : decode (mX7_well).2.1 14 = .ok (.invokevirtual 137, 3) := by decide +kernel
theorem dX7_well_17 : decode (mX7_well).2.1 17 = .ok (.if_icmp .ge 43, 3) := by decide +kernel
theorem dX7_well_20 : decode (mX7_well).2.1 20 = .ok (.iload_n 1, 1) := by decide +kernel
theorem dX7_well_21 : decode (mX7_well).2.1 21 = .ok (.ifCond .ne 13, 3) := by decide +kernel
theorem dX7_well_24 : decode (mX7_well).2.1 24 = .ok (.aload_n 0, 1) := by decide +kernel
theorem dX7_well_25 : decode (mX7_well).2.1 25 = .ok (.iconst 0, 1) := by decide +kernel
theorem dX7_well_26 : decode (mX7_well).2.1 26 = .ok (.invokevirtual 275, 3) := by decide +kernel
theorem dX7_well_29 : decode (mX7_well).2.1 29 = .ok (.iload_n 2, 1) := by decide +kernel
theorem dX7_well_30 : decode (mX7_well).2.1 30 = .ok (.iadd, 1) := by decide +kernel
theorem dX7_well_31 : decode (mX7_well).2.1 31 = .ok (.goto 10, 3) := by decide +kernel
theorem dX7_well_34 : decode (mX7_well).2.1 34 = .ok (.aload_n 0, 1) := by decide +kernel
theorem dX7_well_35 : decode (mX7_well).2.1 35 = .ok (.iconst 1, 1) := by decide +kernel
theorem dX7_well_36 : decode (mX7_well).2.1 36 = .ok (.invokevirtual 275, 3) := by decide +kernel
theorem dX7_well_39 : decode (mX7_well).2.1 39 = .ok (.iload_n 2, 1) := by decide +kernel
theorem dX7_well_40 : decode (mX7_well).2.1 40 = .ok (.isub, 1) := by decide +kernel
theorem dX7_well_41 : decode (mX7_well).2.1 41 = .ok (.istore_n 3, 1) := by decide +kernel
theorem dX7_well_42 : decode (mX7_well).2.1 42 = .ok (.aload_n 0, 1) := by decide +kernel
theorem dX7_well_43 : decode (mX7_well).2.1 43 = .ok (.getfield 23, 3) := by decide +kernel
theorem dX7_well_46 : decode (mX7_well).2.1 46 = .ok (.iload_n 3, 1) := by decide +kernel
theorem dX7_well_47 : decode (mX7_well).2.1 47 = .ok (.iaload, 1) := by decide +kernel
theorem dX7_well_48 : decode (mX7_well).2.1 48 = .ok (.iconst 2, 1) := by decide +kernel
theorem dX7_well_49 : decode (mX7_well).2.1 49 = .ok (.if_icmp .lt 5, 3) := by decide +kernel
theorem dX7_well_52 : decode (mX7_well).2.1 52 = .ok (.iload_n 2, 1) := by decide +kernel
theorem dX7_well_53 : decode (mX7_well).2.1 53 = .ok (.ireturn, 1) := by decide +kernel
theorem dX7_well_54 : decode (mX7_well).2.1 54 = .ok (.iinc 2 1, 3) := by decide +kernel
theorem dX7_well_57 : decode (mX7_well).2.1 57 = .ok (.goto (-45), 3) := by decide +kernel
theorem dX7_well_60 : decode (mX7_well).2.1 60 = .ok (.iconst (-1), 1) := by decide +kernel
theorem dX7_well_61 : decode (mX7_well).2.1 61 = .ok (.ireturn, 1) := by decide +kernel
theorem dX7_slowed_0 : decode (mX7_slowed).2.1 0 = .ok (.iload_n 1, 1) := by decide +kernel
theorem dX7_slowed_1 : decode (mX7_slowed).2.1 1 = .ok (.invokestatic 114, 3) := by decide +kernel
theorem dX7_slowed_4 : decode (mX7_slowed).2.1 4 = .ok (.ifCond .eq 10, 3) := by decide +kernel
theorem dX7_slowed_7 : decode (mX7_slowed).2.1 7 = .ok (.iload_n 2, 1) := by decide +kernel
theorem dX7_slowed_8 : decode (mX7_slowed).2.1 8 = .ok (.invokestatic 326, 3) := by decide +kernel
theorem dX7_slowed_11 : decode (mX7_slowed).2.1 11 = .ok (.ifCond .ne 6, 3) := by decide +kernel
theorem dX7_slowed_14 : decode (mX7_slowed).2.1 14 = .ok (.bipush (-2), 2) := by decide +kernel
theorem dX7_slowed_16 : decode (mX7_slowed).2.1 16 = .ok (.ireturn, 1) := by decide +kernel
theorem dX7_slowed_17 : decode (mX7_slowed).2.1 17 = .ok (.aload_n 0, 1) := by decide +kernel
theorem dX7_slowed_18 : decode (mX7_slowed).2.1 18 = .ok (.getfield 74, 3) := by decide +kernel
theorem dX7_slowed_21 : decode (mX7_slowed).2.1 21 = .ok (.iload_n 2, 1) := by decide +kernel
theorem dX7_slowed_22 : decode (mX7_slowed).2.1 22 = .ok (.baload, 1) := by decide +kernel
theorem dX7_slowed_23 : decode (mX7_slowed).2.1 23 = .ok (.ifCond .ne 6, 3) := by decide +kernel
theorem dX7_slowed_26 : decode (mX7_slowed).2.1 26 = .ok (.bipush (-11), 2) := by decide +kernel
theorem dX7_slowed_28 : decode (mX7_slowed).2.1 28 = .ok (.ireturn, 1) := by decide +kernel
theorem dX7_slowed_29 : decode (mX7_slowed).2.1 29 = .ok (.aload_n 0, 1) := by decide +kernel
theorem dX7_slowed_30 : decode (mX7_slowed).2.1 30 = .ok (.invokevirtual 137, 3) := by decide +kernel
theorem dX7_slowed_33 : decode (mX7_slowed).2.1 33 = .ok (.ifCond .ne 6, 3) := by decide +kernel
theorem dX7_slowed_36 : decode (mX7_slowed).2.1 36 = .ok (.bipush (-3), 2) := by decide +kernel
theorem dX7_slowed_38 : decode (mX7_slowed).2.1 38 = .ok (.ireturn, 1) := by decide +kernel
theorem dX7_slowed_39 : decode (mX7_slowed).2.1 39 = .ok (.aload_n 0, 1) := by decide +kernel
theorem dX7_slowed_40 : decode (mX7_slowed).2.1 40 = .ok (.invokevirtual 298, 3) := by decide +kernel
theorem dX7_slowed_43 : decode (mX7_slowed).2.1 43 = .ok (.aload_n 0, 1) := by decide +kernel
theorem dX7_slowed_44 : decode (mX7_slowed).2.1 44 = .ok (.iload_n 1, 1) := by decide +kernel
theorem dX7_slowed_45 : decode (mX7_slowed).2.1 45 = .ok (.invokevirtual 275, 3) := by decide +kernel
theorem dX7_slowed_48 : decode (mX7_slowed).2.1 48 = .ok (.istore_n 3, 1) := by decide +kernel
theorem dX7_slowed_49 : decode (mX7_slowed).2.1 49 = .ok (.iconst 0, 1) := by decide +kernel
theorem dX7_slowed_50 : decode (mX7_slowed).2.1 50 = .ok (.istore 4, 2) := by decide +kernel
theorem dX7_slowed_52 : decode (mX7_slowed).2.1 52 = .ok (.iconst 0, 1) := by decide +kernel
theorem dX7_slowed_53 : decode (mX7_slowed).2.1 53 = .ok (.istore 5, 2) := by decide +kernel
theorem dX7_slowed_55 : decode (mX7_slowed).2.1 55 = .ok (.iload 5, 2) := by decide +kernel
theorem dX7_slowed_57 : decode (mX7_slowed).2.1 57 = .ok (.iconst 3, 1) := by decide +kernel
theorem dX7_slowed_58 : decode (mX7_slowed).2.1 58 = .ok (.if_icmp .gt 100, 3) := by decide +kernel
theorem dX7_slowed_61 : decode (mX7_slowed).2.1 61 = .ok (.aload_n 0, 1) := by decide +kernel
theorem dX7_slowed_62 : decode (mX7_slowed).2.1 62 = .ok (.getfield 23, 3) := by decide +kernel
theorem dX7_slowed_65 : decode (mX7_slowed).2.1 65 = .ok (.iload_n 3, 1) := by decide +kernel
theorem dX7_slowed_66 : decode (mX7_slowed).2.1 66 = .ok (.iload 5, 2) := by decide +kernel
theorem dX7_slowed_68 : decode (mX7_slowed).2.1 68 = .ok (.iastore, 1) := by decide +kernel
theorem dX7_slowed_69 : decode (mX7_slowed).2.1 69 = .ok (.iconst 1, 1) := by decide +kernel
theorem dX7_slowed_70 : decode (mX7_slowed).2.1 70 = .ok (.istore 6, 2) := by decide +kernel
theorem dX7_slowed_72 : decode (mX7_slowed).2.1 72 = .ok (.iconst 0, 1) := by decide +kernel
theorem dX7_slowed_73 : decode (mX7_slowed).2.1 73 = .ok (.istore 7, 2) := by decide +kernel
theorem dX7_slowed_75 : decode (mX7_slowed).2.1 75 = .ok (.iload 7, 2) := by decide +kernel
theorem dX7_slowed_77 : decode (mX7_slowed).2.1 77 = .ok (.aload_n 0, 1) := by decide +kernel
theorem dX7_slowed_78 : decode (mX7_slowed).2.1 78 = .ok (.getfield 81, 3) := by decide +kernel
theorem dX7_slowed_81 : decode (mX7_slowed).2.1 81 = .ok (.iload_n 2, 1) := by decide +kernel
theorem dX7_slowed_82 : decode (mX7_slowed).2.1 82 = .ok (.iaload, 1) := by decide +kernel
theorem dX7_slowed_83 : decode (mX7_slowed).2.1 83 = .ok (.if_icmp .ge 47, 3) := by decide +kernel
theorem dX7_slowed_86 : decode (mX7_slowed).2.1 86 = .ok (.iload 6, 2) := by decide +kernel
theorem dX7_slowed_88 : decode (mX7_slowed).2.1 88 = .ok (.ifCond .eq 42, 3) := by decide +kernel
theorem dX7_slowed_91 : decode (mX7_slowed).2.1 91 = .ok (.aload_n 0, 1) := by decide +kernel
theorem dX7_slowed_92 : decode (mX7_slowed).2.1 92 = .ok (.iconst (-1), 1) := by decide +kernel
theorem dX7_slowed_93 : decode (mX7_slowed).2.1 93 = .ok (.invokevirtual 282, 3) := by decide +kernel
theorem dX7_slowed_96 : decode (mX7_slowed).2.1 96 = .ok (.aload_n 0, 1) := by decide +kernel
theorem dX7_slowed_97 : decode (mX7_slowed).2.1 97 = .ok (.getfield 38, 3) := by decide +kernel
theorem dX7_slowed_100 : decode (mX7_slowed).2.1 100 = .ok (.iload_n 1, 1) := by decide +kernel
theorem dX7_slowed_101 : decode (mX7_slowed).2.1 101 = .ok (.iaload, 1) := by decide +kernel
theorem dX7_slowed_102 : decode (mX7_slowed).2.1 102 = .ok (.aload_n 0, 1) := by decide +kernel
theorem dX7_slowed_103 : decode (mX7_slowed).2.1 103 = .ok (.getfield 84, 3) := by decide +kernel
theorem dX7_slowed_106 : decode (mX7_slowed).2.1 106 = .ok (.bipush 40, 2) := by decide +kernel
theorem dX7_slowed_108 : decode (mX7_slowed).2.1 108 = .ok (.iload_n 2, 1) := by decide +kernel
theorem dX7_slowed_109 : decode (mX7_slowed).2.1 109 = .ok (.imul, 1) := by decide +kernel
theorem dX7_slowed_110 : decode (mX7_slowed).2.1 110 = .ok (.iload 7, 2) := by decide +kernel
theorem dX7_slowed_112 : decode (mX7_slowed).2.1 112 = .ok (.iadd, 1) := by decide +kernel
theorem dX7_slowed_113 : decode (mX7_slowed).2.1 113 = .ok (.iaload, 1) := by decide +kernel
theorem dX7_slowed_114 : decode (mX7_slowed).2.1 114 = .ok (.if_icmp .ne 7, 3) := by decide +kernel
theorem dX7_slowed_117 : decode (mX7_slowed).2.1 117 = .ok (.iconst 1, 1) := by decide +kernel
theorem dX7_slowed_118 : decode (mX7_slowed).2.1 118 = .ok (.goto 4, 3) := by decide +kernel
theorem dX7_slowed_121 : decode (mX7_slowed).2.1 121 = .ok (.iconst 0, 1) := by decide +kernel
theorem dX7_slowed_122 : decode (mX7_slowed).2.1 122 = .ok (.istore 6, 2) := by decide +kernel
theorem dX7_slowed_124 : decode (mX7_slowed).2.1 124 = .ok (.iinc 7 1, 3) := by decide +kernel
theorem dX7_slowed_127 : decode (mX7_slowed).2.1 127 = .ok (.goto (-52), 3) := by decide +kernel
theorem dX7_slowed_130 : decode (mX7_slowed).2.1 130 = .ok (.iload 4, 2) := by decide +kernel
theorem dX7_slowed_132 : decode (mX7_slowed).2.1 132 = .ok (.iload 6, 2) := by decide +kernel
theorem dX7_slowed_134 : decode (mX7_slowed).2.1 134 = .ok (.ifCond .eq 7, 3) := by decide +kernel
theorem dX7_slowed_137 : decode (mX7_slowed).2.1 137 = .ok (.iconst 1, 1) := by decide +kernel
theorem dX7_slowed_138 : decode (mX7_slowed).2.1 138 = .ok (.goto 4, 3) := by decide +kernel
theorem dX7_slowed_141 : decode (mX7_slowed).2.1 141 = .ok (.iconst 0, 1) := by decide +kernel
theorem dX7_slowed_142 : decode (mX7_slowed).2.1 142 = .ok (.iload 5, 2) := by decide +kernel
theorem dX7_slowed_144 : decode (mX7_slowed).2.1 144 = .ok (.ishl, 1) := by decide +kernel
theorem dX7_slowed_145 : decode (mX7_slowed).2.1 145 = .ok (.ior, 1) := by decide +kernel
theorem dX7_slowed_146 : decode (mX7_slowed).2.1 146 = .ok (.istore 4, 2) := by decide +kernel
theorem dX7_slowed_148 : decode (mX7_slowed).2.1 148 = .ok (.aload_n 0, 1) := by decide +kernel
theorem dX7_slowed_149 : decode (mX7_slowed).2.1 149 = .ok (.invokevirtual 308, 3) := by decide +kernel
theorem dX7_slowed_152 : decode (mX7_slowed).2.1 152 = .ok (.iinc 5 1, 3) := by decide +kernel
theorem dX7_slowed_155 : decode (mX7_slowed).2.1 155 = .ok (.goto (-100), 3) := by decide +kernel
theorem dX7_slowed_158 : decode (mX7_slowed).2.1 158 = .ok (.iload 4, 2) := by decide +kernel
theorem dX7_slowed_160 : decode (mX7_slowed).2.1 160 = .ok (.ireturn, 1) := by decide +kernel
theorem dX7_off_0 : decode (mX7_off).2.1 0 = .ok (.iload_n 0, 1) := by decide +kernel
theorem dX7_off_1 : decode (mX7_off).2.1 1 = .ok (.iload_n 1, 1) := by decide +kernel
theorem dX7_off_2 : decode (mX7_off).2.1 2 = .ok (.if_icmp .ge 9, 3) := by decide +kernel
theorem dX7_off_5 : decode (mX7_off).2.1 5 = .ok (.iload_n 1, 1) := by decide +kernel
theorem dX7_off_6 : decode (mX7_off).2.1 6 = .ok (.iload_n 0, 1) := by decide +kernel
theorem dX7_off_7 : decode (mX7_off).2.1 7 = .ok (.isub, 1) := by decide +kernel
theorem dX7_off_8 : decode (mX7_off).2.1 8 = .ok (.goto 6, 3) := by decide +kernel
theorem dX7_off_11 : decode (mX7_off).2.1 11 = .ok (.iload_n 0, 1) := by decide +kernel
theorem dX7_off_12 : decode (mX7_off).2.1 12 = .ok (.iload_n 1, 1) := by decide +kernel
theorem dX7_off_13 : decode (mX7_off).2.1 13 = .ok (.isub, 1) := by decide +kernel
theorem dX7_off_14 : decode (mX7_off).2.1 14 = .ok (.ireturn, 1) := by decide +kernel
theorem dX7_bet_0 : decode (mX7_bet).2.1 0 = .ok (.iload_n 1, 1) := by decide +kernel
theorem dX7_bet_1 : decode (mX7_bet).2.1 1 = .ok (.i2l, 1) := by decide +kernel
theorem dX7_bet_2 : decode (mX7_bet).2.1 2 = .ok (.lconst 0, 1) := by decide +kernel
theorem dX7_bet_3 : decode (mX7_bet).2.1 3 = .ok (.ldc2_w 324, 3) := by decide +kernel
theorem dX7_bet_6 : decode (mX7_bet).2.1 6 = .ok (.invokestatic 96, 3) := by decide +kernel
theorem dX7_bet_9 : decode (mX7_bet).2.1 9 = .ok (.ifCond .eq 27, 3) := by decide +kernel
theorem dX7_bet_12 : decode (mX7_bet).2.1 12 = .ok (.iload_n 2, 1) := by decide +kernel
theorem dX7_bet_13 : decode (mX7_bet).2.1 13 = .ok (.i2l, 1) := by decide +kernel
theorem dX7_bet_14 : decode (mX7_bet).2.1 14 = .ok (.lconst 0, 1) := by decide +kernel
theorem dX7_bet_15 : decode (mX7_bet).2.1 15 = .ok (.ldc2_w 324, 3) := by decide +kernel
theorem dX7_bet_18 : decode (mX7_bet).2.1 18 = .ok (.invokestatic 96, 3) := by decide +kernel
theorem dX7_bet_21 : decode (mX7_bet).2.1 21 = .ok (.ifCond .eq 15, 3) := by decide +kernel
theorem dX7_bet_24 : decode (mX7_bet).2.1 24 = .ok (.iload_n 3, 1) := by decide +kernel
theorem dX7_bet_25 : decode (mX7_bet).2.1 25 = .ok (.i2l, 1) := by decide +kernel
theorem dX7_bet_26 : decode (mX7_bet).2.1 26 = .ok (.lconst 0, 1) := by decide +kernel
theorem dX7_bet_27 : decode (mX7_bet).2.1 27 = .ok (.ldc2_w 324, 3) := by decide +kernel
theorem dX7_bet_30 : decode (mX7_bet).2.1 30 = .ok (.invokestatic 96, 3) := by decide +kernel
theorem dX7_bet_33 : decode (mX7_bet).2.1 33 = .ok (.ifCond .ne 6, 3) := by decide +kernel
theorem dX7_bet_36 : decode (mX7_bet).2.1 36 = .ok (.bipush (-2), 2) := by decide +kernel
theorem dX7_bet_38 : decode (mX7_bet).2.1 38 = .ok (.ireturn, 1) := by decide +kernel
theorem dX7_bet_39 : decode (mX7_bet).2.1 39 = .ok (.aload_n 0, 1) := by decide +kernel
theorem dX7_bet_40 : decode (mX7_bet).2.1 40 = .ok (.iconst 1, 1) := by decide +kernel
theorem dX7_bet_41 : decode (mX7_bet).2.1 41 = .ok (.invokevirtual 329, 3) := by decide +kernel
theorem dX7_bet_44 : decode (mX7_bet).2.1 44 = .ok (.istore 4, 2) := by decide +kernel
theorem dX7_bet_46 : decode (mX7_bet).2.1 46 = .ok (.iload_n 2, 1) := by decide +kernel
theorem dX7_bet_47 : decode (mX7_bet).2.1 47 = .ok (.iload 4, 2) := by decide +kernel
theorem dX7_bet_49 : decode (mX7_bet).2.1 49 = .ok (.invokestatic 332, 3) := by decide +kernel
theorem dX7_bet_52 : decode (mX7_bet).2.1 52 = .ok (.iload_n 1, 1) := by decide +kernel
theorem dX7_bet_53 : decode (mX7_bet).2.1 53 = .ok (.iload 4, 2) := by decide +kernel
theorem dX7_bet_55 : decode (mX7_bet).2.1 55 = .ok (.invokestatic 332, 3) := by decide +kernel
theorem dX7_bet_58 : decode (mX7_bet).2.1 58 = .ok (.if_icmp .ge 7, 3) := by decide +kernel
theorem dX7_bet_61 : decode (mX7_bet).2.1 61 = .ok (.iload_n 2, 1) := by decide +kernel
theorem dX7_bet_62 : decode (mX7_bet).2.1 62 = .ok (.goto 4, 3) := by decide +kernel
theorem dX7_bet_65 : decode (mX7_bet).2.1 65 = .ok (.iload_n 1, 1) := by decide +kernel
theorem dX7_bet_66 : decode (mX7_bet).2.1 66 = .ok (.istore 5, 2) := by decide +kernel
theorem dX7_bet_68 : decode (mX7_bet).2.1 68 = .ok (.iload_n 3, 1) := by decide +kernel
theorem dX7_bet_69 : decode (mX7_bet).2.1 69 = .ok (.iload 4, 2) := by decide +kernel
theorem dX7_bet_71 : decode (mX7_bet).2.1 71 = .ok (.invokestatic 332, 3) := by decide +kernel
theorem dX7_bet_74 : decode (mX7_bet).2.1 74 = .ok (.iload 5, 2) := by decide +kernel
theorem dX7_bet_76 : decode (mX7_bet).2.1 76 = .ok (.iload 4, 2) := by decide +kernel
theorem dX7_bet_78 : decode (mX7_bet).2.1 78 = .ok (.invokestatic 332, 3) := by decide +kernel
theorem dX7_bet_81 : decode (mX7_bet).2.1 81 = .ok (.if_icmp .ge 7, 3) := by decide +kernel
theorem dX7_bet_84 : decode (mX7_bet).2.1 84 = .ok (.iload_n 3, 1) := by decide +kernel
theorem dX7_bet_85 : decode (mX7_bet).2.1 85 = .ok (.goto 5, 3) := by decide +kernel
theorem dX7_bet_88 : decode (mX7_bet).2.1 88 = .ok (.iload 5, 2) := by decide +kernel
theorem dX7_bet_90 : decode (mX7_bet).2.1 90 = .ok (.ireturn, 1) := by decide +kernel
theorem dX7_soonest_0 : decode (mX7_soonest).2.1 0 = .ok (.iload_n 1, 1) := by decide +kernel
theorem dX7_soonest_1 : decode (mX7_soonest).2.1 1 = .ok (.i2l, 1) := by decide +kernel
theorem dX7_soonest_2 : decode (mX7_soonest).2.1 2 = .ok (.lconst 0, 1) := by decide +kernel
theorem dX7_soonest_3 : decode (mX7_soonest).2.1 3 = .ok (.lconst 1, 1) := by decide +kernel
theorem dX7_soonest_4 : decode (mX7_soonest).2.1 4 = .ok (.invokestatic 96, 3) := by decide +kernel
theorem dX7_soonest_7 : decode (mX7_soonest).2.1 7 = .ok (.ifCond .ne 6, 3) := by decide +kernel
theorem dX7_soonest_10 : decode (mX7_soonest).2.1 10 = .ok (.bipush (-2), 2) := by decide +kernel
theorem dX7_soonest_12 : decode (mX7_soonest).2.1 12 = .ok (.ireturn, 1) := by decide +kernel
theorem dX7_soonest_13 : decode (mX7_soonest).2.1 13 = .ok (.aload_n 0, 1) := by decide +kernel
theorem dX7_soonest_14 : decode (mX7_soonest).2.1 14 = .ok (.invokevirtual 298, 3) := by decide +kernel
theorem dX7_soonest_17 : decode (mX7_soonest).2.1 17 = .ok (.iconst 0, 1) := by decide +kernel
theorem dX7_soonest_18 : decode (mX7_soonest).2.1 18 = .ok (.istore_n 2, 1) := by decide +kernel
theorem dX7_soonest_19 : decode (mX7_soonest).2.1 19 = .ok (.iconst 0, 1) := by decide +kernel
theorem dX7_soonest_20 : decode (mX7_soonest).2.1 20 = .ok (.istore_n 3, 1) := by decide +kernel
theorem dX7_soonest_21 : decode (mX7_soonest).2.1 21 = .ok (.iconst 1, 1) := by decide +kernel
theorem dX7_soonest_22 : decode (mX7_soonest).2.1 22 = .ok (.istore 4, 2) := by decide +kernel
theorem dX7_soonest_24 : decode (mX7_soonest).2.1 24 = .ok (.iload 4, 2) := by decide +kernel
theorem dX7_soonest_26 : decode (mX7_soonest).2.1 26 = .ok (.bipush 20, 2) := by decide +kernel
theorem dX7_soonest_28 : decode (mX7_soonest).2.1 28 = .ok (.if_icmp .ge 60, 3) := by decide +kernel
theorem dX7_soonest_31 : decode (mX7_soonest).2.1 31 = .ok (.aload_n 0, 1) := by decide +kernel
theorem dX7_soonest_32 : decode (mX7_soonest).2.1 32 = .ok (.getfield 35, 3) := by decide +kernel
theorem dX7_soonest_35 : decode (mX7_soonest).2.1 35 = .ok (.iconst 0, 1) := by decide +kernel
theorem dX7_soonest_36 : decode (mX7_soonest).2.1 36 = .ok (.iload 4, 2) := by decide +kernel
theorem dX7_soonest_38 : decode (mX7_soonest).2.1 38 = .ok (.iastore, 1) := by decide +kernel
theorem dX7_soonest_39 : decode (mX7_soonest).2.1 39 = .ok (.aload_n 0, 1) := by decide +kernel
theorem dX7_soonest_40 : decode (mX7_soonest).2.1 40 = .ok (.getfield 35, 3) := by decide +kernel
theorem dX7_soonest_43 : decode (mX7_soonest).2.1 43 = .ok (.iconst 1, 1) := by decide +kernel
theorem dX7_soonest_44 : decode (mX7_soonest).2.1 44 = .ok (.bipush 20, 2) := by decide +kernel
theorem dX7_soonest_46 : decode (mX7_soonest).2.1 46 = .ok (.iload 4, 2) := by decide +kernel
theorem dX7_soonest_48 : decode (mX7_soonest).2.1 48 = .ok (.isub, 1) := by decide +kernel
theorem dX7_soonest_49 : decode (mX7_soonest).2.1 49 = .ok (.iastore, 1) := by decide +kernel
theorem dX7_soonest_50 : decode (mX7_soonest).2.1 50 = .ok (.aload_n 0, 1) := by decide +kernel
theorem dX7_soonest_51 : decode (mX7_soonest).2.1 51 = .ok (.iconst (-1), 1) := by decide +kernel
theorem dX7_soonest_52 : decode (mX7_soonest).2.1 52 = .ok (.iconst 0, 1) := by decide +kernel
theorem dX7_soonest_53 : decode (mX7_soonest).2.1 53 = .ok (.invokevirtual 301, 3) := by decide +kernel
theorem dX7_soonest_56 : decode (mX7_soonest).2.1 56 = .ok (.aload_n 0, 1) := by decide +kernel
theorem dX7_soonest_57 : decode (mX7_soonest).2.1 57 = .ok (.getfield 291, 3) := by decide +kernel
theorem dX7_soonest_60 : decode (mX7_soonest).2.1 60 = .ok (.istore 5, 2) := by decide +kernel
theorem dX7_soonest_62 : decode (mX7_soonest).2.1 62 = .ok (.aload_n 0, 1) := by decide +kernel
theorem dX7_soonest_63 : decode (mX7_soonest).2.1 63 = .ok (.invokevirtual 308, 3) := by decide +kernel
theorem dX7_soonest_66 : decode (mX7_soonest).2.1 66 = .ok (.iload_n 2, 1) := by decide +kernel
theorem dX7_soonest_67 : decode (mX7_soonest).2.1 67 = .ok (.ifCond .eq 9, 3) := by decide +kernel
theorem dX7_soonest_70 : decode (mX7_soonest).2.1 70 = .ok (.iload 5, 2) := by decide +kernel
theorem dX7_soonest_72 : decode (mX7_soonest).2.1 72 = .ok (.iload_n 3, 1) := by decide +kernel
theorem dX7_soonest_73 : decode (mX7_soonest).2.1 73 = .ok (.if_icmp .ge 9, 3) := by decide +kernel
theorem dX7_soonest_76 : decode (mX7_soonest).2.1 76 = .ok (.iload 4, 2) := by decide +kernel
theorem dX7_soonest_78 : decode (mX7_soonest).2.1 78 = .ok (.istore_n 2, 1) := by decide +kernel
theorem dX7_soonest_79 : decode (mX7_soonest).2.1 79 = .ok (.iload 5, 2) := by decide +kernel
theorem dX7_soonest_81 : decode (mX7_soonest).2.1 81 = .ok (.istore_n 3, 1) := by decide +kernel
theorem dX7_soonest_82 : decode (mX7_soonest).2.1 82 = .ok (.iinc 4 1, 3) := by decide +kernel
theorem dX7_soonest_85 : decode (mX7_soonest).2.1 85 = .ok (.goto (-61), 3) := by decide +kernel
theorem dX7_soonest_88 : decode (mX7_soonest).2.1 88 = .ok (.iload_n 1, 1) := by decide +kernel
theorem dX7_soonest_89 : decode (mX7_soonest).2.1 89 = .ok (.ifCond .ne 7, 3) := by decide +kernel
theorem dX7_soonest_92 : decode (mX7_soonest).2.1 92 = .ok (.iload_n 2, 1) := by decide +kernel
theorem dX7_soonest_93 : decode (mX7_soonest).2.1 93 = .ok (.goto 4, 3) := by decide +kernel
theorem dX7_soonest_96 : decode (mX7_soonest).2.1 96 = .ok (.iload_n 3, 1) := by decide +kernel
theorem dX7_soonest_97 : decode (mX7_soonest).2.1 97 = .ok (.ireturn, 1) := by decide +kernel
theorem dX7_cheapest_0 : decode (mX7_cheapest).2.1 0 = .ok (.aload_n 0, 1) := by decide +kernel
theorem dX7_cheapest_1 : decode (mX7_cheapest).2.1 1 = .ok (.invokevirtual 298, 3) := by decide +kernel
theorem dX7_cheapest_4 : decode (mX7_cheapest).2.1 4 = .ok (.iconst (-1), 1) := by decide +kernel
theorem dX7_cheapest_5 : decode (mX7_cheapest).2.1 5 = .ok (.istore_n 1, 1) := by decide +kernel
theorem dX7_cheapest_6 : decode (mX7_cheapest).2.1 6 = .ok (.iconst 0, 1) := by decide +kernel
theorem dX7_cheapest_7 : decode (mX7_cheapest).2.1 7 = .ok (.istore_n 2, 1) := by decide +kernel
theorem dX7_cheapest_8 : decode (mX7_cheapest).2.1 8 = .ok (.iload_n 2, 1) := by decide +kernel
theorem dX7_cheapest_9 : decode (mX7_cheapest).2.1 9 = .ok (.bipush 100, 2) := by decide +kernel
theorem dX7_cheapest_11 : decode (mX7_cheapest).2.1 11 = .ok (.if_icmp .gt 47, 3) := by decide +kernel
theorem dX7_cheapest_14 : decode (mX7_cheapest).2.1 14 = .ok (.iload_n 1, 1) := by decide +kernel
theorem dX7_cheapest_15 : decode (mX7_cheapest).2.1 15 = .ok (.iconst (-1), 1) := by decide +kernel
theorem dX7_cheapest_16 : decode (mX7_cheapest).2.1 16 = .ok (.if_icmp .ne 42, 3) := by decide +kernel
theorem dX7_cheapest_19 : decode (mX7_cheapest).2.1 19 = .ok (.aload_n 0, 1) := by decide +kernel
theorem dX7_cheapest_20 : decode (mX7_cheapest).2.1 20 = .ok (.iload_n 2, 1) := by decide +kernel
theorem dX7_cheapest_21 : decode (mX7_cheapest).2.1 21 = .ok (.putfield 50, 3) := by decide +kernel
theorem dX7_cheapest_24 : decode (mX7_cheapest).2.1 24 = .ok (.aload_n 0, 1) := by decide +kernel
theorem dX7_cheapest_25 : decode (mX7_cheapest).2.1 25 = .ok (.iconst (-1), 1) := by decide +kernel
theorem dX7_cheapest_26 : decode (mX7_cheapest).2.1 26 = .ok (.iconst 0, 1) := by decide +kernel
theorem dX7_cheapest_27 : decode (mX7_cheapest).2.1 27 = .ok (.invokevirtual 301, 3) := by decide +kernel
theorem dX7_cheapest_30 : decode (mX7_cheapest).2.1 30 = .ok (.aload_n 0, 1) := by decide +kernel
theorem dX7_cheapest_31 : decode (mX7_cheapest).2.1 31 = .ok (.iconst 0, 1) := by decide +kernel
theorem dX7_cheapest_32 : decode (mX7_cheapest).2.1 32 = .ok (.invokevirtual 305, 3) := by decide +kernel
theorem dX7_cheapest_35 : decode (mX7_cheapest).2.1 35 = .ok (.ifCond .lt 13, 3) := by decide +kernel
theorem dX7_cheapest_38 : decode (mX7_cheapest).2.1 38 = .ok (.aload_n 0, 1) := by decide +kernel
theorem dX7_cheapest_39 : decode (mX7_cheapest).2.1 39 = .ok (.iconst 1, 1) := by decide +kernel
theorem dX7_cheapest_40 : decode (mX7_cheapest).2.1 40 = .ok (.invokevirtual 305, 3) := by decide +kernel
theorem dX7_cheapest_43 : decode (mX7_cheapest).2.1 43 = .ok (.ifCond .lt 5, 3) := by decide +kernel
theorem dX7_cheapest_46 : decode (mX7_cheapest).2.1 46 = .ok (.iload_n 2, 1) := by decide +kernel
theorem dX7_cheapest_47 : decode (mX7_cheapest).2.1 47 = .ok (.istore_n 1, 1) := by decide +kernel
theorem dX7_cheapest_48 : decode (mX7_cheapest).2.1 48 = .ok (.aload_n 0, 1) := by decide +kernel
theorem dX7_cheapest_49 : decode (mX7_cheapest).2.1 49 = .ok (.invokevirtual 308, 3) := by decide +kernel
theorem dX7_cheapest_52 : decode (mX7_cheapest).2.1 52 = .ok (.iinc 2 5, 3) := by decide +kernel
theorem dX7_cheapest_55 : decode (mX7_cheapest).2.1 55 = .ok (.goto (-47), 3) := by decide +kernel
theorem dX7_cheapest_58 : decode (mX7_cheapest).2.1 58 = .ok (.iload_n 1, 1) := by decide +kernel
theorem dX7_cheapest_59 : decode (mX7_cheapest).2.1 59 = .ok (.ireturn, 1) := by decide +kernel
theorem dX7_drawn_0 : decode (mX7_drawn).2.1 0 = .ok (.aload_n 0, 1) := by decide +kernel
theorem dX7_drawn_1 : decode (mX7_drawn).2.1 1 = .ok (.invokevirtual 298, 3) := by decide +kernel
theorem dX7_drawn_4 : decode (mX7_drawn).2.1 4 = .ok (.iload_n 1, 1) := by decide +kernel
theorem dX7_drawn_5 : decode (mX7_drawn).2.1 5 = .ok (.istore_n 2, 1) := by decide +kernel
theorem dX7_drawn_6 : decode (mX7_drawn).2.1 6 = .ok (.aload_n 0, 1) := by decide +kernel
theorem dX7_drawn_7 : decode (mX7_drawn).2.1 7 = .ok (.getfield 38, 3) := by decide +kernel
theorem dX7_drawn_10 : decode (mX7_drawn).2.1 10 = .ok (.iconst 0, 1) := by decide +kernel
theorem dX7_drawn_11 : decode (mX7_drawn).2.1 11 = .ok (.iaload, 1) := by decide +kernel
theorem dX7_drawn_12 : decode (mX7_drawn).2.1 12 = .ok (.istore_n 3, 1) := by decide +kernel
theorem dX7_drawn_13 : decode (mX7_drawn).2.1 13 = .ok (.iload_n 3, 1) := by decide +kernel
theorem dX7_drawn_14 : decode (mX7_drawn).2.1 14 = .ok (.bipush 24, 2) := by decide +kernel
theorem dX7_drawn_16 : decode (mX7_drawn).2.1 16 = .ok (.aload_n 0, 1) := by decide +kernel
theorem dX7_drawn_17 : decode (mX7_drawn).2.1 17 = .ok (.getfield 62, 3) := by decide +kernel
theorem dX7_drawn_20 : decode (mX7_drawn).2.1 20 = .ok (.bipush 6, 2) := by decide +kernel
theorem dX7_drawn_22 : decode (mX7_drawn).2.1 22 = .ok (.iaload, 1) := by decide +kernel
theorem dX7_drawn_23 : decode (mX7_drawn).2.1 23 = .ok (.isub, 1) := by decide +kernel
theorem dX7_drawn_24 : decode (mX7_drawn).2.1 24 = .ok (.if_icmp .ge 31, 3) := by decide +kernel
theorem dX7_drawn_27 : decode (mX7_drawn).2.1 27 = .ok (.iload_n 2, 1) := by decide +kernel
theorem dX7_drawn_28 : decode (mX7_drawn).2.1 28 = .ok (.ldc_w 335, 3) := by decide +kernel
theorem dX7_drawn_31 : decode (mX7_drawn).2.1 31 = .ok (.imul, 1) := by decide +kernel
theorem dX7_drawn_32 : decode (mX7_drawn).2.1 32 = .ok (.sipush 12345, 3) := by decide +kernel
theorem dX7_drawn_35 : decode (mX7_drawn).2.1 35 = .ok (.iadd, 1) := by decide +kernel
theorem dX7_drawn_36 : decode (mX7_drawn).2.1 36 = .ok (.istore_n 2, 1) := by decide +kernel
theorem dX7_drawn_37 : decode (mX7_drawn).2.1 37 = .ok (.aload_n 0, 1) := by decide +kernel
theorem dX7_drawn_38 : decode (mX7_drawn).2.1 38 = .ok (.getfield 23, 3) := by decide +kernel
theorem dX7_drawn_41 : decode (mX7_drawn).2.1 41 = .ok (.iload_n 3, 1) := by decide +kernel
theorem dX7_drawn_42 : decode (mX7_drawn).2.1 42 = .ok (.iload_n 2, 1) := by decide +kernel
theorem dX7_drawn_43 : decode (mX7_drawn).2.1 43 = .ok (.bipush 12, 2) := by decide +kernel
theorem dX7_drawn_45 : decode (mX7_drawn).2.1 45 = .ok (.iushr, 1) := by decide +kernel
theorem dX7_drawn_46 : decode (mX7_drawn).2.1 46 = .ok (.iconst 4, 1) := by decide +kernel
theorem dX7_drawn_47 : decode (mX7_drawn).2.1 47 = .ok (.irem, 1) := by decide +kernel
theorem dX7_drawn_48 : decode (mX7_drawn).2.1 48 = .ok (.iastore, 1) := by decide +kernel
theorem dX7_drawn_49 : decode (mX7_drawn).2.1 49 = .ok (.iinc 3 1, 3) := by decide +kernel
theorem dX7_drawn_52 : decode (mX7_drawn).2.1 52 = .ok (.goto (-39), 3) := by decide +kernel
theorem dX7_drawn_55 : decode (mX7_drawn).2.1 55 = .ok (.aload_n 0, 1) := by decide +kernel
theorem dX7_drawn_56 : decode (mX7_drawn).2.1 56 = .ok (.iconst (-1), 1) := by decide +kernel
theorem dX7_drawn_57 : decode (mX7_drawn).2.1 57 = .ok (.iconst 0, 1) := by decide +kernel
theorem dX7_drawn_58 : decode (mX7_drawn).2.1 58 = .ok (.invokevirtual 301, 3) := by decide +kernel
theorem dX7_drawn_61 : decode (mX7_drawn).2.1 61 = .ok (.aload_n 0, 1) := by decide +kernel
theorem dX7_drawn_62 : decode (mX7_drawn).2.1 62 = .ok (.getfield 291, 3) := by decide +kernel
theorem dX7_drawn_65 : decode (mX7_drawn).2.1 65 = .ok (.istore_n 3, 1) := by decide +kernel
theorem dX7_drawn_66 : decode (mX7_drawn).2.1 66 = .ok (.aload_n 0, 1) := by decide +kernel
theorem dX7_drawn_67 : decode (mX7_drawn).2.1 67 = .ok (.invokevirtual 308, 3) := by decide +kernel
theorem dX7_drawn_70 : decode (mX7_drawn).2.1 70 = .ok (.iload_n 3, 1) := by decide +kernel
theorem dX7_drawn_71 : decode (mX7_drawn).2.1 71 = .ok (.ireturn, 1) := by decide +kernel
theorem dX7_lowest_0 : decode (mX7_lowest).2.1 0 = .ok (.lload_n 0, 1) := by decide +kernel
theorem dX7_lowest_1 : decode (mX7_lowest).2.1 1 = .ok (.lstore 5, 2) := by decide +kernel
theorem dX7_lowest_3 : decode (mX7_lowest).2.1 3 = .ok (.lload_n 2, 1) := by decide +kernel
theorem dX7_lowest_4 : decode (mX7_lowest).2.1 4 = .ok (.lstore 7, 2) := by decide +kernel
theorem dX7_lowest_6 : decode (mX7_lowest).2.1 6 = .ok (.lload 7, 2) := by decide +kernel
theorem dX7_lowest_8 : decode (mX7_lowest).2.1 8 = .ok (.lconst 0, 1) := by decide +kernel
theorem dX7_lowest_9 : decode (mX7_lowest).2.1 9 = .ok (.lcmp, 1) := by decide +kernel
theorem dX7_lowest_10 : decode (mX7_lowest).2.1 10 = .ok (.ifCond .eq 21, 3) := by decide +kernel
theorem dX7_lowest_13 : decode (mX7_lowest).2.1 13 = .ok (.lload 5, 2) := by decide +kernel
theorem dX7_lowest_15 : decode (mX7_lowest).2.1 15 = .ok (.lload 7, 2) := by decide +kernel
theorem dX7_lowest_17 : decode (mX7_lowest).2.1 17 = .ok (.lrem, 1) := by decide +kernel
theorem dX7_lowest_18 : decode (mX7_lowest).2.1 18 = .ok (.lstore 9, 2) := by decide +kernel
theorem dX7_lowest_20 : decode (mX7_lowest).2.1 20 = .ok (.lload 7, 2) := by decide +kernel
theorem dX7_lowest_22 : decode (mX7_lowest).2.1 22 = .ok (.lstore 5, 2) := by decide +kernel
theorem dX7_lowest_24 : decode (mX7_lowest).2.1 24 = .ok (.lload 9, 2) := by decide +kernel
theorem dX7_lowest_26 : decode (mX7_lowest).2.1 26 = .ok (.lstore 7, 2) := by decide +kernel
theorem dX7_lowest_28 : decode (mX7_lowest).2.1 28 = .ok (.goto (-22), 3) := by decide +kernel
theorem dX7_lowest_31 : decode (mX7_lowest).2.1 31 = .ok (.iload 4, 2) := by decide +kernel
theorem dX7_lowest_33 : decode (mX7_lowest).2.1 33 = .ok (.ifCond .ne 10, 3) := by decide +kernel
theorem dX7_lowest_36 : decode (mX7_lowest).2.1 36 = .ok (.lload_n 0, 1) := by decide +kernel
theorem dX7_lowest_37 : decode (mX7_lowest).2.1 37 = .ok (.lload 5, 2) := by decide +kernel
theorem dX7_lowest_39 : decode (mX7_lowest).2.1 39 = .ok (.ldiv, 1) := by decide +kernel
theorem dX7_lowest_40 : decode (mX7_lowest).2.1 40 = .ok (.goto 7, 3) := by decide +kernel
theorem dX7_lowest_43 : decode (mX7_lowest).2.1 43 = .ok (.lload_n 2, 1) := by decide +kernel
theorem dX7_lowest_44 : decode (mX7_lowest).2.1 44 = .ok (.lload 5, 2) := by decide +kernel
theorem dX7_lowest_46 : decode (mX7_lowest).2.1 46 = .ok (.ldiv, 1) := by decide +kernel
theorem dX7_lowest_47 : decode (mX7_lowest).2.1 47 = .ok (.lreturn, 1) := by decide +kernel
theorem dX7_chance_0 : decode (mX7_chance).2.1 0 = .ok (.iload_n 2, 1) := by decide +kernel
theorem dX7_chance_1 : decode (mX7_chance).2.1 1 = .ok (.i2l, 1) := by decide +kernel
theorem dX7_chance_2 : decode (mX7_chance).2.1 2 = .ok (.lconst 1, 1) := by decide +kernel
theorem dX7_chance_3 : decode (mX7_chance).2.1 3 = .ok (.ldc2_w 123, 3) := by decide +kernel
theorem dX7_chance_6 : decode (mX7_chance).2.1 6 = .ok (.invokestatic 96, 3) := by decide +kernel
theorem dX7_chance_9 : decode (mX7_chance).2.1 9 = .ok (.ifCond .eq 26, 3) := by decide +kernel
theorem dX7_chance_12 : decode (mX7_chance).2.1 12 = .ok (.iload_n 3, 1) := by decide +kernel
theorem dX7_chance_13 : decode (mX7_chance).2.1 13 = .ok (.i2l, 1) := by decide +kernel
theorem dX7_chance_14 : decode (mX7_chance).2.1 14 = .ok (.lconst 0, 1) := by decide +kernel
theorem dX7_chance_15 : decode (mX7_chance).2.1 15 = .ok (.ldc2_w 311, 3) := by decide +kernel
theorem dX7_chance_18 : decode (mX7_chance).2.1 18 = .ok (.invokestatic 96, 3) := by decide +kernel
theorem dX7_chance_21 : decode (mX7_chance).2.1 21 = .ok (.ifCond .eq 14, 3) := by decide +kernel
theorem dX7_chance_24 : decode (mX7_chance).2.1 24 = .ok (.iload 4, 2) := by decide +kernel
theorem dX7_chance_26 : decode (mX7_chance).2.1 26 = .ok (.i2l, 1) := by decide +kernel
theorem dX7_chance_27 : decode (mX7_chance).2.1 27 = .ok (.lconst 0, 1) := by decide +kernel
theorem dX7_chance_28 : decode (mX7_chance).2.1 28 = .ok (.lconst 1, 1) := by decide +kernel
theorem dX7_chance_29 : decode (mX7_chance).2.1 29 = .ok (.invokestatic 96, 3) := by decide +kernel
theorem dX7_chance_32 : decode (mX7_chance).2.1 32 = .ok (.ifCond .ne 7, 3) := by decide +kernel
theorem dX7_chance_35 : decode (mX7_chance).2.1 35 = .ok (.ldc2_w 336, 3) := by decide +kernel
theorem dX7_chance_38 : decode (mX7_chance).2.1 38 = .ok (.lreturn, 1) := by decide +kernel
theorem dX7_chance_39 : decode (mX7_chance).2.1 39 = .ok (.lconst 0, 1) := by decide +kernel
theorem dX7_chance_40 : decode (mX7_chance).2.1 40 = .ok (.lstore 5, 2) := by decide +kernel
theorem dX7_chance_42 : decode (mX7_chance).2.1 42 = .ok (.iconst 0, 1) := by decide +kernel
theorem dX7_chance_43 : decode (mX7_chance).2.1 43 = .ok (.istore 7, 2) := by decide +kernel
theorem dX7_chance_45 : decode (mX7_chance).2.1 45 = .ok (.iload 7, 2) := by decide +kernel
theorem dX7_chance_47 : decode (mX7_chance).2.1 47 = .ok (.iload_n 2, 1) := by decide +kernel
theorem dX7_chance_48 : decode (mX7_chance).2.1 48 = .ok (.if_icmp .ge 31, 3) := by decide +kernel
theorem dX7_chance_51 : decode (mX7_chance).2.1 51 = .ok (.lload 5, 2) := by decide +kernel
theorem dX7_chance_53 : decode (mX7_chance).2.1 53 = .ok (.aload_n 0, 1) := by decide +kernel
theorem dX7_chance_54 : decode (mX7_chance).2.1 54 = .ok (.iload_n 1, 1) := by decide +kernel
theorem dX7_chance_55 : decode (mX7_chance).2.1 55 = .ok (.iload 7, 2) := by decide +kernel
theorem dX7_chance_57 : decode (mX7_chance).2.1 57 = .ok (.iadd, 1) := by decide +kernel
theorem dX7_chance_58 : decode (mX7_chance).2.1 58 = .ok (.invokevirtual 338, 3) := by decide +kernel
theorem dX7_chance_61 : decode (mX7_chance).2.1 61 = .ok (.iload_n 3, 1) := by decide +kernel
theorem dX7_chance_62 : decode (mX7_chance).2.1 62 = .ok (.if_icmp .gt 7, 3) := by decide +kernel
theorem dX7_chance_65 : decode (mX7_chance).2.1 65 = .ok (.lconst 1, 1) := by decide +kernel
theorem dX7_chance_66 : decode (mX7_chance).2.1 66 = .ok (.goto 4, 3) := by decide +kernel
theorem dX7_chance_69 : decode (mX7_chance).2.1 69 = .ok (.lconst 0, 1) := by decide +kernel
theorem dX7_chance_70 : decode (mX7_chance).2.1 70 = .ok (.ladd, 1) := by decide +kernel
theorem dX7_chance_71 : decode (mX7_chance).2.1 71 = .ok (.lstore 5, 2) := by decide +kernel
theorem dX7_chance_73 : decode (mX7_chance).2.1 73 = .ok (.iinc 7 1, 3) := by decide +kernel
theorem dX7_chance_76 : decode (mX7_chance).2.1 76 = .ok (.goto (-31), 3) := by decide +kernel
theorem dX7_chance_79 : decode (mX7_chance).2.1 79 = .ok (.lload 5, 2) := by decide +kernel
theorem dX7_chance_81 : decode (mX7_chance).2.1 81 = .ok (.iload_n 2, 1) := by decide +kernel
theorem dX7_chance_82 : decode (mX7_chance).2.1 82 = .ok (.i2l, 1) := by decide +kernel
theorem dX7_chance_83 : decode (mX7_chance).2.1 83 = .ok (.iload 4, 2) := by decide +kernel
theorem dX7_chance_85 : decode (mX7_chance).2.1 85 = .ok (.invokestatic 341, 3) := by decide +kernel
theorem dX7_chance_88 : decode (mX7_chance).2.1 88 = .ok (.lreturn, 1) := by decide +kernel
theorem dX7_image_0 : decode (mX7_image).2.1 0 = .ok (.aload_n 0, 1) := by decide +kernel
theorem dX7_image_1 : decode (mX7_image).2.1 1 = .ok (.invokevirtual 298, 3) := by decide +kernel
theorem dX7_image_4 : decode (mX7_image).2.1 4 = .ok (.iconst 0, 1) := by decide +kernel
theorem dX7_image_5 : decode (mX7_image).2.1 5 = .ok (.istore_n 1, 1) := by decide +kernel
theorem dX7_image_6 : decode (mX7_image).2.1 6 = .ok (.iload_n 1, 1) := by decide +kernel
theorem dX7_image_7 : decode (mX7_image).2.1 7 = .ok (.bipush 24, 2) := by decide +kernel
theorem dX7_image_9 : decode (mX7_image).2.1 9 = .ok (.if_icmp .ge 33, 3) := by decide +kernel
theorem dX7_image_12 : decode (mX7_image).2.1 12 = .ok (.aload_n 0, 1) := by decide +kernel
theorem dX7_image_13 : decode (mX7_image).2.1 13 = .ok (.getfield 65, 3) := by decide +kernel
theorem dX7_image_16 : decode (mX7_image).2.1 16 = .ok (.iload_n 1, 1) := by decide +kernel
theorem dX7_image_17 : decode (mX7_image).2.1 17 = .ok (.aload_n 0, 1) := by decide +kernel
theorem dX7_image_18 : decode (mX7_image).2.1 18 = .ok (.getfield 56, 3) := by decide +kernel
theorem dX7_image_21 : decode (mX7_image).2.1 21 = .ok (.iload_n 1, 1) := by decide +kernel
theorem dX7_image_22 : decode (mX7_image).2.1 22 = .ok (.iaload, 1) := by decide +kernel
theorem dX7_image_23 : decode (mX7_image).2.1 23 = .ok (.iastore, 1) := by decide +kernel
theorem dX7_image_24 : decode (mX7_image).2.1 24 = .ok (.aload_n 0, 1) := by decide +kernel
theorem dX7_image_25 : decode (mX7_image).2.1 25 = .ok (.getfield 68, 3) := by decide +kernel
theorem dX7_image_28 : decode (mX7_image).2.1 28 = .ok (.iload_n 1, 1) := by decide +kernel
theorem dX7_image_29 : decode (mX7_image).2.1 29 = .ok (.aload_n 0, 1) := by decide +kernel
theorem dX7_image_30 : decode (mX7_image).2.1 30 = .ok (.getfield 59, 3) := by decide +kernel
theorem dX7_image_33 : decode (mX7_image).2.1 33 = .ok (.iload_n 1, 1) := by decide +kernel
theorem dX7_image_34 : decode (mX7_image).2.1 34 = .ok (.iaload, 1) := by decide +kernel
theorem dX7_image_35 : decode (mX7_image).2.1 35 = .ok (.iastore, 1) := by decide +kernel
theorem dX7_image_36 : decode (mX7_image).2.1 36 = .ok (.iinc 1 1, 3) := by decide +kernel
theorem dX7_image_39 : decode (mX7_image).2.1 39 = .ok (.goto (-33), 3) := by decide +kernel
theorem dX7_image_42 : decode (mX7_image).2.1 42 = .ok (.iconst 0, 1) := by decide +kernel
theorem dX7_image_43 : decode (mX7_image).2.1 43 = .ok (.istore_n 1, 1) := by decide +kernel
theorem dX7_image_44 : decode (mX7_image).2.1 44 = .ok (.iload_n 1, 1) := by decide +kernel
theorem dX7_image_45 : decode (mX7_image).2.1 45 = .ok (.bipush 10, 2) := by decide +kernel
theorem dX7_image_47 : decode (mX7_image).2.1 47 = .ok (.if_icmp .ge 21, 3) := by decide +kernel
theorem dX7_image_50 : decode (mX7_image).2.1 50 = .ok (.aload_n 0, 1) := by decide +kernel
theorem dX7_image_51 : decode (mX7_image).2.1 51 = .ok (.getfield 71, 3) := by decide +kernel
theorem dX7_image_54 : decode (mX7_image).2.1 54 = .ok (.iload_n 1, 1) := by decide +kernel
theorem dX7_image_55 : decode (mX7_image).2.1 55 = .ok (.aload_n 0, 1) := by decide +kernel
theorem dX7_image_56 : decode (mX7_image).2.1 56 = .ok (.getfield 62, 3) := by decide +kernel
theorem dX7_image_59 : decode (mX7_image).2.1 59 = .ok (.iload_n 1, 1) := by decide +kernel
theorem dX7_image_60 : decode (mX7_image).2.1 60 = .ok (.iaload, 1) := by decide +kernel
theorem dX7_image_61 : decode (mX7_image).2.1 61 = .ok (.iastore, 1) := by decide +kernel
theorem dX7_image_62 : decode (mX7_image).2.1 62 = .ok (.iinc 1 1, 3) := by decide +kernel
theorem dX7_image_65 : decode (mX7_image).2.1 65 = .ok (.goto (-21), 3) := by decide +kernel
theorem dX7_image_68 : decode (mX7_image).2.1 68 = .ok (.aload_n 0, 1) := by decide +kernel
theorem dX7_image_69 : decode (mX7_image).2.1 69 = .ok (.iconst 1, 1) := by decide +kernel
theorem dX7_image_70 : decode (mX7_image).2.1 70 = .ok (.putfield 345, 3) := by decide +kernel
theorem dX7_image_73 : decode (mX7_image).2.1 73 = .ok (.aload_n 0, 1) := by decide +kernel
theorem dX7_image_74 : decode (mX7_image).2.1 74 = .ok (.aload_n 0, 1) := by decide +kernel
theorem dX7_image_75 : decode (mX7_image).2.1 75 = .ok (.getfield 265, 3) := by decide +kernel
theorem dX7_image_78 : decode (mX7_image).2.1 78 = .ok (.putfield 348, 3) := by decide +kernel
theorem dX7_image_81 : decode (mX7_image).2.1 81 = .ok (.aload_n 0, 1) := by decide +kernel
theorem dX7_image_82 : decode (mX7_image).2.1 82 = .ok (.aload_n 0, 1) := by decide +kernel
theorem dX7_image_83 : decode (mX7_image).2.1 83 = .ok (.getfield 50, 3) := by decide +kernel
theorem dX7_image_86 : decode (mX7_image).2.1 86 = .ok (.putfield 351, 3) := by decide +kernel
theorem dX7_image_89 : decode (mX7_image).2.1 89 = .ok (.aload_n 0, 1) := by decide +kernel
theorem dX7_image_90 : decode (mX7_image).2.1 90 = .ok (.aload_n 0, 1) := by decide +kernel
theorem dX7_image_91 : decode (mX7_image).2.1 91 = .ok (.getfield 129, 3) := by decide +kernel
theorem dX7_image_94 : decode (mX7_image).2.1 94 = .ok (.putfield 354, 3) := by decide +kernel
theorem dX7_image_97 : decode (mX7_image).2.1 97 = .ok (.aload_n 0, 1) := by decide +kernel
theorem dX7_image_98 : decode (mX7_image).2.1 98 = .ok (.aload_n 0, 1) := by decide +kernel
theorem dX7_image_99 : decode (mX7_image).2.1 99 = .ok (.getfield 53, 3) := by decide +kernel
theorem dX7_image_102 : decode (mX7_image).2.1 102 = .ok (.putfield 357, 3) := by decide +kernel
theorem dX7_image_105 : decode (mX7_image).2.1 105 = .ok (.aload_n 0, 1) := by decide +kernel
theorem dX7_image_106 : decode (mX7_image).2.1 106 = .ok (.aload_n 0, 1) := by decide +kernel
theorem dX7_image_107 : decode (mX7_image).2.1 107 = .ok (.getfield 262, 3) := by decide +kernel
theorem dX7_image_110 : decode (mX7_image).2.1 110 = .ok (.putfield 360, 3) := by decide +kernel
theorem dX7_image_113 : decode (mX7_image).2.1 113 = .ok (.aload_n 0, 1) := by decide +kernel
theorem dX7_image_114 : decode (mX7_image).2.1 114 = .ok (.getfield 265, 3) := by decide +kernel
theorem dX7_image_117 : decode (mX7_image).2.1 117 = .ok (.ireturn, 1) := by decide +kernel
theorem dX7_back_0 : decode (mX7_back).2.1 0 = .ok (.aload_n 0, 1) := by decide +kernel
theorem dX7_back_1 : decode (mX7_back).2.1 1 = .ok (.getfield 345, 3) := by decide +kernel
theorem dX7_back_4 : decode (mX7_back).2.1 4 = .ok (.ifCond .ne 6, 3) := by decide +kernel
theorem dX7_back_7 : decode (mX7_back).2.1 7 = .ok (.bipush (-3), 2) := by decide +kernel
theorem dX7_back_9 : decode (mX7_back).2.1 9 = .ok (.ireturn, 1) := by decide +kernel
theorem dX7_back_10 : decode (mX7_back).2.1 10 = .ok (.iconst 0, 1) := by decide +kernel
theorem dX7_back_11 : decode (mX7_back).2.1 11 = .ok (.istore_n 1, 1) := by decide +kernel
theorem dX7_back_12 : decode (mX7_back).2.1 12 = .ok (.iload_n 1, 1) := by decide +kernel
theorem dX7_back_13 : decode (mX7_back).2.1 13 = .ok (.bipush 24, 2) := by decide +kernel
theorem dX7_back_15 : decode (mX7_back).2.1 15 = .ok (.if_icmp .ge 33, 3) := by decide +kernel
theorem dX7_back_18 : decode (mX7_back).2.1 18 = .ok (.aload_n 0, 1) := by decide +kernel
theorem dX7_back_19 : decode (mX7_back).2.1 19 = .ok (.getfield 56, 3) := by decide +kernel
theorem dX7_back_22 : decode (mX7_back).2.1 22 = .ok (.iload_n 1, 1) := by decide +kernel
theorem dX7_back_23 : decode (mX7_back).2.1 23 = .ok (.aload_n 0, 1) := by decide +kernel
theorem dX7_back_24 : decode (mX7_back).2.1 24 = .ok (.getfield 65, 3) := by decide +kernel
theorem dX7_back_27 : decode (mX7_back).2.1 27 = .ok (.iload_n 1, 1) := by decide +kernel
theorem dX7_back_28 : decode (mX7_back).2.1 28 = .ok (.iaload, 1) := by decide +kernel
theorem dX7_back_29 : decode (mX7_back).2.1 29 = .ok (.iastore, 1) := by decide +kernel
theorem dX7_back_30 : decode (mX7_back).2.1 30 = .ok (.aload_n 0, 1) := by decide +kernel
theorem dX7_back_31 : decode (mX7_back).2.1 31 = .ok (.getfield 59, 3) := by decide +kernel
theorem dX7_back_34 : decode (mX7_back).2.1 34 = .ok (.iload_n 1, 1) := by decide +kernel
theorem dX7_back_35 : decode (mX7_back).2.1 35 = .ok (.aload_n 0, 1) := by decide +kernel
theorem dX7_back_36 : decode (mX7_back).2.1 36 = .ok (.getfield 68, 3) := by decide +kernel
theorem dX7_back_39 : decode (mX7_back).2.1 39 = .ok (.iload_n 1, 1) := by decide +kernel
theorem dX7_back_40 : decode (mX7_back).2.1 40 = .ok (.iaload, 1) := by decide +kernel
theorem dX7_back_41 : decode (mX7_back).2.1 41 = .ok (.iastore, 1) := by decide +kernel
theorem dX7_back_42 : decode (mX7_back).2.1 42 = .ok (.iinc 1 1, 3) := by decide +kernel
theorem dX7_back_45 : decode (mX7_back).2.1 45 = .ok (.goto (-33), 3) := by decide +kernel
theorem dX7_back_48 : decode (mX7_back).2.1 48 = .ok (.iconst 0, 1) := by decide +kernel
theorem dX7_back_49 : decode (mX7_back).2.1 49 = .ok (.istore_n 1, 1) := by decide +kernel
theorem dX7_back_50 : decode (mX7_back).2.1 50 = .ok (.iload_n 1, 1) := by decide +kernel
theorem dX7_back_51 : decode (mX7_back).2.1 51 = .ok (.bipush 10, 2) := by decide +kernel
theorem dX7_back_53 : decode (mX7_back).2.1 53 = .ok (.if_icmp .ge 21, 3) := by decide +kernel
theorem dX7_back_56 : decode (mX7_back).2.1 56 = .ok (.aload_n 0, 1) := by decide +kernel
theorem dX7_back_57 : decode (mX7_back).2.1 57 = .ok (.getfield 62, 3) := by decide +kernel
theorem dX7_back_60 : decode (mX7_back).2.1 60 = .ok (.iload_n 1, 1) := by decide +kernel
theorem dX7_back_61 : decode (mX7_back).2.1 61 = .ok (.aload_n 0, 1) := by decide +kernel
theorem dX7_back_62 : decode (mX7_back).2.1 62 = .ok (.getfield 71, 3) := by decide +kernel
theorem dX7_back_65 : decode (mX7_back).2.1 65 = .ok (.iload_n 1, 1) := by decide +kernel
theorem dX7_back_66 : decode (mX7_back).2.1 66 = .ok (.iaload, 1) := by decide +kernel
theorem dX7_back_67 : decode (mX7_back).2.1 67 = .ok (.iastore, 1) := by decide +kernel
theorem dX7_back_68 : decode (mX7_back).2.1 68 = .ok (.iinc 1 1, 3) := by decide +kernel
theorem dX7_back_71 : decode (mX7_back).2.1 71 = .ok (.goto (-21), 3) := by decide +kernel
theorem dX7_back_74 : decode (mX7_back).2.1 74 = .ok (.aload_n 0, 1) := by decide +kernel
theorem dX7_back_75 : decode (mX7_back).2.1 75 = .ok (.aload_n 0, 1) := by decide +kernel
theorem dX7_back_76 : decode (mX7_back).2.1 76 = .ok (.getfield 348, 3) := by decide +kernel
theorem dX7_back_79 : decode (mX7_back).2.1 79 = .ok (.putfield 285, 3) := by decide +kernel
theorem dX7_back_82 : decode (mX7_back).2.1 82 = .ok (.aload_n 0, 1) := by decide +kernel
theorem dX7_back_83 : decode (mX7_back).2.1 83 = .ok (.aload_n 0, 1) := by decide +kernel
theorem dX7_back_84 : decode (mX7_back).2.1 84 = .ok (.getfield 351, 3) := by decide +kernel
theorem dX7_back_87 : decode (mX7_back).2.1 87 = .ok (.putfield 288, 3) := by decide +kernel
theorem dX7_back_90 : decode (mX7_back).2.1 90 = .ok (.aload_n 0, 1) := by decide +kernel
theorem dX7_back_91 : decode (mX7_back).2.1 91 = .ok (.invokevirtual 308, 3) := by decide +kernel
theorem dX7_back_94 : decode (mX7_back).2.1 94 = .ok (.aload_n 0, 1) := by decide +kernel
theorem dX7_back_95 : decode (mX7_back).2.1 95 = .ok (.aload_n 0, 1) := by decide +kernel
theorem dX7_back_96 : decode (mX7_back).2.1 96 = .ok (.getfield 354, 3) := by decide +kernel
theorem dX7_back_99 : decode (mX7_back).2.1 99 = .ok (.putfield 129, 3) := by decide +kernel
theorem dX7_back_102 : decode (mX7_back).2.1 102 = .ok (.aload_n 0, 1) := by decide +kernel
theorem dX7_back_103 : decode (mX7_back).2.1 103 = .ok (.aload_n 0, 1) := by decide +kernel
theorem dX7_back_104 : decode (mX7_back).2.1 104 = .ok (.getfield 357, 3) := by decide +kernel
theorem dX7_back_107 : decode (mX7_back).2.1 107 = .ok (.putfield 53, 3) := by decide +kernel
theorem dX7_back_110 : decode (mX7_back).2.1 110 = .ok (.aload_n 0, 1) := by decide +kernel
theorem dX7_back_111 : decode (mX7_back).2.1 111 = .ok (.aload_n 0, 1) := by decide +kernel
theorem dX7_back_112 : decode (mX7_back).2.1 112 = .ok (.getfield 360, 3) := by decide +kernel
theorem dX7_back_115 : decode (mX7_back).2.1 115 = .ok (.putfield 262, 3) := by decide +kernel
theorem dX7_back_118 : decode (mX7_back).2.1 118 = .ok (.aload_n 0, 1) := by decide +kernel
theorem dX7_back_119 : decode (mX7_back).2.1 119 = .ok (.getfield 265, 3) := by decide +kernel
theorem dX7_back_122 : decode (mX7_back).2.1 122 = .ok (.ireturn, 1) := by decide +kernel
theorem dX7_count_0 : decode (mX7_count).2.1 0 = .ok (.iload_n 1, 1) := by decide +kernel
theorem dX7_count_1 : decode (mX7_count).2.1 1 = .ok (.i2l, 1) := by decide +kernel
theorem dX7_count_2 : decode (mX7_count).2.1 2 = .ok (.lconst 0, 1) := by decide +kernel
theorem dX7_count_3 : decode (mX7_count).2.1 3 = .ok (.ldc2_w 363, 3) := by decide +kernel
theorem dX7_count_6 : decode (mX7_count).2.1 6 = .ok (.invokestatic 96, 3) := by decide +kernel
theorem dX7_count_9 : decode (mX7_count).2.1 9 = .ok (.ifCond .ne 6, 3) := by decide +kernel
theorem dX7_count_12 : decode (mX7_count).2.1 12 = .ok (.bipush (-2), 2) := by decide +kernel
theorem dX7_count_14 : decode (mX7_count).2.1 14 = .ok (.ireturn, 1) := by decide +kernel
theorem dX7_count_15 : decode (mX7_count).2.1 15 = .ok (.iload_n 1, 1) := by decide +kernel
theorem dX7_count_16 : decode (mX7_count).2.1 16 = .ok (.iconst 5, 1) := by decide +kernel
theorem dX7_count_17 : decode (mX7_count).2.1 17 = .ok (.if_icmp .ge 55, 3) := by decide +kernel
theorem dX7_count_20 : decode (mX7_count).2.1 20 = .ok (.iload_n 1, 1) := by decide +kernel
theorem dX7_count_21 : decode (mX7_count).2.1 21 = .ok (.ifCond .ne 10, 3) := by decide +kernel
theorem dX7_count_24 : decode (mX7_count).2.1 24 = .ok (.aload_n 0, 1) := by decide +kernel
theorem dX7_count_25 : decode (mX7_count).2.1 25 = .ok (.invokevirtual 137, 3) := by decide +kernel
theorem dX7_count_28 : decode (mX7_count).2.1 28 = .ok (.goto 43, 3) := by decide +kernel
theorem dX7_count_31 : decode (mX7_count).2.1 31 = .ok (.iload_n 1, 1) := by decide +kernel
theorem dX7_count_32 : decode (mX7_count).2.1 32 = .ok (.iconst 1, 1) := by decide +kernel
theorem dX7_count_33 : decode (mX7_count).2.1 33 = .ok (.if_icmp .ne 10, 3) := by decide +kernel
theorem dX7_count_36 : decode (mX7_count).2.1 36 = .ok (.aload_n 0, 1) := by decide +kernel
theorem dX7_count_37 : decode (mX7_count).2.1 37 = .ok (.getfield 265, 3) := by decide +kernel
theorem dX7_count_40 : decode (mX7_count).2.1 40 = .ok (.goto 31, 3) := by decide +kernel
theorem dX7_count_43 : decode (mX7_count).2.1 43 = .ok (.iload_n 1, 1) := by decide +kernel
theorem dX7_count_44 : decode (mX7_count).2.1 44 = .ok (.iconst 2, 1) := by decide +kernel
theorem dX7_count_45 : decode (mX7_count).2.1 45 = .ok (.if_icmp .ne 10, 3) := by decide +kernel
theorem dX7_count_48 : decode (mX7_count).2.1 48 = .ok (.aload_n 0, 1) := by decide +kernel
theorem dX7_count_49 : decode (mX7_count).2.1 49 = .ok (.getfield 50, 3) := by decide +kernel
theorem dX7_count_52 : decode (mX7_count).2.1 52 = .ok (.goto 19, 3) := by decide +kernel
theorem dX7_count_55 : decode (mX7_count).2.1 55 = .ok (.iload_n 1, 1) := by decide +kernel
theorem dX7_count_56 : decode (mX7_count).2.1 56 = .ok (.iconst 3, 1) := by decide +kernel
theorem dX7_count_57 : decode (mX7_count).2.1 57 = .ok (.if_icmp .ne 10, 3) := by decide +kernel
theorem dX7_count_60 : decode (mX7_count).2.1 60 = .ok (.aload_n 0, 1) := by decide +kernel
theorem dX7_count_61 : decode (mX7_count).2.1 61 = .ok (.getfield 129, 3) := by decide +kernel
theorem dX7_count_64 : decode (mX7_count).2.1 64 = .ok (.goto 7, 3) := by decide +kernel
theorem dX7_count_67 : decode (mX7_count).2.1 67 = .ok (.aload_n 0, 1) := by decide +kernel
theorem dX7_count_68 : decode (mX7_count).2.1 68 = .ok (.getfield 53, 3) := by decide +kernel
theorem dX7_count_71 : decode (mX7_count).2.1 71 = .ok (.ireturn, 1) := by decide +kernel
theorem dX7_count_72 : decode (mX7_count).2.1 72 = .ok (.iload_n 1, 1) := by decide +kernel
theorem dX7_count_73 : decode (mX7_count).2.1 73 = .ok (.iconst 5, 1) := by decide +kernel
theorem dX7_count_74 : decode (mX7_count).2.1 74 = .ok (.if_icmp .ne 10, 3) := by decide +kernel
theorem dX7_count_77 : decode (mX7_count).2.1 77 = .ok (.aload_n 0, 1) := by decide +kernel
theorem dX7_count_78 : decode (mX7_count).2.1 78 = .ok (.getfield 91, 3) := by decide +kernel
theorem dX7_count_81 : decode (mX7_count).2.1 81 = .ok (.goto 20, 3) := by decide +kernel
theorem dX7_count_84 : decode (mX7_count).2.1 84 = .ok (.iload_n 1, 1) := by decide +kernel
theorem dX7_count_85 : decode (mX7_count).2.1 85 = .ok (.bipush 6, 2) := by decide +kernel
theorem dX7_count_87 : decode (mX7_count).2.1 87 = .ok (.if_icmp .ne 10, 3) := by decide +kernel
theorem dX7_count_90 : decode (mX7_count).2.1 90 = .ok (.aload_n 0, 1) := by decide +kernel
theorem dX7_count_91 : decode (mX7_count).2.1 91 = .ok (.getfield 146, 3) := by decide +kernel
theorem dX7_count_94 : decode (mX7_count).2.1 94 = .ok (.goto 7, 3) := by decide +kernel
theorem dX7_count_97 : decode (mX7_count).2.1 97 = .ok (.aload_n 0, 1) := by decide +kernel
theorem dX7_count_98 : decode (mX7_count).2.1 98 = .ok (.getfield 262, 3) := by decide +kernel
theorem dX7_count_101 : decode (mX7_count).2.1 101 = .ok (.ireturn, 1) := by decide +kernel
theorem dX7_isSheet_0 : decode (mX7_isSheet).2.1 0 = .ok (.iload_n 0, 1) := by decide +kernel
theorem dX7_isSheet_1 : decode (mX7_isSheet).2.1 1 = .ok (.i2l, 1) := by decide +kernel
theorem dX7_isSheet_2 : decode (mX7_isSheet).2.1 2 = .ok (.lconst 0, 1) := by decide +kernel
theorem dX7_isSheet_3 : decode (mX7_isSheet).2.1 3 = .ok (.ldc2_w 104, 3) := by decide +kernel
theorem dX7_isSheet_6 : decode (mX7_isSheet).2.1 6 = .ok (.invokestatic 96, 3) := by decide +kernel
theorem dX7_isSheet_9 : decode (mX7_isSheet).2.1 9 = .ok (.ireturn, 1) := by decide +kernel
theorem dX7_sheet_0 : decode (mX7_sheet).2.1 0 = .ok (.iload_n 1, 1) := by decide +kernel
theorem dX7_sheet_1 : decode (mX7_sheet).2.1 1 = .ok (.invokestatic 326, 3) := by decide +kernel
theorem dX7_sheet_4 : decode (mX7_sheet).2.1 4 = .ok (.ifCond .eq 27, 3) := by decide +kernel
theorem dX7_sheet_7 : decode (mX7_sheet).2.1 7 = .ok (.iload_n 2, 1) := by decide +kernel
theorem dX7_sheet_8 : decode (mX7_sheet).2.1 8 = .ok (.i2l, 1) := by decide +kernel
theorem dX7_sheet_9 : decode (mX7_sheet).2.1 9 = .ok (.ldc2_w 365, 3) := by decide +kernel
theorem dX7_sheet_12 : decode (mX7_sheet).2.1 12 = .ok (.ldc2_w 322, 3) := by decide +kernel
theorem dX7_sheet_15 : decode (mX7_sheet).2.1 15 = .ok (.invokestatic 96, 3) := by decide +kernel
theorem dX7_sheet_18 : decode (mX7_sheet).2.1 18 = .ok (.ifCond .eq 13, 3) := by decide +kernel
theorem dX7_sheet_21 : decode (mX7_sheet).2.1 21 = .ok (.iload_n 2, 1) := by decide +kernel
theorem dX7_sheet_22 : decode (mX7_sheet).2.1 22 = .ok (.ifCond .lt 12, 3) := by decide +kernel
theorem dX7_sheet_25 : decode (mX7_sheet).2.1 25 = .ok (.iload_n 3, 1) := by decide +kernel
theorem dX7_sheet_26 : decode (mX7_sheet).2.1 26 = .ok (.bipush 40, 2) := by decide +kernel
theorem dX7_sheet_28 : decode (mX7_sheet).2.1 28 = .ok (.if_icmp .le 6, 3) := by decide +kernel
theorem dX7_sheet_31 : decode (mX7_sheet).2.1 31 = .ok (.bipush (-2), 2) := by decide +kernel
theorem dX7_sheet_33 : decode (mX7_sheet).2.1 33 = .ok (.ireturn, 1) := by decide +kernel
theorem dX7_sheet_34 : decode (mX7_sheet).2.1 34 = .ok (.iload_n 2, 1) := by decide +kernel
theorem dX7_sheet_35 : decode (mX7_sheet).2.1 35 = .ok (.ifCond .lt 10, 3) := by decide +kernel
theorem dX7_sheet_38 : decode (mX7_sheet).2.1 38 = .ok (.iload_n 3, 1) := by decide +kernel
theorem dX7_sheet_39 : decode (mX7_sheet).2.1 39 = .ok (.ifCond .ge 6, 3) := by decide +kernel
theorem dX7_sheet_42 : decode (mX7_sheet).2.1 42 = .ok (.bipush (-14), 2) := by decide +kernel
theorem dX7_sheet_44 : decode (mX7_sheet).2.1 44 = .ok (.ireturn, 1) := by decide +kernel
theorem dX7_sheet_45 : decode (mX7_sheet).2.1 45 = .ok (.aload_n 0, 1) := by decide +kernel
theorem dX7_sheet_46 : decode (mX7_sheet).2.1 46 = .ok (.getfield 74, 3) := by decide +kernel
theorem dX7_sheet_49 : decode (mX7_sheet).2.1 49 = .ok (.iload_n 1, 1) := by decide +kernel
theorem dX7_sheet_50 : decode (mX7_sheet).2.1 50 = .ok (.iload_n 2, 1) := by decide +kernel
theorem dX7_sheet_51 : decode (mX7_sheet).2.1 51 = .ok (.ifCond .lt 7, 3) := by decide +kernel
theorem dX7_sheet_54 : decode (mX7_sheet).2.1 54 = .ok (.iconst 1, 1) := by decide +kernel
theorem dX7_sheet_55 : decode (mX7_sheet).2.1 55 = .ok (.goto 4, 3) := by decide +kernel
theorem dX7_sheet_58 : decode (mX7_sheet).2.1 58 = .ok (.iconst 0, 1) := by decide +kernel
theorem dX7_sheet_59 : decode (mX7_sheet).2.1 59 = .ok (.bastore, 1) := by decide +kernel
theorem dX7_sheet_60 : decode (mX7_sheet).2.1 60 = .ok (.aload_n 0, 1) := by decide +kernel
theorem dX7_sheet_61 : decode (mX7_sheet).2.1 61 = .ok (.getfield 78, 3) := by decide +kernel
theorem dX7_sheet_64 : decode (mX7_sheet).2.1 64 = .ok (.iload_n 1, 1) := by decide +kernel
theorem dX7_sheet_65 : decode (mX7_sheet).2.1 65 = .ok (.iload_n 2, 1) := by decide +kernel
theorem dX7_sheet_66 : decode (mX7_sheet).2.1 66 = .ok (.iastore, 1) := by decide +kernel
theorem dX7_sheet_67 : decode (mX7_sheet).2.1 67 = .ok (.aload_n 0, 1) := by decide +kernel
theorem dX7_sheet_68 : decode (mX7_sheet).2.1 68 = .ok (.getfield 81, 3) := by decide +kernel
theorem dX7_sheet_71 : decode (mX7_sheet).2.1 71 = .ok (.iload_n 1, 1) := by decide +kernel
theorem dX7_sheet_72 : decode (mX7_sheet).2.1 72 = .ok (.iload_n 3, 1) := by decide +kernel
theorem dX7_sheet_73 : decode (mX7_sheet).2.1 73 = .ok (.iastore, 1) := by decide +kernel
theorem dX7_sheet_74 : decode (mX7_sheet).2.1 74 = .ok (.iconst 0, 1) := by decide +kernel
theorem dX7_sheet_75 : decode (mX7_sheet).2.1 75 = .ok (.istore 4, 2) := by decide +kernel
theorem dX7_sheet_77 : decode (mX7_sheet).2.1 77 = .ok (.iload 4, 2) := by decide +kernel
theorem dX7_sheet_79 : decode (mX7_sheet).2.1 79 = .ok (.iload_n 3, 1) := by decide +kernel
theorem dX7_sheet_80 : decode (mX7_sheet).2.1 80 = .ok (.if_icmp .ge 26, 3) := by decide +kernel
theorem dX7_sheet_83 : decode (mX7_sheet).2.1 83 = .ok (.iload_n 2, 1) := by decide +kernel
theorem dX7_sheet_84 : decode (mX7_sheet).2.1 84 = .ok (.ifCond .lt 22, 3) := by decide +kernel
theorem dX7_sheet_87 : decode (mX7_sheet).2.1 87 = .ok (.aload_n 0, 1) := by decide +kernel
theorem dX7_sheet_88 : decode (mX7_sheet).2.1 88 = .ok (.getfield 84, 3) := by decide +kernel
theorem dX7_sheet_91 : decode (mX7_sheet).2.1 91 = .ok (.bipush 40, 2) := by decide +kernel
theorem dX7_sheet_93 : decode (mX7_sheet).2.1 93 = .ok (.iload_n 1, 1) := by decide +kernel
theorem dX7_sheet_94 : decode (mX7_sheet).2.1 94 = .ok (.imul, 1) := by decide +kernel
theorem dX7_sheet_95 : decode (mX7_sheet).2.1 95 = .ok (.iload 4, 2) := by decide +kernel
theorem dX7_sheet_97 : decode (mX7_sheet).2.1 97 = .ok (.iadd, 1) := by decide +kernel
theorem dX7_sheet_98 : decode (mX7_sheet).2.1 98 = .ok (.iconst 0, 1) := by decide +kernel
theorem dX7_sheet_99 : decode (mX7_sheet).2.1 99 = .ok (.iastore, 1) := by decide +kernel
theorem dX7_sheet_100 : decode (mX7_sheet).2.1 100 = .ok (.iinc 4 1, 3) := by decide +kernel
theorem dX7_sheet_103 : decode (mX7_sheet).2.1 103 = .ok (.goto (-26), 3) := by decide +kernel
theorem dX7_sheet_106 : decode (mX7_sheet).2.1 106 = .ok (.iconst 1, 1) := by decide +kernel
theorem dX7_sheet_107 : decode (mX7_sheet).2.1 107 = .ok (.ireturn, 1) := by decide +kernel
theorem dX7_cell_0 : decode (mX7_cell).2.1 0 = .ok (.iload_n 1, 1) := by decide +kernel
theorem dX7_cell_1 : decode (mX7_cell).2.1 1 = .ok (.invokestatic 326, 3) := by decide +kernel
theorem dX7_cell_4 : decode (mX7_cell).2.1 4 = .ok (.ifCond .ne 6, 3) := by decide +kernel
theorem dX7_cell_7 : decode (mX7_cell).2.1 7 = .ok (.bipush (-2), 2) := by decide +kernel
theorem dX7_cell_9 : decode (mX7_cell).2.1 9 = .ok (.ireturn, 1) := by decide +kernel
theorem dX7_cell_10 : decode (mX7_cell).2.1 10 = .ok (.aload_n 0, 1) := by decide +kernel
theorem dX7_cell_11 : decode (mX7_cell).2.1 11 = .ok (.getfield 74, 3) := by decide +kernel
theorem dX7_cell_14 : decode (mX7_cell).2.1 14 = .ok (.iload_n 1, 1) := by decide +kernel
theorem dX7_cell_15 : decode (mX7_cell).2.1 15 = .ok (.baload, 1) := by decide +kernel
theorem dX7_cell_16 : decode (mX7_cell).2.1 16 = .ok (.ifCond .ne 6, 3) := by decide +kernel
theorem dX7_cell_19 : decode (mX7_cell).2.1 19 = .ok (.bipush (-11), 2) := by decide +kernel
theorem dX7_cell_21 : decode (mX7_cell).2.1 21 = .ok (.ireturn, 1) := by decide +kernel
theorem dX7_cell_22 : decode (mX7_cell).2.1 22 = .ok (.iload_n 2, 1) := by decide +kernel
theorem dX7_cell_23 : decode (mX7_cell).2.1 23 = .ok (.i2l, 1) := by decide +kernel
theorem dX7_cell_24 : decode (mX7_cell).2.1 24 = .ok (.lconst 0, 1) := by decide +kernel
theorem dX7_cell_25 : decode (mX7_cell).2.1 25 = .ok (.aload_n 0, 1) := by decide +kernel
theorem dX7_cell_26 : decode (mX7_cell).2.1 26 = .ok (.getfield 81, 3) := by decide +kernel
theorem dX7_cell_29 : decode (mX7_cell).2.1 29 = .ok (.iload_n 1, 1) := by decide +kernel
theorem dX7_cell_30 : decode (mX7_cell).2.1 30 = .ok (.iaload, 1) := by decide +kernel
theorem dX7_cell_31 : decode (mX7_cell).2.1 31 = .ok (.iconst 1, 1) := by decide +kernel
theorem dX7_cell_32 : decode (mX7_cell).2.1 32 = .ok (.isub, 1) := by decide +kernel
theorem dX7_cell_33 : decode (mX7_cell).2.1 33 = .ok (.i2l, 1) := by decide +kernel
theorem dX7_cell_34 : decode (mX7_cell).2.1 34 = .ok (.invokestatic 96, 3) := by decide +kernel
theorem dX7_cell_37 : decode (mX7_cell).2.1 37 = .ok (.ifCond .ne 6, 3) := by decide +kernel
theorem dX7_cell_40 : decode (mX7_cell).2.1 40 = .ok (.bipush (-12), 2) := by decide +kernel
theorem dX7_cell_42 : decode (mX7_cell).2.1 42 = .ok (.ireturn, 1) := by decide +kernel
theorem dX7_cell_43 : decode (mX7_cell).2.1 43 = .ok (.aload_n 0, 1) := by decide +kernel
theorem dX7_cell_44 : decode (mX7_cell).2.1 44 = .ok (.getfield 84, 3) := by decide +kernel
theorem dX7_cell_47 : decode (mX7_cell).2.1 47 = .ok (.bipush 40, 2) := by decide +kernel
theorem dX7_cell_49 : decode (mX7_cell).2.1 49 = .ok (.iload_n 1, 1) := by decide +kernel
theorem dX7_cell_50 : decode (mX7_cell).2.1 50 = .ok (.imul, 1) := by decide +kernel
theorem dX7_cell_51 : decode (mX7_cell).2.1 51 = .ok (.iload_n 2, 1) := by decide +kernel
theorem dX7_cell_52 : decode (mX7_cell).2.1 52 = .ok (.iadd, 1) := by decide +kernel
theorem dX7_cell_53 : decode (mX7_cell).2.1 53 = .ok (.aload_n 0, 1) := by decide +kernel
theorem dX7_cell_54 : decode (mX7_cell).2.1 54 = .ok (.getfield 78, 3) := by decide +kernel
theorem dX7_cell_57 : decode (mX7_cell).2.1 57 = .ok (.iload_n 1, 1) := by decide +kernel
theorem dX7_cell_58 : decode (mX7_cell).2.1 58 = .ok (.iaload, 1) := by decide +kernel
theorem dX7_cell_59 : decode (mX7_cell).2.1 59 = .ok (.ifCond .ne 8, 3) := by decide +kernel
theorem dX7_cell_62 : decode (mX7_cell).2.1 62 = .ok (.iload_n 3, 1) := by decide +kernel
theorem dX7_cell_63 : decode (mX7_cell).2.1 63 = .ok (.i2b, 1) := by decide +kernel
theorem dX7_cell_64 : decode (mX7_cell).2.1 64 = .ok (.goto 19, 3) := by decide +kernel
theorem dX7_cell_67 : decode (mX7_cell).2.1 67 = .ok (.aload_n 0, 1) := by decide +kernel
theorem dX7_cell_68 : decode (mX7_cell).2.1 68 = .ok (.getfield 78, 3) := by decide +kernel
theorem dX7_cell_71 : decode (mX7_cell).2.1 71 = .ok (.iload_n 1, 1) := by decide +kernel
theorem dX7_cell_72 : decode (mX7_cell).2.1 72 = .ok (.iaload, 1) := by decide +kernel
theorem dX7_cell_73 : decode (mX7_cell).2.1 73 = .ok (.iconst 1, 1) := by decide +kernel
theorem dX7_cell_74 : decode (mX7_cell).2.1 74 = .ok (.if_icmp .ne 8, 3) := by decide +kernel
theorem dX7_cell_77 : decode (mX7_cell).2.1 77 = .ok (.iload_n 3, 1) := by decide +kernel
theorem dX7_cell_78 : decode (mX7_cell).2.1 78 = .ok (.i2s, 1) := by decide +kernel
theorem dX7_cell_79 : decode (mX7_cell).2.1 79 = .ok (.goto 4, 3) := by decide +kernel
theorem dX7_cell_82 : decode (mX7_cell).2.1 82 = .ok (.iload_n 3, 1) := by decide +kernel
theorem dX7_cell_83 : decode (mX7_cell).2.1 83 = .ok (.iastore, 1) := by decide +kernel
theorem dX7_cell_84 : decode (mX7_cell).2.1 84 = .ok (.iconst 1, 1) := by decide +kernel
theorem dX7_cell_85 : decode (mX7_cell).2.1 85 = .ok (.ireturn, 1) := by decide +kernel
theorem dX7_copy_0 : decode (mX7_copy).2.1 0 = .ok (.iload_n 1, 1) := by decide +kernel
theorem dX7_copy_1 : decode (mX7_copy).2.1 1 = .ok (.invokestatic 326, 3) := by decide +kernel
theorem dX7_copy_4 : decode (mX7_copy).2.1 4 = .ok (.ifCond .eq 10, 3) := by decide +kernel
theorem dX7_copy_7 : decode (mX7_copy).2.1 7 = .ok (.iload_n 3, 1) := by decide +kernel
theorem dX7_copy_8 : decode (mX7_copy).2.1 8 = .ok (.invokestatic 326, 3) := by decide +kernel
theorem dX7_copy_11 : decode (mX7_copy).2.1 11 = .ok (.ifCond .ne 6, 3) := by decide +kernel
theorem dX7_copy_14 : decode (mX7_copy).2.1 14 = .ok (.bipush (-2), 2) := by decide +kernel
theorem dX7_copy_16 : decode (mX7_copy).2.1 16 = .ok (.ireturn, 1) := by decide +kernel
theorem dX7_copy_17 : decode (mX7_copy).2.1 17 = .ok (.aload_n 0, 1) := by decide +kernel
theorem dX7_copy_18 : decode (mX7_copy).2.1 18 = .ok (.getfield 74, 3) := by decide +kernel
theorem dX7_copy_21 : decode (mX7_copy).2.1 21 = .ok (.iload_n 1, 1) := by decide +kernel
theorem dX7_copy_22 : decode (mX7_copy).2.1 22 = .ok (.baload, 1) := by decide +kernel
theorem dX7_copy_23 : decode (mX7_copy).2.1 23 = .ok (.ifCond .eq 12, 3) := by decide +kernel
theorem dX7_copy_26 : decode (mX7_copy).2.1 26 = .ok (.aload_n 0, 1) := by decide +kernel
theorem dX7_copy_27 : decode (mX7_copy).2.1 27 = .ok (.getfield 74, 3) := by decide +kernel
theorem dX7_copy_30 : decode (mX7_copy).2.1 30 = .ok (.iload_n 3, 1) := by decide +kernel
theorem dX7_copy_31 : decode (mX7_copy).2.1 31 = .ok (.baload, 1) := by decide +kernel
theorem dX7_copy_32 : decode (mX7_copy).2.1 32 = .ok (.ifCond .ne 6, 3) := by decide +kernel
theorem dX7_copy_35 : decode (mX7_copy).2.1 35 = .ok (.bipush (-11), 2) := by decide +kernel
theorem dX7_copy_37 : decode (mX7_copy).2.1 37 = .ok (.ireturn, 1) := by decide +kernel
theorem dX7_copy_38 : decode (mX7_copy).2.1 38 = .ok (.aload_n 0, 1) := by decide +kernel
theorem dX7_copy_39 : decode (mX7_copy).2.1 39 = .ok (.getfield 78, 3) := by decide +kernel
theorem dX7_copy_42 : decode (mX7_copy).2.1 42 = .ok (.iload_n 1, 1) := by decide +kernel
theorem dX7_copy_43 : decode (mX7_copy).2.1 43 = .ok (.iaload, 1) := by decide +kernel
theorem dX7_copy_44 : decode (mX7_copy).2.1 44 = .ok (.aload_n 0, 1) := by decide +kernel
theorem dX7_copy_45 : decode (mX7_copy).2.1 45 = .ok (.getfield 78, 3) := by decide +kernel
theorem dX7_copy_48 : decode (mX7_copy).2.1 48 = .ok (.iload_n 3, 1) := by decide +kernel
theorem dX7_copy_49 : decode (mX7_copy).2.1 49 = .ok (.iaload, 1) := by decide +kernel
theorem dX7_copy_50 : decode (mX7_copy).2.1 50 = .ok (.if_icmp .eq 6, 3) := by decide +kernel
theorem dX7_copy_53 : decode (mX7_copy).2.1 53 = .ok (.bipush (-13), 2) := by decide +kernel
theorem dX7_copy_55 : decode (mX7_copy).2.1 55 = .ok (.ireturn, 1) := by decide +kernel
theorem dX7_copy_56 : decode (mX7_copy).2.1 56 = .ok (.iload 5, 2) := by decide +kernel
theorem dX7_copy_58 : decode (mX7_copy).2.1 58 = .ok (.ifCond .lt 39, 3) := by decide +kernel
theorem dX7_copy_61 : decode (mX7_copy).2.1 61 = .ok (.iload_n 2, 1) := by decide +kernel
theorem dX7_copy_62 : decode (mX7_copy).2.1 62 = .ok (.ifCond .lt 35, 3) := by decide +kernel
theorem dX7_copy_65 : decode (mX7_copy).2.1 65 = .ok (.iload 4, 2) := by decide +kernel
theorem dX7_copy_67 : decode (mX7_copy).2.1 67 = .ok (.ifCond .lt 30, 3) := by decide +kernel
theorem dX7_copy_70 : decode (mX7_copy).2.1 70 = .ok (.iload_n 2, 1) := by decide +kernel
theorem dX7_copy_71 : decode (mX7_copy).2.1 71 = .ok (.aload_n 0, 1) := by decide +kernel
theorem dX7_copy_72 : decode (mX7_copy).2.1 72 = .ok (.getfield 81, 3) := by decide +kernel
theorem dX7_copy_75 : decode (mX7_copy).2.1 75 = .ok (.iload_n 1, 1) := by decide +kernel
theorem dX7_copy_76 : decode (mX7_copy).2.1 76 = .ok (.iaload, 1) := by decide +kernel
theorem dX7_copy_77 : decode (mX7_copy).2.1 77 = .ok (.iload 5, 2) := by decide +kernel
theorem dX7_copy_79 : decode (mX7_copy).2.1 79 = .ok (.isub, 1) := by decide +kernel
theorem dX7_copy_80 : decode (mX7_copy).2.1 80 = .ok (.if_icmp .gt 17, 3) := by decide +kernel
theorem dX7_copy_83 : decode (mX7_copy).2.1 83 = .ok (.iload 4, 2) := by decide +kernel
theorem dX7_copy_85 : decode (mX7_copy).2.1 85 = .ok (.aload_n 0, 1) := by decide +kernel
theorem dX7_copy_86 : decode (mX7_copy).2.1 86 = .ok (.getfield 81, 3) := by decide +kernel
theorem dX7_copy_89 : decode (mX7_copy).2.1 89 = .ok (.iload_n 3, 1) := by decide +kernel
theorem dX7_copy_90 : decode (mX7_copy).2.1 90 = .ok (.iaload, 1) := by decide +kernel
theorem dX7_copy_91 : decode (mX7_copy).2.1 91 = .ok (.iload 5, 2) := by decide +kernel
theorem dX7_copy_93 : decode (mX7_copy).2.1 93 = .ok (.isub, 1) := by decide +kernel
theorem dX7_copy_94 : decode (mX7_copy).2.1 94 = .ok (.if_icmp .le 6, 3) := by decide +kernel
theorem dX7_copy_97 : decode (mX7_copy).2.1 97 = .ok (.bipush (-12), 2) := by decide +kernel
theorem dX7_copy_99 : decode (mX7_copy).2.1 99 = .ok (.ireturn, 1) := by decide +kernel
theorem dX7_copy_100 : decode (mX7_copy).2.1 100 = .ok (.iload_n 1, 1) := by decide +kernel
theorem dX7_copy_101 : decode (mX7_copy).2.1 101 = .ok (.iload_n 3, 1) := by decide +kernel
theorem dX7_copy_102 : decode (mX7_copy).2.1 102 = .ok (.if_icmp .ne 13, 3) := by decide +kernel
theorem dX7_copy_105 : decode (mX7_copy).2.1 105 = .ok (.iload_n 2, 1) := by decide +kernel
theorem dX7_copy_106 : decode (mX7_copy).2.1 106 = .ok (.iload 4, 2) := by decide +kernel
theorem dX7_copy_108 : decode (mX7_copy).2.1 108 = .ok (.if_icmp .ge 7, 3) := by decide +kernel
theorem dX7_copy_111 : decode (mX7_copy).2.1 111 = .ok (.iconst 1, 1) := by decide +kernel
theorem dX7_copy_112 : decode (mX7_copy).2.1 112 = .ok (.goto 4, 3) := by decide +kernel
theorem dX7_copy_115 : decode (mX7_copy).2.1 115 = .ok (.iconst 0, 1) := by decide +kernel
theorem dX7_copy_116 : decode (mX7_copy).2.1 116 = .ok (.istore 6, 2) := by decide +kernel
theorem dX7_copy_118 : decode (mX7_copy).2.1 118 = .ok (.iconst 0, 1) := by decide +kernel
theorem dX7_copy_119 : decode (mX7_copy).2.1 119 = .ok (.istore 7, 2) := by decide +kernel
theorem dX7_copy_121 : decode (mX7_copy).2.1 121 = .ok (.iload 7, 2) := by decide +kernel
theorem dX7_copy_123 : decode (mX7_copy).2.1 123 = .ok (.iload 5, 2) := by decide +kernel
theorem dX7_copy_125 : decode (mX7_copy).2.1 125 = .ok (.if_icmp .ge 57, 3) := by decide +kernel
theorem dX7_copy_128 : decode (mX7_copy).2.1 128 = .ok (.iload 6, 2) := by decide +kernel
theorem dX7_copy_130 : decode (mX7_copy).2.1 130 = .ok (.ifCond .eq 13, 3) := by decide +kernel
theorem dX7_copy_133 : decode (mX7_copy).2.1 133 = .ok (.iload 5, 2) := by decide +kernel
theorem dX7_copy_135 : decode (mX7_copy).2.1 135 = .ok (.iconst 1, 1) := by decide +kernel
theorem dX7_copy_136 : decode (mX7_copy).2.1 136 = .ok (.isub, 1) := by decide +kernel
theorem dX7_copy_137 : decode (mX7_copy).2.1 137 = .ok (.iload 7, 2) := by decide +kernel
theorem dX7_copy_139 : decode (mX7_copy).2.1 139 = .ok (.isub, 1) := by decide +kernel
theorem dX7_copy_140 : decode (mX7_copy).2.1 140 = .ok (.goto 5, 3) := by decide +kernel
theorem dX7_copy_143 : decode (mX7_copy).2.1 143 = .ok (.iload 7, 2) := by decide +kernel
theorem dX7_copy_145 : decode (mX7_copy).2.1 145 = .ok (.istore 8, 2) := by decide +kernel
theorem dX7_copy_147 : decode (mX7_copy).2.1 147 = .ok (.aload_n 0, 1) := by decide +kernel
theorem dX7_copy_148 : decode (mX7_copy).2.1 148 = .ok (.getfield 84, 3) := by decide +kernel
theorem dX7_copy_151 : decode (mX7_copy).2.1 151 = .ok (.bipush 40, 2) := by decide +kernel
theorem dX7_copy_153 : decode (mX7_copy).2.1 153 = .ok (.iload_n 3, 1) := by decide +kernel
theorem dX7_copy_154 : decode (mX7_copy).2.1 154 = .ok (.imul, 1) := by decide +kernel
theorem dX7_copy_155 : decode (mX7_copy).2.1 155 = .ok (.iload 4, 2) := by decide +kernel
theorem dX7_copy_157 : decode (mX7_copy).2.1 157 = .ok (.iadd, 1) := by decide +kernel
theorem dX7_copy_158 : decode (mX7_copy).2.1 158 = .ok (.iload 8, 2) := by decide +kernel
theorem dX7_copy_160 : decode (mX7_copy).2.1 160 = .ok (.iadd, 1) := by decide +kernel
theorem dX7_copy_161 : decode (mX7_copy).2.1 161 = .ok (.aload_n 0, 1) := by decide +kernel
theorem dX7_copy_162 : decode (mX7_copy).2.1 162 = .ok (.getfield 84, 3) := by decide +kernel
theorem dX7_copy_165 : decode (mX7_copy).2.1 165 = .ok (.bipush 40, 2) := by decide +kernel
theorem dX7_copy_167 : decode (mX7_copy).2.1 167 = .ok (.iload_n 1, 1) := by decide +kernel
theorem dX7_copy_168 : decode (mX7_copy).2.1 168 = .ok (.imul, 1) := by decide +kernel
theorem dX7_copy_169 : decode (mX7_copy).2.1 169 = .ok (.iload_n 2, 1) := by decide +kernel
theorem dX7_copy_170 : decode (mX7_copy).2.1 170 = .ok (.iadd, 1) := by decide +kernel
theorem dX7_copy_171 : decode (mX7_copy).2.1 171 = .ok (.iload 8, 2) := by decide +kernel
theorem dX7_copy_173 : decode (mX7_copy).2.1 173 = .ok (.iadd, 1) := by decide +kernel
theorem dX7_copy_174 : decode (mX7_copy).2.1 174 = .ok (.iaload, 1) := by decide +kernel
theorem dX7_copy_175 : decode (mX7_copy).2.1 175 = .ok (.iastore, 1) := by decide +kernel
theorem dX7_copy_176 : decode (mX7_copy).2.1 176 = .ok (.iinc 7 1, 3) := by decide +kernel
theorem dX7_copy_179 : decode (mX7_copy).2.1 179 = .ok (.goto (-58), 3) := by decide +kernel
theorem dX7_copy_182 : decode (mX7_copy).2.1 182 = .ok (.iload 5, 2) := by decide +kernel
theorem dX7_copy_184 : decode (mX7_copy).2.1 184 = .ok (.ireturn, 1) := by decide +kernel
theorem dX7_grounds_0 : decode (mX7_grounds).2.1 0 = .ok (.iload_n 1, 1) := by decide +kernel
theorem dX7_grounds_1 : decode (mX7_grounds).2.1 1 = .ok (.invokestatic 326, 3) := by decide +kernel
theorem dX7_grounds_4 : decode (mX7_grounds).2.1 4 = .ok (.ifCond .eq 28, 3) := by decide +kernel
theorem dX7_grounds_7 : decode (mX7_grounds).2.1 7 = .ok (.iload_n 2, 1) := by decide +kernel
theorem dX7_grounds_8 : decode (mX7_grounds).2.1 8 = .ok (.i2l, 1) := by decide +kernel
theorem dX7_grounds_9 : decode (mX7_grounds).2.1 9 = .ok (.lconst 0, 1) := by decide +kernel
theorem dX7_grounds_10 : decode (mX7_grounds).2.1 10 = .ok (.ldc2_w 322, 3) := by decide +kernel
theorem dX7_grounds_13 : decode (mX7_grounds).2.1 13 = .ok (.invokestatic 96, 3) := by decide +kernel
theorem dX7_grounds_16 : decode (mX7_grounds).2.1 16 = .ok (.ifCond .eq 16, 3) := by decide +kernel
theorem dX7_grounds_19 : decode (mX7_grounds).2.1 19 = .ok (.iload 4, 2) := by decide +kernel
theorem dX7_grounds_21 : decode (mX7_grounds).2.1 21 = .ok (.i2l, 1) := by decide +kernel
theorem dX7_grounds_22 : decode (mX7_grounds).2.1 22 = .ok (.lconst 0, 1) := by decide +kernel
theorem dX7_grounds_23 : decode (mX7_grounds).2.1 23 = .ok (.ldc2_w 367, 3) := by decide +kernel
theorem dX7_grounds_26 : decode (mX7_grounds).2.1 26 = .ok (.invokestatic 96, 3) := by decide +kernel
theorem dX7_grounds_29 : decode (mX7_grounds).2.1 29 = .ok (.ifCond .ne 6, 3) := by decide +kernel
theorem dX7_grounds_32 : decode (mX7_grounds).2.1 32 = .ok (.bipush (-2), 2) := by decide +kernel
theorem dX7_grounds_34 : decode (mX7_grounds).2.1 34 = .ok (.ireturn, 1) := by decide +kernel
theorem dX7_grounds_35 : decode (mX7_grounds).2.1 35 = .ok (.aload_n 0, 1) := by decide +kernel
theorem dX7_grounds_36 : decode (mX7_grounds).2.1 36 = .ok (.getfield 74, 3) := by decide +kernel
theorem dX7_grounds_39 : decode (mX7_grounds).2.1 39 = .ok (.iload_n 1, 1) := by decide +kernel
theorem dX7_grounds_40 : decode (mX7_grounds).2.1 40 = .ok (.baload, 1) := by decide +kernel
theorem dX7_grounds_41 : decode (mX7_grounds).2.1 41 = .ok (.ifCond .eq 16, 3) := by decide +kernel
theorem dX7_grounds_44 : decode (mX7_grounds).2.1 44 = .ok (.aload_n 0, 1) := by decide +kernel
theorem dX7_grounds_45 : decode (mX7_grounds).2.1 45 = .ok (.getfield 78, 3) := by decide +kernel
theorem dX7_grounds_48 : decode (mX7_grounds).2.1 48 = .ok (.iload_n 1, 1) := by decide +kernel
theorem dX7_grounds_49 : decode (mX7_grounds).2.1 49 = .ok (.iaload, 1) := by decide +kernel
theorem dX7_grounds_50 : decode (mX7_grounds).2.1 50 = .ok (.iload_n 2, 1) := by decide +kernel
theorem dX7_grounds_51 : decode (mX7_grounds).2.1 51 = .ok (.if_icmp .eq 6, 3) := by decide +kernel
theorem dX7_grounds_54 : decode (mX7_grounds).2.1 54 = .ok (.bipush (-13), 2) := by decide +kernel
theorem dX7_grounds_56 : decode (mX7_grounds).2.1 56 = .ok (.ireturn, 1) := by decide +kernel
theorem dX7_grounds_57 : decode (mX7_grounds).2.1 57 = .ok (.aload_n 0, 1) := by decide +kernel
theorem dX7_grounds_58 : decode (mX7_grounds).2.1 58 = .ok (.getfield 74, 3) := by decide +kernel
theorem dX7_grounds_61 : decode (mX7_grounds).2.1 61 = .ok (.iload_n 1, 1) := by decide +kernel
theorem dX7_grounds_62 : decode (mX7_grounds).2.1 62 = .ok (.baload, 1) := by decide +kernel
theorem dX7_grounds_63 : decode (mX7_grounds).2.1 63 = .ok (.ifCond .ne 6, 3) := by decide +kernel
theorem dX7_grounds_66 : decode (mX7_grounds).2.1 66 = .ok (.bipush (-11), 2) := by decide +kernel
theorem dX7_grounds_68 : decode (mX7_grounds).2.1 68 = .ok (.ireturn, 1) := by decide +kernel
theorem dX7_grounds_69 : decode (mX7_grounds).2.1 69 = .ok (.iconst 0, 1) := by decide +kernel
theorem dX7_grounds_70 : decode (mX7_grounds).2.1 70 = .ok (.istore 5, 2) := by decide +kernel
theorem dX7_grounds_72 : decode (mX7_grounds).2.1 72 = .ok (.iconst 0, 1) := by decide +kernel
theorem dX7_grounds_73 : decode (mX7_grounds).2.1 73 = .ok (.istore 6, 2) := by decide +kernel
theorem dX7_grounds_75 : decode (mX7_grounds).2.1 75 = .ok (.iload 6, 2) := by decide +kernel
theorem dX7_grounds_77 : decode (mX7_grounds).2.1 77 = .ok (.iload 4, 2) := by decide +kernel
theorem dX7_grounds_79 : decode (mX7_grounds).2.1 79 = .ok (.if_icmp .ge 80, 3) := by decide +kernel
theorem dX7_grounds_82 : decode (mX7_grounds).2.1 82 = .ok (.iload_n 3, 1) := by decide +kernel
theorem dX7_grounds_83 : decode (mX7_grounds).2.1 83 = .ok (.ifCond .lt 20, 3) := by decide +kernel
theorem dX7_grounds_86 : decode (mX7_grounds).2.1 86 = .ok (.iload_n 3, 1) := by decide +kernel
theorem dX7_grounds_87 : decode (mX7_grounds).2.1 87 = .ok (.aload_n 0, 1) := by decide +kernel
theorem dX7_grounds_88 : decode (mX7_grounds).2.1 88 = .ok (.getfield 81, 3) := by decide +kernel
theorem dX7_grounds_91 : decode (mX7_grounds).2.1 91 = .ok (.iload_n 1, 1) := by decide +kernel
theorem dX7_grounds_92 : decode (mX7_grounds).2.1 92 = .ok (.iaload, 1) := by decide +kernel
theorem dX7_grounds_93 : decode (mX7_grounds).2.1 93 = .ok (.iconst 2, 1) := by decide +kernel
theorem dX7_grounds_94 : decode (mX7_grounds).2.1 94 = .ok (.iload 6, 2) := by decide +kernel
theorem dX7_grounds_96 : decode (mX7_grounds).2.1 96 = .ok (.imul, 1) := by decide +kernel
theorem dX7_grounds_97 : decode (mX7_grounds).2.1 97 = .ok (.isub, 1) := by decide +kernel
theorem dX7_grounds_98 : decode (mX7_grounds).2.1 98 = .ok (.iconst 2, 1) := by decide +kernel
theorem dX7_grounds_99 : decode (mX7_grounds).2.1 99 = .ok (.isub, 1) := by decide +kernel
theorem dX7_grounds_100 : decode (mX7_grounds).2.1 100 = .ok (.if_icmp .le 6, 3) := by decide +kernel
theorem dX7_grounds_103 : decode (mX7_grounds).2.1 103 = .ok (.bipush (-12), 2) := by decide +kernel
theorem dX7_grounds_105 : decode (mX7_grounds).2.1 105 = .ok (.ireturn, 1) := by decide +kernel
theorem dX7_grounds_106 : decode (mX7_grounds).2.1 106 = .ok (.bipush 40, 2) := by decide +kernel
theorem dX7_grounds_108 : decode (mX7_grounds).2.1 108 = .ok (.iload_n 1, 1) := by decide +kernel
theorem dX7_grounds_109 : decode (mX7_grounds).2.1 109 = .ok (.imul, 1) := by decide +kernel
theorem dX7_grounds_110 : decode (mX7_grounds).2.1 110 = .ok (.iload_n 3, 1) := by decide +kernel
theorem dX7_grounds_111 : decode (mX7_grounds).2.1 111 = .ok (.iadd, 1) := by decide +kernel
theorem dX7_grounds_112 : decode (mX7_grounds).2.1 112 = .ok (.iconst 2, 1) := by decide +kernel
theorem dX7_grounds_113 : decode (mX7_grounds).2.1 113 = .ok (.iload 6, 2) := by decide +kernel
theorem dX7_grounds_115 : decode (mX7_grounds).2.1 115 = .ok (.imul, 1) := by decide +kernel
theorem dX7_grounds_116 : decode (mX7_grounds).2.1 116 = .ok (.iadd, 1) := by decide +kernel
theorem dX7_grounds_117 : decode (mX7_grounds).2.1 117 = .ok (.istore 7, 2) := by decide +kernel
theorem dX7_grounds_119 : decode (mX7_grounds).2.1 119 = .ok (.iload 5, 2) := by decide +kernel
theorem dX7_grounds_121 : decode (mX7_grounds).2.1 121 = .ok (.aload_n 0, 1) := by decide +kernel
theorem dX7_grounds_122 : decode (mX7_grounds).2.1 122 = .ok (.aload_n 0, 1) := by decide +kernel
theorem dX7_grounds_123 : decode (mX7_grounds).2.1 123 = .ok (.getfield 84, 3) := by decide +kernel
theorem dX7_grounds_126 : decode (mX7_grounds).2.1 126 = .ok (.iload 7, 2) := by decide +kernel
theorem dX7_grounds_128 : decode (mX7_grounds).2.1 128 = .ok (.iaload, 1) := by decide +kernel
theorem dX7_grounds_129 : decode (mX7_grounds).2.1 129 = .ok (.iconst 0, 1) := by decide +kernel
theorem dX7_grounds_130 : decode (mX7_grounds).2.1 130 = .ok (.aload_n 0, 1) := by decide +kernel
theorem dX7_grounds_131 : decode (mX7_grounds).2.1 131 = .ok (.getfield 84, 3) := by decide +kernel
theorem dX7_grounds_134 : decode (mX7_grounds).2.1 134 = .ok (.iload 7, 2) := by decide +kernel
theorem dX7_grounds_136 : decode (mX7_grounds).2.1 136 = .ok (.iconst 1, 1) := by decide +kernel
theorem dX7_grounds_137 : decode (mX7_grounds).2.1 137 = .ok (.iadd, 1) := by decide +kernel
theorem dX7_grounds_138 : decode (mX7_grounds).2.1 138 = .ok (.iaload, 1) := by decide +kernel
theorem dX7_grounds_139 : decode (mX7_grounds).2.1 139 = .ok (.invokevirtual 369, 3) := by decide +kernel
theorem dX7_grounds_142 : decode (mX7_grounds).2.1 142 = .ok (.ifCond .lt 7, 3) := by decide +kernel
theorem dX7_grounds_145 : decode (mX7_grounds).2.1 145 = .ok (.iconst 1, 1) := by decide +kernel
theorem dX7_grounds_146 : decode (mX7_grounds).2.1 146 = .ok (.goto 4, 3) := by decide +kernel
theorem dX7_grounds_149 : decode (mX7_grounds).2.1 149 = .ok (.iconst 0, 1) := by decide +kernel
theorem dX7_grounds_150 : decode (mX7_grounds).2.1 150 = .ok (.iadd, 1) := by decide +kernel
theorem dX7_grounds_151 : decode (mX7_grounds).2.1 151 = .ok (.istore 5, 2) := by decide +kernel
theorem dX7_grounds_153 : decode (mX7_grounds).2.1 153 = .ok (.iinc 6 1, 3) := by decide +kernel
theorem dX7_grounds_156 : decode (mX7_grounds).2.1 156 = .ok (.goto (-81), 3) := by decide +kernel
theorem dX7_grounds_159 : decode (mX7_grounds).2.1 159 = .ok (.iload 5, 2) := by decide +kernel
theorem dX7_grounds_161 : decode (mX7_grounds).2.1 161 = .ok (.ireturn, 1) := by decide +kernel
theorem dX7_over_0 : decode (mX7_over).2.1 0 = .ok (.iload_n 0, 1) := by decide +kernel
theorem dX7_over_1 : decode (mX7_over).2.1 1 = .ok (.ifCond .ne 7, 3) := by decide +kernel
theorem dX7_over_4 : decode (mX7_over).2.1 4 = .ok (.iconst (-1), 1) := by decide +kernel
theorem dX7_over_5 : decode (mX7_over).2.1 5 = .ok (.goto 27, 3) := by decide +kernel
theorem dX7_over_8 : decode (mX7_over).2.1 8 = .ok (.iload_n 0, 1) := by decide +kernel
theorem dX7_over_9 : decode (mX7_over).2.1 9 = .ok (.iconst 1, 1) := by decide +kernel
theorem dX7_over_10 : decode (mX7_over).2.1 10 = .ok (.if_icmp .eq 8, 3) := by decide +kernel
theorem dX7_over_13 : decode (mX7_over).2.1 13 = .ok (.iload_n 0, 1) := by decide +kernel
theorem dX7_over_14 : decode (mX7_over).2.1 14 = .ok (.iconst 2, 1) := by decide +kernel
theorem dX7_over_15 : decode (mX7_over).2.1 15 = .ok (.if_icmp .ne 7, 3) := by decide +kernel
theorem dX7_over_18 : decode (mX7_over).2.1 18 = .ok (.iconst 0, 1) := by decide +kernel
theorem dX7_over_19 : decode (mX7_over).2.1 19 = .ok (.goto 13, 3) := by decide +kernel
theorem dX7_over_22 : decode (mX7_over).2.1 22 = .ok (.iload_n 0, 1) := by decide +kernel
theorem dX7_over_23 : decode (mX7_over).2.1 23 = .ok (.iconst 4, 1) := by decide +kernel
theorem dX7_over_24 : decode (mX7_over).2.1 24 = .ok (.if_icmp .ne 7, 3) := by decide +kernel
theorem dX7_over_27 : decode (mX7_over).2.1 27 = .ok (.iconst 2, 1) := by decide +kernel
theorem dX7_over_28 : decode (mX7_over).2.1 28 = .ok (.goto 4, 3) := by decide +kernel
theorem dX7_over_31 : decode (mX7_over).2.1 31 = .ok (.iconst 1, 1) := by decide +kernel
theorem dX7_over_32 : decode (mX7_over).2.1 32 = .ok (.ireturn, 1) := by decide +kernel
theorem dX7_taken_0 : decode (mX7_taken).2.1 0 = .ok (.iload_n 2, 1) := by decide +kernel
theorem dX7_taken_1 : decode (mX7_taken).2.1 1 = .ok (.i2l, 1) := by decide +kernel
theorem dX7_taken_2 : decode (mX7_taken).2.1 2 = .ok (.lconst 0, 1) := by decide +kernel
theorem dX7_taken_3 : decode (mX7_taken).2.1 3 = .ok (.ldc2_w 117, 3) := by decide +kernel
theorem dX7_taken_6 : decode (mX7_taken).2.1 6 = .ok (.invokestatic 96, 3) := by decide +kernel
theorem dX7_taken_9 : decode (mX7_taken).2.1 9 = .ok (.ifCond .ne 6, 3) := by decide +kernel
theorem dX7_taken_12 : decode (mX7_taken).2.1 12 = .ok (.bipush (-2), 2) := by decide +kernel
theorem dX7_taken_14 : decode (mX7_taken).2.1 14 = .ok (.ireturn, 1) := by decide +kernel
theorem dX7_taken_15 : decode (mX7_taken).2.1 15 = .ok (.iload_n 1, 1) := by decide +kernel
theorem dX7_taken_16 : decode (mX7_taken).2.1 16 = .ok (.invokestatic 114, 3) := by decide +kernel
theorem dX7_taken_19 : decode (mX7_taken).2.1 19 = .ok (.ifCond .ne 6, 3) := by decide +kernel
theorem dX7_taken_22 : decode (mX7_taken).2.1 22 = .ok (.bipush (-11), 2) := by decide +kernel
theorem dX7_taken_24 : decode (mX7_taken).2.1 24 = .ok (.ireturn, 1) := by decide +kernel
theorem dX7_taken_25 : decode (mX7_taken).2.1 25 = .ok (.aload_n 0, 1) := by decide +kernel
theorem dX7_taken_26 : decode (mX7_taken).2.1 26 = .ok (.getfield 29, 3) := by decide +kernel
theorem dX7_taken_29 : decode (mX7_taken).2.1 29 = .ok (.iload_n 1, 1) := by decide +kernel
theorem dX7_taken_30 : decode (mX7_taken).2.1 30 = .ok (.iaload, 1) := by decide +kernel
theorem dX7_taken_31 : decode (mX7_taken).2.1 31 = .ok (.istore_n 3, 1) := by decide +kernel
theorem dX7_taken_32 : decode (mX7_taken).2.1 32 = .ok (.iload_n 3, 1) := by decide +kernel
theorem dX7_taken_33 : decode (mX7_taken).2.1 33 = .ok (.iconst (-1), 1) := by decide +kernel
theorem dX7_taken_34 : decode (mX7_taken).2.1 34 = .ok (.if_icmp .eq 16, 3) := by decide +kernel
theorem dX7_taken_37 : decode (mX7_taken).2.1 37 = .ok (.iload_n 3, 1) := by decide +kernel
theorem dX7_taken_38 : decode (mX7_taken).2.1 38 = .ok (.iload_n 2, 1) := by decide +kernel
theorem dX7_taken_39 : decode (mX7_taken).2.1 39 = .ok (.if_icmp .eq 11, 3) := by decide +kernel
theorem dX7_taken_42 : decode (mX7_taken).2.1 42 = .ok (.iload_n 3, 1) := by decide +kernel
theorem dX7_taken_43 : decode (mX7_taken).2.1 43 = .ok (.invokestatic 372, 3) := by decide +kernel
theorem dX7_taken_46 : decode (mX7_taken).2.1 46 = .ok (.istore_n 3, 1) := by decide +kernel
theorem dX7_taken_47 : decode (mX7_taken).2.1 47 = .ok (.goto (-15), 3) := by decide +kernel
theorem dX7_taken_50 : decode (mX7_taken).2.1 50 = .ok (.iload_n 3, 1) := by decide +kernel
theorem dX7_taken_51 : decode (mX7_taken).2.1 51 = .ok (.iload_n 2, 1) := by decide +kernel
theorem dX7_taken_52 : decode (mX7_taken).2.1 52 = .ok (.if_icmp .ne 12, 3) := by decide +kernel
theorem dX7_taken_55 : decode (mX7_taken).2.1 55 = .ok (.aload_n 0, 1) := by decide +kernel
theorem dX7_taken_56 : decode (mX7_taken).2.1 56 = .ok (.getfield 32, 3) := by decide +kernel
theorem dX7_taken_59 : decode (mX7_taken).2.1 59 = .ok (.iload_n 1, 1) := by decide +kernel
theorem dX7_taken_60 : decode (mX7_taken).2.1 60 = .ok (.iaload, 1) := by decide +kernel
theorem dX7_taken_61 : decode (mX7_taken).2.1 61 = .ok (.goto 5, 3) := by decide +kernel
theorem dX7_taken_64 : decode (mX7_taken).2.1 64 = .ok (.bipush (-13), 2) := by decide +kernel
theorem dX7_taken_66 : decode (mX7_taken).2.1 66 = .ok (.ireturn, 1) := by decide +kernel
theorem dJ11_isValidCodePoint_9a6ad_0 : decode (mJ11_isValidCodePoint_9a6ad).2.1 0 = .ok (.iload_n 0, 1) := by decide +kernel
theorem dJ11_isValidCodePoint_9a6ad_1 : decode (mJ11_isValidCodePoint_9a6ad).2.1 1 = .ok (.bipush 16, 2) := by decide +kernel
theorem dJ11_isValidCodePoint_9a6ad_3 : decode (mJ11_isValidCodePoint_9a6ad).2.1 3 = .ok (.iushr, 1) := by decide +kernel
theorem dJ11_isValidCodePoint_9a6ad_4 : decode (mJ11_isValidCodePoint_9a6ad).2.1 4 = .ok (.istore_n 1, 1) := by decide +kernel
theorem dJ11_isValidCodePoint_9a6ad_5 : decode (mJ11_isValidCodePoint_9a6ad).2.1 5 = .ok (.iload_n 1, 1) := by decide +kernel
theorem dJ11_isValidCodePoint_9a6ad_6 : decode (mJ11_isValidCodePoint_9a6ad).2.1 6 = .ok (.bipush 17, 2) := by decide +kernel
theorem dJ11_isValidCodePoint_9a6ad_8 : decode (mJ11_isValidCodePoint_9a6ad).2.1 8 = .ok (.if_icmp .ge 7, 3) := by decide +kernel
theorem dJ11_isValidCodePoint_9a6ad_11 : decode (mJ11_isValidCodePoint_9a6ad).2.1 11 = .ok (.iconst 1, 1) := by decide +kernel
theorem dJ11_isValidCodePoint_9a6ad_12 : decode (mJ11_isValidCodePoint_9a6ad).2.1 12 = .ok (.goto 4, 3) := by decide +kernel
theorem dJ11_isValidCodePoint_9a6ad_15 : decode (mJ11_isValidCodePoint_9a6ad).2.1 15 = .ok (.iconst 0, 1) := by decide +kernel
theorem dJ11_isValidCodePoint_9a6ad_16 : decode (mJ11_isValidCodePoint_9a6ad).2.1 16 = .ok (.ireturn, 1) := by decide +kernel
theorem dJ11_highSurrogate_5068e_0 : decode (mJ11_highSurrogate_5068e).2.1 0 = .ok (.iload_n 0, 1) := by decide +kernel
theorem dJ11_highSurrogate_5068e_1 : decode (mJ11_highSurrogate_5068e).2.1 1 = .ok (.bipush 10, 2) := by decide +kernel
theorem dJ11_highSurrogate_5068e_3 : decode (mJ11_highSurrogate_5068e).2.1 3 = .ok (.iushr, 1) := by decide +kernel
theorem dJ11_highSurrogate_5068e_4 : decode (mJ11_highSurrogate_5068e).2.1 4 = .ok (.ldc 110, 2) := by decide +kernel
theorem dJ11_highSurrogate_5068e_6 : decode (mJ11_highSurrogate_5068e).2.1 6 = .ok (.iadd, 1) := by decide +kernel
theorem dJ11_highSurrogate_5068e_7 : decode (mJ11_highSurrogate_5068e).2.1 7 = .ok (.i2c, 1) := by decide +kernel
theorem dJ11_highSurrogate_5068e_8 : decode (mJ11_highSurrogate_5068e).2.1 8 = .ok (.ireturn, 1) := by decide +kernel
theorem dJ11_lowSurrogate_5068e_0 : decode (mJ11_lowSurrogate_5068e).2.1 0 = .ok (.iload_n 0, 1) := by decide +kernel
theorem dJ11_lowSurrogate_5068e_1 : decode (mJ11_lowSurrogate_5068e).2.1 1 = .ok (.sipush 1023, 3) := by decide +kernel
theorem dJ11_lowSurrogate_5068e_4 : decode (mJ11_lowSurrogate_5068e).2.1 4 = .ok (.iand, 1) := by decide +kernel
theorem dJ11_lowSurrogate_5068e_5 : decode (mJ11_lowSurrogate_5068e).2.1 5 = .ok (.ldc 76, 2) := by decide +kernel
theorem dJ11_lowSurrogate_5068e_7 : decode (mJ11_lowSurrogate_5068e).2.1 7 = .ok (.iadd, 1) := by decide +kernel
theorem dJ11_lowSurrogate_5068e_8 : decode (mJ11_lowSurrogate_5068e).2.1 8 = .ok (.i2c, 1) := by decide +kernel
theorem dJ11_lowSurrogate_5068e_9 : decode (mJ11_lowSurrogate_5068e).2.1 9 = .ok (.ireturn, 1) := by decide +kernel
theorem dJ9_abs_0f7a4_0 : decode (mJ9_abs_0f7a4).2.1 0 = .ok (.iload_n 0, 1) := by decide +kernel
theorem dJ9_abs_0f7a4_1 : decode (mJ9_abs_0f7a4).2.1 1 = .ok (.ifCond .ge 8, 3) := by decide +kernel
theorem dJ9_abs_0f7a4_4 : decode (mJ9_abs_0f7a4).2.1 4 = .ok (.iload_n 0, 1) := by decide +kernel
theorem dJ9_abs_0f7a4_5 : decode (mJ9_abs_0f7a4).2.1 5 = .ok (.ineg, 1) := by decide +kernel
theorem dJ9_abs_0f7a4_6 : decode (mJ9_abs_0f7a4).2.1 6 = .ok (.goto 4, 3) := by decide +kernel
theorem dJ9_abs_0f7a4_9 : decode (mJ9_abs_0f7a4).2.1 9 = .ok (.iload_n 0, 1) := by decide +kernel
theorem dJ9_abs_0f7a4_10 : decode (mJ9_abs_0f7a4).2.1 10 = .ok (.ireturn, 1) := by decide +kernel
theorem dJ9_max_7cf53_0 : decode (mJ9_max_7cf53).2.1 0 = .ok (.iload_n 0, 1) := by decide +kernel
theorem dJ9_max_7cf53_1 : decode (mJ9_max_7cf53).2.1 1 = .ok (.iload_n 1, 1) := by decide +kernel
theorem dJ9_max_7cf53_2 : decode (mJ9_max_7cf53).2.1 2 = .ok (.if_icmp .lt 7, 3) := by decide +kernel
theorem dJ9_max_7cf53_5 : decode (mJ9_max_7cf53).2.1 5 = .ok (.iload_n 0, 1) := by decide +kernel
theorem dJ9_max_7cf53_6 : decode (mJ9_max_7cf53).2.1 6 = .ok (.goto 4, 3) := by decide +kernel
theorem dJ9_max_7cf53_9 : decode (mJ9_max_7cf53).2.1 9 = .ok (.iload_n 1, 1) := by decide +kernel
theorem dJ9_max_7cf53_10 : decode (mJ9_max_7cf53).2.1 10 = .ok (.ireturn, 1) := by decide +kernel
theorem dJ9_min_7cf53_0 : decode (mJ9_min_7cf53).2.1 0 = .ok (.iload_n 0, 1) := by decide +kernel
theorem dJ9_min_7cf53_1 : decode (mJ9_min_7cf53).2.1 1 = .ok (.iload_n 1, 1) := by decide +kernel
theorem dJ9_min_7cf53_2 : decode (mJ9_min_7cf53).2.1 2 = .ok (.if_icmp .gt 7, 3) := by decide +kernel
theorem dJ9_min_7cf53_5 : decode (mJ9_min_7cf53).2.1 5 = .ok (.iload_n 0, 1) := by decide +kernel
theorem dJ9_min_7cf53_6 : decode (mJ9_min_7cf53).2.1 6 = .ok (.goto 4, 3) := by decide +kernel
theorem dJ9_min_7cf53_9 : decode (mJ9_min_7cf53).2.1 9 = .ok (.iload_n 1, 1) := by decide +kernel
theorem dJ9_min_7cf53_10 : decode (mJ9_min_7cf53).2.1 10 = .ok (.ireturn, 1) := by decide +kernel
theorem dJ0_length_8abf5_0 : decode (mJ0_length_8abf5).2.1 0 = .ok (.aload_n 0, 1) := by decide +kernel
theorem dJ0_length_8abf5_1 : decode (mJ0_length_8abf5).2.1 1 = .ok (.getfield 9, 3) := by decide +kernel
theorem dJ0_length_8abf5_4 : decode (mJ0_length_8abf5).2.1 4 = .ok (.arraylength, 1) := by decide +kernel
theorem dJ0_length_8abf5_5 : decode (mJ0_length_8abf5).2.1 5 = .ok (.aload_n 0, 1) := by decide +kernel
theorem dJ0_length_8abf5_6 : decode (mJ0_length_8abf5).2.1 6 = .ok (.invokevirtual 335, 3) := by decide +kernel
theorem dJ0_length_8abf5_9 : decode (mJ0_length_8abf5).2.1 9 = .ok (.ishr, 1) := by decide +kernel
theorem dJ0_length_8abf5_10 : decode (mJ0_length_8abf5).2.1 10 = .ok (.ireturn, 1) := by decide +kernel
theorem dJ0_charAt_5068e_0 : decode (mJ0_charAt_5068e).2.1 0 = .ok (.aload_n 0, 1) := by decide +kernel
theorem dJ0_charAt_5068e_1 : decode (mJ0_charAt_5068e).2.1 1 = .ok (.invokevirtual 492, 3) := by decide +kernel
theorem dJ0_charAt_5068e_4 : decode (mJ0_charAt_5068e).2.1 4 = .ok (.ifCond .eq 12, 3) := by decide +kernel
theorem dJ0_charAt_5068e_7 : decode (mJ0_charAt_5068e).2.1 7 = .ok (.aload_n 0, 1) := by decide +kernel
theorem dJ0_charAt_5068e_8 : decode (mJ0_charAt_5068e).2.1 8 = .ok (.getfield 9, 3) := by decide +kernel
theorem dJ0_charAt_5068e_11 : decode (mJ0_charAt_5068e).2.1 11 = .ok (.iload_n 1, 1) := by decide +kernel
theorem dJ0_charAt_5068e_12 : decode (mJ0_charAt_5068e).2.1 12 = .ok (.invokestatic 495, 3) := by decide +kernel
theorem dJ0_charAt_5068e_15 : decode (mJ0_charAt_5068e).2.1 15 = .ok (.ireturn, 1) := by decide +kernel
theorem dJ0_charAt_5068e_16 : decode (mJ0_charAt_5068e).2.1 16 = .ok (.aload_n 0, 1) := by decide +kernel
theorem dJ0_charAt_5068e_17 : decode (mJ0_charAt_5068e).2.1 17 = .ok (.getfield 9, 3) := by decide +kernel
theorem dJ0_charAt_5068e_20 : decode (mJ0_charAt_5068e).2.1 20 = .ok (.iload_n 1, 1) := by decide +kernel
theorem dJ0_charAt_5068e_21 : decode (mJ0_charAt_5068e).2.1 21 = .ok (.invokestatic 498, 3) := by decide +kernel
theorem dJ0_charAt_5068e_24 : decode (mJ0_charAt_5068e).2.1 24 = .ok (.ireturn, 1) := by decide +kernel
theorem dJ0_indexOf_0f7a4_0 : decode (mJ0_indexOf_0f7a4).2.1 0 = .ok (.aload_n 0, 1) := by decide +kernel
theorem dJ0_indexOf_0f7a4_1 : decode (mJ0_indexOf_0f7a4).2.1 1 = .ok (.iload_n 1, 1) := by decide +kernel
theorem dJ0_indexOf_0f7a4_2 : decode (mJ0_indexOf_0f7a4).2.1 2 = .ok (.iconst 0, 1) := by decide +kernel
theorem dJ0_indexOf_0f7a4_3 : decode (mJ0_indexOf_0f7a4).2.1 3 = .ok (.invokevirtual 633, 3) := by decide +kernel
theorem dJ0_indexOf_0f7a4_6 : decode (mJ0_indexOf_0f7a4).2.1 6 = .ok (.ireturn, 1) := by decide +kernel
theorem dJ0_indexOf_7cf53_0 : decode (mJ0_indexOf_7cf53).2.1 0 = .ok (.aload_n 0, 1) := by decide +kernel
theorem dJ0_indexOf_7cf53_1 : decode (mJ0_indexOf_7cf53).2.1 1 = .ok (.invokevirtual 492, 3) := by decide +kernel
theorem dJ0_indexOf_7cf53_4 : decode (mJ0_indexOf_7cf53).2.1 4 = .ok (.ifCond .eq 19, 3) := by decide +kernel
theorem dJ0_indexOf_7cf53_7 : decode (mJ0_indexOf_7cf53).2.1 7 = .ok (.aload_n 0, 1) := by decide +kernel
theorem dJ0_indexOf_7cf53_8 : decode (mJ0_indexOf_7cf53).2.1 8 = .ok (.getfield 9, 3) := by decide +kernel
theorem dJ0_indexOf_7cf53_11 : decode (mJ0_indexOf_7cf53).2.1 11 = .ok (.iload_n 1, 1) := by decide +kernel
theorem dJ0_indexOf_7cf53_12 : decode (mJ0_indexOf_7cf53).2.1 12 = .ok (.iload_n 2, 1) := by decide +kernel
theorem dJ0_indexOf_7cf53_13 : decode (mJ0_indexOf_7cf53).2.1 13 = .ok (.aload_n 0, 1) := by decide +kernel
theorem dJ0_indexOf_7cf53_14 : decode (mJ0_indexOf_7cf53).2.1 14 = .ok (.invokevirtual 505, 3) := by decide +kernel
theorem dJ0_indexOf_7cf53_17 : decode (mJ0_indexOf_7cf53).2.1 17 = .ok (.invokestatic 637, 3) := by decide +kernel
theorem dJ0_indexOf_7cf53_20 : decode (mJ0_indexOf_7cf53).2.1 20 = .ok (.goto 16, 3) := by decide +kernel
theorem dJ0_indexOf_7cf53_23 : decode (mJ0_indexOf_7cf53).2.1 23 = .ok (.aload_n 0, 1) := by decide +kernel
theorem dJ0_indexOf_7cf53_24 : decode (mJ0_indexOf_7cf53).2.1 24 = .ok (.getfield 9, 3) := by decide +kernel
theorem dJ0_indexOf_7cf53_27 : decode (mJ0_indexOf_7cf53).2.1 27 = .ok (.iload_n 1, 1) := by decide +kernel
theorem dJ0_indexOf_7cf53_28 : decode (mJ0_indexOf_7cf53).2.1 28 = .ok (.iload_n 2, 1) := by decide +kernel
theorem dJ0_indexOf_7cf53_29 : decode (mJ0_indexOf_7cf53).2.1 29 = .ok (.aload_n 0, 1) := by decide +kernel
theorem dJ0_indexOf_7cf53_30 : decode (mJ0_indexOf_7cf53).2.1 30 = .ok (.invokevirtual 505, 3) := by decide +kernel
theorem dJ0_indexOf_7cf53_33 : decode (mJ0_indexOf_7cf53).2.1 33 = .ok (.invokestatic 640, 3) := by decide +kernel
theorem dJ0_indexOf_7cf53_36 : decode (mJ0_indexOf_7cf53).2.1 36 = .ok (.ireturn, 1) := by decide +kernel
theorem dJ0_coder_7d493_0 : decode (mJ0_coder_7d493).2.1 0 = .ok (.getstatic 38, 3) := by decide +kernel
theorem dJ0_coder_7d493_3 : decode (mJ0_coder_7d493).2.1 3 = .ok (.ifCond .eq 10, 3) := by decide +kernel
theorem dJ0_coder_7d493_6 : decode (mJ0_coder_7d493).2.1 6 = .ok (.aload_n 0, 1) := by decide +kernel
theorem dJ0_coder_7d493_7 : decode (mJ0_coder_7d493).2.1 7 = .ok (.getfield 15, 3) := by decide +kernel
theorem dJ0_coder_7d493_10 : decode (mJ0_coder_7d493).2.1 10 = .ok (.goto 4, 3) := by decide +kernel
theorem dJ0_coder_7d493_13 : decode (mJ0_coder_7d493).2.1 13 = .ok (.iconst 1, 1) := by decide +kernel
theorem dJ0_coder_7d493_14 : decode (mJ0_coder_7d493).2.1 14 = .ok (.ireturn, 1) := by decide +kernel
theorem dJ0_isLatin1_aae02_0 : decode (mJ0_isLatin1_aae02).2.1 0 = .ok (.getstatic 38, 3) := by decide +kernel
theorem dJ0_isLatin1_aae02_3 : decode (mJ0_isLatin1_aae02).2.1 3 = .ok (.ifCond .eq 14, 3) := by decide +kernel
theorem dJ0_isLatin1_aae02_6 : decode (mJ0_isLatin1_aae02).2.1 6 = .ok (.aload_n 0, 1) := by decide +kernel
theorem dJ0_isLatin1_aae02_7 : decode (mJ0_isLatin1_aae02).2.1 7 = .ok (.getfield 15, 3) := by decide +kernel
theorem dJ0_isLatin1_aae02_10 : decode (mJ0_isLatin1_aae02).2.1 10 = .ok (.ifCond .ne 7, 3) := by decide +kernel
theorem dJ0_isLatin1_aae02_13 : decode (mJ0_isLatin1_aae02).2.1 13 = .ok (.iconst 1, 1) := by decide +kernel
theorem dJ0_isLatin1_aae02_14 : decode (mJ0_isLatin1_aae02).2.1 14 = .ok (.goto 4, 3) := by decide +kernel
theorem dJ0_isLatin1_aae02_17 : decode (mJ0_isLatin1_aae02).2.1 17 = .ok (.iconst 0, 1) := by decide +kernel
theorem dJ0_isLatin1_aae02_18 : decode (mJ0_isLatin1_aae02).2.1 18 = .ok (.ireturn, 1) := by decide +kernel
theorem dJ0_checkIndex_df160_0 : decode (mJ0_checkIndex_df160).2.1 0 = .ok (.iload_n 0, 1) := by decide +kernel
theorem dJ0_checkIndex_df160_1 : decode (mJ0_checkIndex_df160).2.1 1 = .ok (.iload_n 1, 1) := by decide +kernel
theorem dJ0_checkIndex_df160_2 : decode (mJ0_checkIndex_df160).2.1 2 = .ok (.getstatic 1053, 3) := by decide +kernel
theorem dJ0_checkIndex_df160_5 : decode (mJ0_checkIndex_df160).2.1 5 = .ok (.invokestatic 1059, 3) := by decide +kernel
theorem dJ0_checkIndex_df160_8 : decode (mJ0_checkIndex_df160).2.1 8 = .ok (.pop, 1) := by decide +kernel
theorem dJ0_checkIndex_df160_9 : decode (mJ0_checkIndex_df160).2.1 9 = .ok (.return_, 1) := by decide +kernel
theorem dJ0_checkBoundsBeginEnd_23922_0 : decode (mJ0_checkBoundsBeginEnd_23922).2.1 0 = .ok (.iload_n 0, 1) := by decide +kernel
theorem dJ0_checkBoundsBeginEnd_23922_1 : decode (mJ0_checkBoundsBeginEnd_23922).2.1 1 = .ok (.iload_n 1, 1) := by decide +kernel
theorem dJ0_checkBoundsBeginEnd_23922_2 : decode (mJ0_checkBoundsBeginEnd_23922).2.1 2 = .ok (.iload_n 2, 1) := by decide +kernel
theorem dJ0_checkBoundsBeginEnd_23922_3 : decode (mJ0_checkBoundsBeginEnd_23922).2.1 3 = .ok (.getstatic 1053, 3) := by decide +kernel
theorem dJ0_checkBoundsBeginEnd_23922_6 : decode (mJ0_checkBoundsBeginEnd_23922).2.1 6 = .ok (.invokestatic 1062, 3) := by decide +kernel
theorem dJ0_checkBoundsBeginEnd_23922_9 : decode (mJ0_checkBoundsBeginEnd_23922).2.1 9 = .ok (.pop, 1) := by decide +kernel
theorem dJ0_checkBoundsBeginEnd_23922_10 : decode (mJ0_checkBoundsBeginEnd_23922).2.1 10 = .ok (.return_, 1) := by decide +kernel
theorem dJ1_charAt_3b067_0 : decode (mJ1_charAt_3b067).2.1 0 = .ok (.iload_n 1, 1) := by decide +kernel
theorem dJ1_charAt_3b067_1 : decode (mJ1_charAt_3b067).2.1 1 = .ok (.aload_n 0, 1) := by decide +kernel
theorem dJ1_charAt_3b067_2 : decode (mJ1_charAt_3b067).2.1 2 = .ok (.arraylength, 1) := by decide +kernel
theorem dJ1_charAt_3b067_3 : decode (mJ1_charAt_3b067).2.1 3 = .ok (.invokestatic 9, 3) := by decide +kernel
theorem dJ1_charAt_3b067_6 : decode (mJ1_charAt_3b067).2.1 6 = .ok (.aload_n 0, 1) := by decide +kernel
theorem dJ1_charAt_3b067_7 : decode (mJ1_charAt_3b067).2.1 7 = .ok (.iload_n 1, 1) := by decide +kernel
theorem dJ1_charAt_3b067_8 : decode (mJ1_charAt_3b067).2.1 8 = .ok (.baload, 1) := by decide +kernel
theorem dJ1_charAt_3b067_9 : decode (mJ1_charAt_3b067).2.1 9 = .ok (.sipush 255, 3) := by decide +kernel
theorem dJ1_charAt_3b067_12 : decode (mJ1_charAt_3b067).2.1 12 = .ok (.iand, 1) := by decide +kernel
theorem dJ1_charAt_3b067_13 : decode (mJ1_charAt_3b067).2.1 13 = .ok (.i2c, 1) := by decide +kernel
theorem dJ1_charAt_3b067_14 : decode (mJ1_charAt_3b067).2.1 14 = .ok (.ireturn, 1) := by decide +kernel
theorem dJ1_canEncode_9a6ad_0 : decode (mJ1_canEncode_9a6ad).2.1 0 = .ok (.iload_n 0, 1) := by decide +kernel
theorem dJ1_canEncode_9a6ad_1 : decode (mJ1_canEncode_9a6ad).2.1 1 = .ok (.ifCond .lt 14, 3) := by decide +kernel
theorem dJ1_canEncode_9a6ad_4 : decode (mJ1_canEncode_9a6ad).2.1 4 = .ok (.iload_n 0, 1) := by decide +kernel
theorem dJ1_canEncode_9a6ad_5 : decode (mJ1_canEncode_9a6ad).2.1 5 = .ok (.sipush 255, 3) := by decide +kernel
theorem dJ1_canEncode_9a6ad_8 : decode (mJ1_canEncode_9a6ad).2.1 8 = .ok (.if_icmp .gt 7, 3) := by decide +kernel
theorem dJ1_canEncode_9a6ad_11 : decode (mJ1_canEncode_9a6ad).2.1 11 = .ok (.iconst 1, 1) := by decide +kernel
theorem dJ1_canEncode_9a6ad_12 : decode (mJ1_canEncode_9a6ad).2.1 12 = .ok (.goto 4, 3) := by decide +kernel
theorem dJ1_canEncode_9a6ad_15 : decode (mJ1_canEncode_9a6ad).2.1 15 = .ok (.iconst 0, 1) := by decide +kernel
theorem dJ1_canEncode_9a6ad_16 : decode (mJ1_canEncode_9a6ad).2.1 16 = .ok (.ireturn, 1) := by decide +kernel
theorem dJ1_indexOf_4cfef_0 : decode (mJ1_indexOf_4cfef).2.1 0 = .ok (.iload_n 1, 1) := by decide +kernel
theorem dJ1_indexOf_4cfef_1 : decode (mJ1_indexOf_4cfef).2.1 1 = .ok (.invokestatic 88, 3) := by decide +kernel
theorem dJ1_indexOf_4cfef_4 : decode (mJ1_indexOf_4cfef).2.1 4 = .ok (.ifCond .ne 5, 3) := by decide +kernel
theorem dJ1_indexOf_4cfef_7 : decode (mJ1_indexOf_4cfef).2.1 7 = .ok (.iconst (-1), 1) := by decide +kernel
theorem dJ1_indexOf_4cfef_8 : decode (mJ1_indexOf_4cfef).2.1 8 = .ok (.ireturn, 1) := by decide +kernel
theorem dJ1_indexOf_4cfef_9 : decode (mJ1_indexOf_4cfef).2.1 9 = .ok (.iload_n 2, 1) := by decide +kernel
theorem dJ1_indexOf_4cfef_10 : decode (mJ1_indexOf_4cfef).2.1 10 = .ok (.iconst 0, 1) := by decide +kernel
theorem dJ1_indexOf_4cfef_11 : decode (mJ1_indexOf_4cfef).2.1 11 = .ok (.invokestatic 92, 3) := by decide +kernel
theorem dJ1_indexOf_4cfef_14 : decode (mJ1_indexOf_4cfef).2.1 14 = .ok (.istore_n 2, 1) := by decide +kernel
theorem dJ1_indexOf_4cfef_15 : decode (mJ1_indexOf_4cfef).2.1 15 = .ok (.iload_n 3, 1) := by decide +kernel
theorem dJ1_indexOf_4cfef_16 : decode (mJ1_indexOf_4cfef).2.1 16 = .ok (.aload_n 0, 1) := by decide +kernel
theorem dJ1_indexOf_4cfef_17 : decode (mJ1_indexOf_4cfef).2.1 17 = .ok (.arraylength, 1) := by decide +kernel
theorem dJ1_indexOf_4cfef_18 : decode (mJ1_indexOf_4cfef).2.1 18 = .ok (.invokestatic 38, 3) := by decide +kernel
theorem dJ1_indexOf_4cfef_21 : decode (mJ1_indexOf_4cfef).2.1 21 = .ok (.istore_n 3, 1) := by decide +kernel
theorem dJ1_indexOf_4cfef_22 : decode (mJ1_indexOf_4cfef).2.1 22 = .ok (.iload_n 2, 1) := by decide +kernel
theorem dJ1_indexOf_4cfef_23 : decode (mJ1_indexOf_4cfef).2.1 23 = .ok (.iload_n 3, 1) := by decide +kernel
theorem dJ1_indexOf_4cfef_24 : decode (mJ1_indexOf_4cfef).2.1 24 = .ok (.if_icmp .lt 5, 3) := by decide +kernel
theorem dJ1_indexOf_4cfef_27 : decode (mJ1_indexOf_4cfef).2.1 27 = .ok (.iconst (-1), 1) := by decide +kernel
theorem dJ1_indexOf_4cfef_28 : decode (mJ1_indexOf_4cfef).2.1 28 = .ok (.ireturn, 1) := by decide +kernel
theorem dJ1_indexOf_4cfef_29 : decode (mJ1_indexOf_4cfef).2.1 29 = .ok (.aload_n 0, 1) := by decide +kernel
theorem dJ1_indexOf_4cfef_30 : decode (mJ1_indexOf_4cfef).2.1 30 = .ok (.iload_n 1, 1) := by decide +kernel
theorem dJ1_indexOf_4cfef_31 : decode (mJ1_indexOf_4cfef).2.1 31 = .ok (.iload_n 2, 1) := by decide +kernel
theorem dJ1_indexOf_4cfef_32 : decode (mJ1_indexOf_4cfef).2.1 32 = .ok (.iload_n 3, 1) := by decide +kernel
theorem dJ1_indexOf_4cfef_33 : decode (mJ1_indexOf_4cfef).2.1 33 = .ok (.invokestatic 95, 3) := by decide +kernel
theorem dJ1_indexOf_4cfef_36 : decode (mJ1_indexOf_4cfef).2.1 36 = .ok (.ireturn, 1) := by decide +kernel
theorem dJ1_indexOfChar_4cfef_0 : decode (mJ1_indexOfChar_4cfef).2.1 0 = .ok (.iload_n 1, 1) := by decide +kernel
theorem dJ1_indexOfChar_4cfef_1 : decode (mJ1_indexOfChar_4cfef).2.1 1 = .ok (.i2b, 1) := by decide +kernel
theorem dJ1_indexOfChar_4cfef_2 : decode (mJ1_indexOfChar_4cfef).2.1 2 = .ok (.istore 4, 2) := by decide +kernel
theorem dJ1_indexOfChar_4cfef_4 : decode (mJ1_indexOfChar_4cfef).2.1 4 = .ok (.iload_n 2, 1) := by decide +kernel
theorem dJ1_indexOfChar_4cfef_5 : decode (mJ1_indexOfChar_4cfef).2.1 5 = .ok (.istore 5, 2) := by decide +kernel
theorem dJ1_indexOfChar_4cfef_7 : decode (mJ1_indexOfChar_4cfef).2.1 7 = .ok (.iload 5, 2) := by decide +kernel
theorem dJ1_indexOfChar_4cfef_9 : decode (mJ1_indexOfChar_4cfef).2.1 9 = .ok (.iload_n 3, 1) := by decide +kernel
theorem dJ1_indexOfChar_4cfef_10 : decode (mJ1_indexOfChar_4cfef).2.1 10 = .ok (.if_icmp .ge 21, 3) := by decide +kernel
theorem dJ1_indexOfChar_4cfef_13 : decode (mJ1_indexOfChar_4cfef).2.1 13 = .ok (.aload_n 0, 1) := by decide +kernel
theorem dJ1_indexOfChar_4cfef_14 : decode (mJ1_indexOfChar_4cfef).2.1 14 = .ok (.iload 5, 2) := by decide +kernel
theorem dJ1_indexOfChar_4cfef_16 : decode (mJ1_indexOfChar_4cfef).2.1 16 = .ok (.baload, 1) := by decide +kernel
theorem dJ1_indexOfChar_4cfef_17 : decode (mJ1_indexOfChar_4cfef).2.1 17 = .ok (.iload 4, 2) := by decide +kernel
theorem dJ1_indexOfChar_4cfef_19 : decode (mJ1_indexOfChar_4cfef).2.1 19 = .ok (.if_icmp .ne 6, 3) := by decide +kernel
theorem dJ1_indexOfChar_4cfef_22 : decode (mJ1_indexOfChar_4cfef).2.1 22 = .ok (.iload 5, 2) := by decide +kernel
theorem dJ1_indexOfChar_4cfef_24 : decode (mJ1_indexOfChar_4cfef).2.1 24 = .ok (.ireturn, 1) := by decide +kernel
theorem dJ1_indexOfChar_4cfef_25 : decode (mJ1_indexOfChar_4cfef).2.1 25 = .ok (.iinc 5 1, 3) := by decide +kernel
theorem dJ1_indexOfChar_4cfef_28 : decode (mJ1_indexOfChar_4cfef).2.1 28 = .ok (.goto (-21), 3) := by decide +kernel
theorem dJ1_indexOfChar_4cfef_31 : decode (mJ1_indexOfChar_4cfef).2.1 31 = .ok (.iconst (-1), 1) := by decide +kernel
theorem dJ1_indexOfChar_4cfef_32 : decode (mJ1_indexOfChar_4cfef).2.1 32 = .ok (.ireturn, 1) := by decide +kernel
theorem dJ2_getChar_3b067_0 : decode (mJ2_getChar_3b067).2.1 0 = .ok (.getstatic 44, 3) := by decide +kernel
theorem dJ2_getChar_3b067_3 : decode (mJ2_getChar_3b067).2.1 3 = .ok (.ifCond .ne 25, 3) := by decide +kernel
theorem dJ2_getChar_3b067_6 : decode (mJ2_getChar_3b067).2.1 6 = .ok (.iload_n 1, 1) := by decide +kernel
theorem dJ2_getChar_3b067_7 : decode (mJ2_getChar_3b067).2.1 7 = .ok (.ifCond .lt 11, 3) := by decide +kernel
theorem dJ2_getChar_3b067_10 : decode (mJ2_getChar_3b067).2.1 10 = .ok (.iload_n 1, 1) := by decide +kernel
theorem dJ2_getChar_3b067_11 : decode (mJ2_getChar_3b067).2.1 11 = .ok (.aload_n 0, 1) := by decide +kernel
theorem dJ2_getChar_3b067_12 : decode (mJ2_getChar_3b067).2.1 12 = .ok (.invokestatic 48, 3) := by decide +kernel
theorem dJ2_getChar_3b067_15 : decode (mJ2_getChar_3b067).2.1 15 = .ok (.if_icmp .lt 13, 3) := by decide +kernel
theorem dJ2_getChar_3b067_18 : decode (mJ2_getChar_3b067).2.1 18 = .ok (.new 52, 3) := by decide +kernel
theorem dJ2_getChar_3b067_21 : decode (mJ2_getChar_3b067).2.1 21 = .ok (.dup, 1) := by decide +kernel
theorem dJ2_getChar_3b067_22 : decode (mJ2_getChar_3b067).2.1 22 = .ok (.ldc 54, 2) := by decide +kernel
theorem dJ2_getChar_3b067_24 : decode (mJ2_getChar_3b067).2.1 24 = .ok (.invokespecial 56, 3) := by decide +kernel
theorem dJ2_getChar_3b067_27 : decode (mJ2_getChar_3b067).2.1 27 = .ok (.athrow, 1) := by decide +kernel
theorem dJ2_getChar_3b067_28 : decode (mJ2_getChar_3b067).2.1 28 = .ok (.iload_n 1, 1) := by decide +kernel
theorem dJ2_getChar_3b067_29 : decode (mJ2_getChar_3b067).2.1 29 = .ok (.iconst 1, 1) := by decide +kernel
theorem dJ2_getChar_3b067_30 : decode (mJ2_getChar_3b067).2.1 30 = .ok (.ishl, 1) := by decide +kernel
theorem dJ2_getChar_3b067_31 : decode (mJ2_getChar_3b067).2.1 31 = .ok (.istore_n 1, 1) := by decide +kernel
theorem dJ2_getChar_3b067_32 : decode (mJ2_getChar_3b067).2.1 32 = .ok (.aload_n 0, 1) := by decide +kernel
theorem dJ2_getChar_3b067_33 : decode (mJ2_getChar_3b067).2.1 33 = .ok (.iload_n 1, 1) := by decide +kernel
theorem dJ2_getChar_3b067_34 : decode (mJ2_getChar_3b067).2.1 34 = .ok (.iinc 1 1, 3) := by decide +kernel
theorem dJ2_getChar_3b067_37 : decode (mJ2_getChar_3b067).2.1 37 = .ok (.baload, 1) := by decide +kernel
theorem dJ2_getChar_3b067_38 : decode (mJ2_getChar_3b067).2.1 38 = .ok (.sipush 255, 3) := by decide +kernel
theorem dJ2_getChar_3b067_41 : decode (mJ2_getChar_3b067).2.1 41 = .ok (.iand, 1) := by decide +kernel
theorem dJ2_getChar_3b067_42 : decode (mJ2_getChar_3b067).2.1 42 = .ok (.getstatic 59, 3) := by decide +kernel
theorem dJ2_getChar_3b067_45 : decode (mJ2_getChar_3b067).2.1 45 = .ok (.ishl, 1) := by decide +kernel
theorem dJ2_getChar_3b067_46 : decode (mJ2_getChar_3b067).2.1 46 = .ok (.aload_n 0, 1) := by decide +kernel
theorem dJ2_getChar_3b067_47 : decode (mJ2_getChar_3b067).2.1 47 = .ok (.iload_n 1, 1) := by decide +kernel
theorem dJ2_getChar_3b067_48 : decode (mJ2_getChar_3b067).2.1 48 = .ok (.baload, 1) := by decide +kernel
theorem dJ2_getChar_3b067_49 : decode (mJ2_getChar_3b067).2.1 49 = .ok (.sipush 255, 3) := by decide +kernel
theorem dJ2_getChar_3b067_52 : decode (mJ2_getChar_3b067).2.1 52 = .ok (.iand, 1) := by decide +kernel
theorem dJ2_getChar_3b067_53 : decode (mJ2_getChar_3b067).2.1 53 = .ok (.getstatic 63, 3) := by decide +kernel
theorem dJ2_getChar_3b067_56 : decode (mJ2_getChar_3b067).2.1 56 = .ok (.ishl, 1) := by decide +kernel
theorem dJ2_getChar_3b067_57 : decode (mJ2_getChar_3b067).2.1 57 = .ok (.ior, 1) := by decide +kernel
theorem dJ2_getChar_3b067_58 : decode (mJ2_getChar_3b067).2.1 58 = .ok (.i2c, 1) := by decide +kernel
theorem dJ2_getChar_3b067_59 : decode (mJ2_getChar_3b067).2.1 59 = .ok (.ireturn, 1) := by decide +kernel
theorem dJ2_length_9d52b_0 : decode (mJ2_length_9d52b).2.1 0 = .ok (.aload_n 0, 1) := by decide +kernel
theorem dJ2_length_9d52b_1 : decode (mJ2_length_9d52b).2.1 1 = .ok (.arraylength, 1) := by decide +kernel
theorem dJ2_length_9d52b_2 : decode (mJ2_length_9d52b).2.1 2 = .ok (.iconst 1, 1) := by decide +kernel
theorem dJ2_length_9d52b_3 : decode (mJ2_length_9d52b).2.1 3 = .ok (.ishr, 1) := by decide +kernel
theorem dJ2_length_9d52b_4 : decode (mJ2_length_9d52b).2.1 4 = .ok (.ireturn, 1) := by decide +kernel
theorem dJ2_indexOf_4cfef_0 : decode (mJ2_indexOf_4cfef).2.1 0 = .ok (.iload_n 2, 1) := by decide +kernel
theorem dJ2_indexOf_4cfef_1 : decode (mJ2_indexOf_4cfef).2.1 1 = .ok (.iconst 0, 1) := by decide +kernel
theorem dJ2_indexOf_4cfef_2 : decode (mJ2_indexOf_4cfef).2.1 2 = .ok (.invokestatic 224, 3) := by decide +kernel
theorem dJ2_indexOf_4cfef_5 : decode (mJ2_indexOf_4cfef).2.1 5 = .ok (.istore_n 2, 1) := by decide +kernel
theorem dJ2_indexOf_4cfef_6 : decode (mJ2_indexOf_4cfef).2.1 6 = .ok (.iload_n 3, 1) := by decide +kernel
theorem dJ2_indexOf_4cfef_7 : decode (mJ2_indexOf_4cfef).2.1 7 = .ok (.aload_n 0, 1) := by decide +kernel
theorem dJ2_indexOf_4cfef_8 : decode (mJ2_indexOf_4cfef).2.1 8 = .ok (.arraylength, 1) := by decide +kernel
theorem dJ2_indexOf_4cfef_9 : decode (mJ2_indexOf_4cfef).2.1 9 = .ok (.iconst 1, 1) := by decide +kernel
theorem dJ2_indexOf_4cfef_10 : decode (mJ2_indexOf_4cfef).2.1 10 = .ok (.ishr, 1) := by decide +kernel
theorem dJ2_indexOf_4cfef_11 : decode (mJ2_indexOf_4cfef).2.1 11 = .ok (.invokestatic 183, 3) := by decide +kernel
theorem dJ2_indexOf_4cfef_14 : decode (mJ2_indexOf_4cfef).2.1 14 = .ok (.istore_n 3, 1) := by decide +kernel
theorem dJ2_indexOf_4cfef_15 : decode (mJ2_indexOf_4cfef).2.1 15 = .ok (.iload_n 2, 1) := by decide +kernel
theorem dJ2_indexOf_4cfef_16 : decode (mJ2_indexOf_4cfef).2.1 16 = .ok (.iload_n 3, 1) := by decide +kernel
theorem dJ2_indexOf_4cfef_17 : decode (mJ2_indexOf_4cfef).2.1 17 = .ok (.if_icmp .lt 5, 3) := by decide +kernel
theorem dJ2_indexOf_4cfef_20 : decode (mJ2_indexOf_4cfef).2.1 20 = .ok (.iconst (-1), 1) := by decide +kernel
theorem dJ2_indexOf_4cfef_21 : decode (mJ2_indexOf_4cfef).2.1 21 = .ok (.ireturn, 1) := by decide +kernel
theorem dJ2_indexOf_4cfef_22 : decode (mJ2_indexOf_4cfef).2.1 22 = .ok (.iload_n 1, 1) := by decide +kernel
theorem dJ2_indexOf_4cfef_23 : decode (mJ2_indexOf_4cfef).2.1 23 = .ok (.ldc 227, 2) := by decide +kernel
theorem dJ2_indexOf_4cfef_25 : decode (mJ2_indexOf_4cfef).2.1 25 = .ok (.if_icmp .ge 11, 3) := by decide +kernel
theorem dJ2_indexOf_4cfef_28 : decode (mJ2_indexOf_4cfef).2.1 28 = .ok (.aload_n 0, 1) := by decide +kernel
theorem dJ2_indexOf_4cfef_29 : decode (mJ2_indexOf_4cfef).2.1 29 = .ok (.iload_n 1, 1) := by decide +kernel
theorem dJ2_indexOf_4cfef_30 : decode (mJ2_indexOf_4cfef).2.1 30 = .ok (.iload_n 2, 1) := by decide +kernel
theorem dJ2_indexOf_4cfef_31 : decode (mJ2_indexOf_4cfef).2.1 31 = .ok (.iload_n 3, 1) := by decide +kernel
theorem dJ2_indexOf_4cfef_32 : decode (mJ2_indexOf_4cfef).2.1 32 = .ok (.invokestatic 228, 3) := by decide +kernel
theorem dJ2_indexOf_4cfef_35 : decode (mJ2_indexOf_4cfef).2.1 35 = .ok (.ireturn, 1) := by decide +kernel
theorem dJ2_indexOf_4cfef_36 : decode (mJ2_indexOf_4cfef).2.1 36 = .ok (.aload_n 0, 1) := by decide +kernel
theorem dJ2_indexOf_4cfef_37 : decode (mJ2_indexOf_4cfef).2.1 37 = .ok (.iload_n 1, 1) := by decide +kernel
theorem dJ2_indexOf_4cfef_38 : decode (mJ2_indexOf_4cfef).2.1 38 = .ok (.iload_n 2, 1) := by decide +kernel
theorem dJ2_indexOf_4cfef_39 : decode (mJ2_indexOf_4cfef).2.1 39 = .ok (.iload_n 3, 1) := by decide +kernel
theorem dJ2_indexOf_4cfef_40 : decode (mJ2_indexOf_4cfef).2.1 40 = .ok (.invokestatic 232, 3) := by decide +kernel
theorem dJ2_indexOf_4cfef_43 : decode (mJ2_indexOf_4cfef).2.1 43 = .ok (.ireturn, 1) := by decide +kernel
theorem dJ2_indexOfChar_4cfef_0 : decode (mJ2_indexOfChar_4cfef).2.1 0 = .ok (.iload_n 2, 1) := by decide +kernel
theorem dJ2_indexOfChar_4cfef_1 : decode (mJ2_indexOfChar_4cfef).2.1 1 = .ok (.iload_n 3, 1) := by decide +kernel
theorem dJ2_indexOfChar_4cfef_2 : decode (mJ2_indexOfChar_4cfef).2.1 2 = .ok (.aload_n 0, 1) := by decide +kernel
theorem dJ2_indexOfChar_4cfef_3 : decode (mJ2_indexOfChar_4cfef).2.1 3 = .ok (.invokestatic 96, 3) := by decide +kernel
theorem dJ2_indexOfChar_4cfef_6 : decode (mJ2_indexOfChar_4cfef).2.1 6 = .ok (.aload_n 0, 1) := by decide +kernel
theorem dJ2_indexOfChar_4cfef_7 : decode (mJ2_indexOfChar_4cfef).2.1 7 = .ok (.iload_n 1, 1) := by decide +kernel
theorem dJ2_indexOfChar_4cfef_8 : decode (mJ2_indexOfChar_4cfef).2.1 8 = .ok (.iload_n 2, 1) := by decide +kernel
theorem dJ2_indexOfChar_4cfef_9 : decode (mJ2_indexOfChar_4cfef).2.1 9 = .ok (.iload_n 3, 1) := by decide +kernel
theorem dJ2_indexOfChar_4cfef_10 : decode (mJ2_indexOfChar_4cfef).2.1 10 = .ok (.invokestatic 244, 3) := by decide +kernel
theorem dJ2_indexOfChar_4cfef_13 : decode (mJ2_indexOfChar_4cfef).2.1 13 = .ok (.ireturn, 1) := by decide +kernel
theorem dJ2_indexOfCharUnsafe_4cfef_0 : decode (mJ2_indexOfCharUnsafe_4cfef).2.1 0 = .ok (.iload_n 2, 1) := by decide +kernel
theorem dJ2_indexOfCharUnsafe_4cfef_1 : decode (mJ2_indexOfCharUnsafe_4cfef).2.1 1 = .ok (.istore 4, 2) := by decide +kernel
theorem dJ2_indexOfCharUnsafe_4cfef_3 : decode (mJ2_indexOfCharUnsafe_4cfef).2.1 3 = .ok (.iload 4, 2) := by decide +kernel
theorem dJ2_indexOfCharUnsafe_4cfef_5 : decode (mJ2_indexOfCharUnsafe_4cfef).2.1 5 = .ok (.iload_n 3, 1) := by decide +kernel
theorem dJ2_indexOfCharUnsafe_4cfef_6 : decode (mJ2_indexOfCharUnsafe_4cfef).2.1 6 = .ok (.if_icmp .ge 22, 3) := by decide +kernel
theorem dJ2_indexOfCharUnsafe_4cfef_9 : decode (mJ2_indexOfCharUnsafe_4cfef).2.1 9 = .ok (.aload_n 0, 1) := by decide +kernel
theorem dJ2_indexOfCharUnsafe_4cfef_10 : decode (mJ2_indexOfCharUnsafe_4cfef).2.1 10 = .ok (.iload 4, 2) := by decide +kernel
theorem dJ2_indexOfCharUnsafe_4cfef_12 : decode (mJ2_indexOfCharUnsafe_4cfef).2.1 12 = .ok (.invokestatic 71, 3) := by decide +kernel
theorem dJ2_indexOfCharUnsafe_4cfef_15 : decode (mJ2_indexOfCharUnsafe_4cfef).2.1 15 = .ok (.iload_n 1, 1) := by decide +kernel
theorem dJ2_indexOfCharUnsafe_4cfef_16 : decode (mJ2_indexOfCharUnsafe_4cfef).2.1 16 = .ok (.if_icmp .ne 6, 3) := by decide +kernel
theorem dJ2_indexOfCharUnsafe_4cfef_19 : decode (mJ2_indexOfCharUnsafe_4cfef).2.1 19 = .ok (.iload 4, 2) := by decide +kernel
theorem dJ2_indexOfCharUnsafe_4cfef_21 : decode (mJ2_indexOfCharUnsafe_4cfef).2.1 21 = .ok (.ireturn, 1) := by decide +kernel
theorem dJ2_indexOfCharUnsafe_4cfef_22 : decode (mJ2_indexOfCharUnsafe_4cfef).2.1 22 = .ok (.iinc 4 1, 3) := by decide +kernel
theorem dJ2_indexOfCharUnsafe_4cfef_25 : decode (mJ2_indexOfCharUnsafe_4cfef).2.1 25 = .ok (.goto (-22), 3) := by decide +kernel
theorem dJ2_indexOfCharUnsafe_4cfef_28 : decode (mJ2_indexOfCharUnsafe_4cfef).2.1 28 = .ok (.iconst (-1), 1) := by decide +kernel
theorem dJ2_indexOfCharUnsafe_4cfef_29 : decode (mJ2_indexOfCharUnsafe_4cfef).2.1 29 = .ok (.ireturn, 1) := by decide +kernel
theorem dJ2_indexOfSupplementary_4cfef_0 : decode (mJ2_indexOfSupplementary_4cfef).2.1 0 = .ok (.iload_n 1, 1) := by decide +kernel
theorem dJ2_indexOfSupplementary_4cfef_1 : decode (mJ2_indexOfSupplementary_4cfef).2.1 1 = .ok (.invokestatic 164, 3) := by decide +kernel
theorem dJ2_indexOfSupplementary_4cfef_4 : decode (mJ2_indexOfSupplementary_4cfef).2.1 4 = .ok (.ifCond .eq 65, 3) := by decide +kernel
theorem dJ2_indexOfSupplementary_4cfef_7 : decode (mJ2_indexOfSupplementary_4cfef).2.1 7 = .ok (.iload_n 1, 1) := by decide +kernel
theorem dJ2_indexOfSupplementary_4cfef_8 : decode (mJ2_indexOfSupplementary_4cfef).2.1 8 = .ok (.invokestatic 157, 3) := by decide +kernel
theorem dJ2_indexOfSupplementary_4cfef_11 : decode (mJ2_indexOfSupplementary_4cfef).2.1 11 = .ok (.istore 4, 2) := by decide +kernel
theorem dJ2_indexOfSupplementary_4cfef_13 : decode (mJ2_indexOfSupplementary_4cfef).2.1 13 = .ok (.iload_n 1, 1) := by decide +kernel
theorem dJ2_indexOfSupplementary_4cfef_14 : decode (mJ2_indexOfSupplementary_4cfef).2.1 14 = .ok (.invokestatic 161, 3) := by decide +kernel
theorem dJ2_indexOfSupplementary_4cfef_17 : decode (mJ2_indexOfSupplementary_4cfef).2.1 17 = .ok (.istore 5, 2) := by decide +kernel
theorem dJ2_indexOfSupplementary_4cfef_19 : decode (mJ2_indexOfSupplementary_4cfef).2.1 19 = .ok (.iload_n 2, 1) := by decide +kernel
theorem dJ2_indexOfSupplementary_4cfef_20 : decode (mJ2_indexOfSupplementary_4cfef).2.1 20 = .ok (.iload_n 3, 1) := by decide +kernel
theorem dJ2_indexOfSupplementary_4cfef_21 : decode (mJ2_indexOfSupplementary_4cfef).2.1 21 = .ok (.aload_n 0, 1) := by decide +kernel
theorem dJ2_indexOfSupplementary_4cfef_22 : decode (mJ2_indexOfSupplementary_4cfef).2.1 22 = .ok (.invokestatic 96, 3) := by decide +kernel
theorem dJ2_indexOfSupplementary_4cfef_25 : decode (mJ2_indexOfSupplementary_4cfef).2.1 25 = .ok (.iload_n 2, 1) := by decide +kernel
theorem dJ2_indexOfSupplementary_4cfef_26 : decode (mJ2_indexOfSupplementary_4cfef).2.1 26 = .ok (.istore 6, 2) := by decide +kernel
theorem dJ2_indexOfSupplementary_4cfef_28 : decode (mJ2_indexOfSupplementary_4cfef).2.1 28 = .ok (.iload 6, 2) := by decide +kernel
theorem dJ2_indexOfSupplementary_4cfef_30 : decode (mJ2_indexOfSupplementary_4cfef).2.1 30 = .ok (.iload_n 3, 1) := by decide +kernel
theorem dJ2_indexOfSupplementary_4cfef_31 : decode (mJ2_indexOfSupplementary_4cfef).2.1 31 = .ok (.iconst 1, 1) := by decide +kernel
theorem dJ2_indexOfSupplementary_4cfef_32 : decode (mJ2_indexOfSupplementary_4cfef).2.1 32 = .ok (.isub, 1) := by decide +kernel
theorem dJ2_indexOfSupplementary_4cfef_33 : decode (mJ2_indexOfSupplementary_4cfef).2.1 33 = .ok (.if_icmp .ge 36, 3) := by decide +kernel
theorem dJ2_indexOfSupplementary_4cfef_36 : decode (mJ2_indexOfSupplementary_4cfef).2.1 36 = .ok (.aload_n 0, 1) := by decide +kernel
theorem dJ2_indexOfSupplementary_4cfef_37 : decode (mJ2_indexOfSupplementary_4cfef).2.1 37 = .ok (.iload 6, 2) := by decide +kernel
theorem dJ2_indexOfSupplementary_4cfef_39 : decode (mJ2_indexOfSupplementary_4cfef).2.1 39 = .ok (.invokestatic 71, 3) := by decide +kernel
theorem dJ2_indexOfSupplementary_4cfef_42 : decode (mJ2_indexOfSupplementary_4cfef).2.1 42 = .ok (.iload 4, 2) := by decide +kernel
theorem dJ2_indexOfSupplementary_4cfef_44 : decode (mJ2_indexOfSupplementary_4cfef).2.1 44 = .ok (.if_icmp .ne 19, 3) := by decide +kernel
theorem dJ2_indexOfSupplementary_4cfef_47 : decode (mJ2_indexOfSupplementary_4cfef).2.1 47 = .ok (.aload_n 0, 1) := by decide +kernel
theorem dJ2_indexOfSupplementary_4cfef_48 : decode (mJ2_indexOfSupplementary_4cfef).2.1 48 = .ok (.iload 6, 2) := by decide +kernel
theorem dJ2_indexOfSupplementary_4cfef_50 : decode (mJ2_indexOfSupplementary_4cfef).2.1 50 = .ok (.iconst 1, 1) := by decide +kernel
theorem dJ2_indexOfSupplementary_4cfef_51 : decode (mJ2_indexOfSupplementary_4cfef).2.1 51 = .ok (.iadd, 1) := by decide +kernel
theorem dJ2_indexOfSupplementary_4cfef_52 : decode (mJ2_indexOfSupplementary_4cfef).2.1 52 = .ok (.invokestatic 71, 3) := by decide +kernel
theorem dJ2_indexOfSupplementary_4cfef_55 : decode (mJ2_indexOfSupplementary_4cfef).2.1 55 = .ok (.iload 5, 2) := by decide +kernel
theorem dJ2_indexOfSupplementary_4cfef_57 : decode (mJ2_indexOfSupplementary_4cfef).2.1 57 = .ok (.if_icmp .ne 6, 3) := by decide +kernel
theorem dJ2_indexOfSupplementary_4cfef_60 : decode (mJ2_indexOfSupplementary_4cfef).2.1 60 = .ok (.iload 6, 2) := by decide +kernel
theorem dJ2_indexOfSupplementary_4cfef_62 : decode (mJ2_indexOfSupplementary_4cfef).2.1 62 = .ok (.ireturn, 1) := by decide +kernel
theorem dJ2_indexOfSupplementary_4cfef_63 : decode (mJ2_indexOfSupplementary_4cfef).2.1 63 = .ok (.iinc 6 1, 3) := by decide +kernel
theorem dJ2_indexOfSupplementary_4cfef_66 : decode (mJ2_indexOfSupplementary_4cfef).2.1 66 = .ok (.goto (-38), 3) := by decide +kernel
theorem dJ2_indexOfSupplementary_4cfef_69 : decode (mJ2_indexOfSupplementary_4cfef).2.1 69 = .ok (.iconst (-1), 1) := by decide +kernel
theorem dJ2_indexOfSupplementary_4cfef_70 : decode (mJ2_indexOfSupplementary_4cfef).2.1 70 = .ok (.ireturn, 1) := by decide +kernel
theorem dJ2_charAt_3b067_0 : decode (mJ2_charAt_3b067).2.1 0 = .ok (.iload_n 1, 1) := by decide +kernel
theorem dJ2_charAt_3b067_1 : decode (mJ2_charAt_3b067).2.1 1 = .ok (.aload_n 0, 1) := by decide +kernel
theorem dJ2_charAt_3b067_2 : decode (mJ2_charAt_3b067).2.1 2 = .ok (.invokestatic 67, 3) := by decide +kernel
theorem dJ2_charAt_3b067_5 : decode (mJ2_charAt_3b067).2.1 5 = .ok (.aload_n 0, 1) := by decide +kernel
theorem dJ2_charAt_3b067_6 : decode (mJ2_charAt_3b067).2.1 6 = .ok (.iload_n 1, 1) := by decide +kernel
theorem dJ2_charAt_3b067_7 : decode (mJ2_charAt_3b067).2.1 7 = .ok (.invokestatic 71, 3) := by decide +kernel
theorem dJ2_charAt_3b067_10 : decode (mJ2_charAt_3b067).2.1 10 = .ok (.ireturn, 1) := by decide +kernel
theorem dJ2_checkIndex_2214a_0 : decode (mJ2_checkIndex_2214a).2.1 0 = .ok (.iload_n 0, 1) := by decide +kernel
theorem dJ2_checkIndex_2214a_1 : decode (mJ2_checkIndex_2214a).2.1 1 = .ok (.aload_n 1, 1) := by decide +kernel
theorem dJ2_checkIndex_2214a_2 : decode (mJ2_checkIndex_2214a).2.1 2 = .ok (.invokestatic 48, 3) := by decide +kernel
theorem dJ2_checkIndex_2214a_5 : decode (mJ2_checkIndex_2214a).2.1 5 = .ok (.invokestatic 414, 3) := by decide +kernel
theorem dJ2_checkIndex_2214a_8 : decode (mJ2_checkIndex_2214a).2.1 8 = .ok (.return_, 1) := by decide +kernel
theorem dJ2_checkBoundsBeginEnd_d044e_0 : decode (mJ2_checkBoundsBeginEnd_d044e).2.1 0 = .ok (.iload_n 0, 1) := by decide +kernel
theorem dJ2_checkBoundsBeginEnd_d044e_1 : decode (mJ2_checkBoundsBeginEnd_d044e).2.1 1 = .ok (.iload_n 1, 1) := by decide +kernel
theorem dJ2_checkBoundsBeginEnd_d044e_2 : decode (mJ2_checkBoundsBeginEnd_d044e).2.1 2 = .ok (.aload_n 2, 1) := by decide +kernel
theorem dJ2_checkBoundsBeginEnd_d044e_3 : decode (mJ2_checkBoundsBeginEnd_d044e).2.1 3 = .ok (.invokestatic 48, 3) := by decide +kernel
theorem dJ2_checkBoundsBeginEnd_d044e_6 : decode (mJ2_checkBoundsBeginEnd_d044e).2.1 6 = .ok (.invokestatic 241, 3) := by decide +kernel
theorem dJ2_checkBoundsBeginEnd_d044e_9 : decode (mJ2_checkBoundsBeginEnd_d044e).2.1 9 = .ok (.return_, 1) := by decide +kernel
theorem dJ7_fill_53178_0 : decode (mJ7_fill_53178).2.1 0 = .ok (.iconst 0, 1) := by decide +kernel
theorem dJ7_fill_53178_1 : decode (mJ7_fill_53178).2.1 1 = .ok (.istore_n 2, 1) := by decide +kernel
theorem dJ7_fill_53178_2 : decode (mJ7_fill_53178).2.1 2 = .ok (.aload_n 0, 1) := by decide +kernel
theorem dJ7_fill_53178_3 : decode (mJ7_fill_53178).2.1 3 = .ok (.arraylength, 1) := by decide +kernel
theorem dJ7_fill_53178_4 : decode (mJ7_fill_53178).2.1 4 = .ok (.istore_n 3, 1) := by decide +kernel
theorem dJ7_fill_53178_5 : decode (mJ7_fill_53178).2.1 5 = .ok (.iload_n 2, 1) := by decide +kernel
theorem dJ7_fill_53178_6 : decode (mJ7_fill_53178).2.1 6 = .ok (.iload_n 3, 1) := by decide +kernel
theorem dJ7_fill_53178_7 : decode (mJ7_fill_53178).2.1 7 = .ok (.if_icmp .ge 13, 3) := by decide +kernel
theorem dJ7_fill_53178_10 : decode (mJ7_fill_53178).2.1 10 = .ok (.aload_n 0, 1) := by decide +kernel
theorem dJ7_fill_53178_11 : decode (mJ7_fill_53178).2.1 11 = .ok (.iload_n 2, 1) := by decide +kernel
theorem dJ7_fill_53178_12 : decode (mJ7_fill_53178).2.1 12 = .ok (.iload_n 1, 1) := by decide +kernel
theorem dJ7_fill_53178_13 : decode (mJ7_fill_53178).2.1 13 = .ok (.iastore, 1) := by decide +kernel
theorem dJ7_fill_53178_14 : decode (mJ7_fill_53178).2.1 14 = .ok (.iinc 2 1, 3) := by decide +kernel
theorem dJ7_fill_53178_17 : decode (mJ7_fill_53178).2.1 17 = .ok (.goto (-12), 3) := by decide +kernel
theorem dJ7_fill_53178_20 : decode (mJ7_fill_53178).2.1 20 = .ok (.return_, 1) := by decide +kernel
theorem dJ7_copyOf_59c91_0 : decode (mJ7_copyOf_59c91).2.1 0 = .ok (.iload_n 1, 1) := by decide +kernel
theorem dJ7_copyOf_59c91_1 : decode (mJ7_copyOf_59c91).2.1 1 = .ok (.aload_n 0, 1) := by decide +kernel
theorem dJ7_copyOf_59c91_2 : decode (mJ7_copyOf_59c91).2.1 2 = .ok (.arraylength, 1) := by decide +kernel
theorem dJ7_copyOf_59c91_3 : decode (mJ7_copyOf_59c91).2.1 3 = .ok (.if_icmp .ne 11, 3) := by decide +kernel
theorem dJ7_copyOf_59c91_6 : decode (mJ7_copyOf_59c91).2.1 6 = .ok (.aload_n 0, 1) := by decide +kernel
theorem dJ7_copyOf_59c91_7 : decode (mJ7_copyOf_59c91).2.1 7 = .ok (.invokevirtual 316, 3) := by decide +kernel
theorem dJ7_copyOf_59c91_10 : decode (mJ7_copyOf_59c91).2.1 10 = .ok (.checkcast 317, 3) := by decide +kernel
theorem dJ7_copyOf_59c91_13 : decode (mJ7_copyOf_59c91).2.1 13 = .ok (.areturn, 1) := by decide +kernel
theorem dJ7_copyOf_59c91_14 : decode (mJ7_copyOf_59c91).2.1 14 = .ok (.iload_n 1, 1) := by decide +kernel
theorem dJ7_copyOf_59c91_15 : decode (mJ7_copyOf_59c91).2.1 15 = .ok (.newarray .int, 2) := by decide +kernel
theorem dJ7_copyOf_59c91_17 : decode (mJ7_copyOf_59c91).2.1 17 = .ok (.astore_n 2, 1) := by decide +kernel
theorem dJ7_copyOf_59c91_18 : decode (mJ7_copyOf_59c91).2.1 18 = .ok (.aload_n 0, 1) := by decide +kernel
theorem dJ7_copyOf_59c91_19 : decode (mJ7_copyOf_59c91).2.1 19 = .ok (.iconst 0, 1) := by decide +kernel
theorem dJ7_copyOf_59c91_20 : decode (mJ7_copyOf_59c91).2.1 20 = .ok (.aload_n 2, 1) := by decide +kernel
theorem dJ7_copyOf_59c91_21 : decode (mJ7_copyOf_59c91).2.1 21 = .ok (.iconst 0, 1) := by decide +kernel
theorem dJ7_copyOf_59c91_22 : decode (mJ7_copyOf_59c91).2.1 22 = .ok (.aload_n 0, 1) := by decide +kernel
theorem dJ7_copyOf_59c91_23 : decode (mJ7_copyOf_59c91).2.1 23 = .ok (.arraylength, 1) := by decide +kernel
theorem dJ7_copyOf_59c91_24 : decode (mJ7_copyOf_59c91).2.1 24 = .ok (.iload_n 1, 1) := by decide +kernel
theorem dJ7_copyOf_59c91_25 : decode (mJ7_copyOf_59c91).2.1 25 = .ok (.invokestatic 304, 3) := by decide +kernel
theorem dJ7_copyOf_59c91_28 : decode (mJ7_copyOf_59c91).2.1 28 = .ok (.invokestatic 150, 3) := by decide +kernel
theorem dJ7_copyOf_59c91_31 : decode (mJ7_copyOf_59c91).2.1 31 = .ok (.aload_n 2, 1) := by decide +kernel
theorem dJ7_copyOf_59c91_32 : decode (mJ7_copyOf_59c91).2.1 32 = .ok (.areturn, 1) := by decide +kernel
theorem dJ3_checkIndex_8e157_0 : decode (mJ3_checkIndex_8e157).2.1 0 = .ok (.iload_n 0, 1) := by decide +kernel
theorem dJ3_checkIndex_8e157_1 : decode (mJ3_checkIndex_8e157).2.1 1 = .ok (.ifCond .lt 8, 3) := by decide +kernel
theorem dJ3_checkIndex_8e157_4 : decode (mJ3_checkIndex_8e157).2.1 4 = .ok (.iload_n 0, 1) := by decide +kernel
theorem dJ3_checkIndex_8e157_5 : decode (mJ3_checkIndex_8e157).2.1 5 = .ok (.iload_n 1, 1) := by decide +kernel
theorem dJ3_checkIndex_8e157_6 : decode (mJ3_checkIndex_8e157).2.1 6 = .ok (.if_icmp .lt 10, 3) := by decide +kernel
theorem dJ3_checkIndex_8e157_9 : decode (mJ3_checkIndex_8e157).2.1 9 = .ok (.aload_n 2, 1) := by decide +kernel
theorem dJ3_checkIndex_8e157_10 : decode (mJ3_checkIndex_8e157).2.1 10 = .ok (.iload_n 0, 1) := by decide +kernel
theorem dJ3_checkIndex_8e157_11 : decode (mJ3_checkIndex_8e157).2.1 11 = .ok (.iload_n 1, 1) := by decide +kernel
theorem dJ3_checkIndex_8e157_12 : decode (mJ3_checkIndex_8e157).2.1 12 = .ok (.invokestatic 95, 3) := by decide +kernel
theorem dJ3_checkIndex_8e157_15 : decode (mJ3_checkIndex_8e157).2.1 15 = .ok (.athrow, 1) := by decide +kernel
theorem dJ3_checkIndex_8e157_16 : decode (mJ3_checkIndex_8e157).2.1 16 = .ok (.iload_n 0, 1) := by decide +kernel
theorem dJ3_checkIndex_8e157_17 : decode (mJ3_checkIndex_8e157).2.1 17 = .ok (.ireturn, 1) := by decide +kernel
theorem dJ3_checkFromToIndex_8c36e_0 : decode (mJ3_checkFromToIndex_8c36e).2.1 0 = .ok (.iload_n 0, 1) := by decide +kernel
theorem dJ3_checkFromToIndex_8c36e_1 : decode (mJ3_checkFromToIndex_8c36e).2.1 1 = .ok (.ifCond .lt 13, 3) := by decide +kernel
theorem dJ3_checkFromToIndex_8c36e_4 : decode (mJ3_checkFromToIndex_8c36e).2.1 4 = .ok (.iload_n 0, 1) := by decide +kernel
theorem dJ3_checkFromToIndex_8c36e_5 : decode (mJ3_checkFromToIndex_8c36e).2.1 5 = .ok (.iload_n 1, 1) := by decide +kernel
theorem dJ3_checkFromToIndex_8c36e_6 : decode (mJ3_checkFromToIndex_8c36e).2.1 6 = .ok (.if_icmp .gt 8, 3) := by decide +kernel
theorem dJ3_checkFromToIndex_8c36e_9 : decode (mJ3_checkFromToIndex_8c36e).2.1 9 = .ok (.iload_n 1, 1) := by decide +kernel
theorem dJ3_checkFromToIndex_8c36e_10 : decode (mJ3_checkFromToIndex_8c36e).2.1 10 = .ok (.iload_n 2, 1) := by decide +kernel
theorem dJ3_checkFromToIndex_8c36e_11 : decode (mJ3_checkFromToIndex_8c36e).2.1 11 = .ok (.if_icmp .le 11, 3) := by decide +kernel
theorem dJ3_checkFromToIndex_8c36e_14 : decode (mJ3_checkFromToIndex_8c36e).2.1 14 = .ok (.aload_n 3, 1) := by decide +kernel
theorem dJ3_checkFromToIndex_8c36e_15 : decode (mJ3_checkFromToIndex_8c36e).2.1 15 = .ok (.iload_n 0, 1) := by decide +kernel
theorem dJ3_checkFromToIndex_8c36e_16 : decode (mJ3_checkFromToIndex_8c36e).2.1 16 = .ok (.iload_n 1, 1) := by decide +kernel
theorem dJ3_checkFromToIndex_8c36e_17 : decode (mJ3_checkFromToIndex_8c36e).2.1 17 = .ok (.iload_n 2, 1) := by decide +kernel
theorem dJ3_checkFromToIndex_8c36e_18 : decode (mJ3_checkFromToIndex_8c36e).2.1 18 = .ok (.invokestatic 99, 3) := by decide +kernel
theorem dJ3_checkFromToIndex_8c36e_21 : decode (mJ3_checkFromToIndex_8c36e).2.1 21 = .ok (.athrow, 1) := by decide +kernel
theorem dJ3_checkFromToIndex_8c36e_22 : decode (mJ3_checkFromToIndex_8c36e).2.1 22 = .ok (.iload_n 0, 1) := by decide +kernel
theorem dJ3_checkFromToIndex_8c36e_23 : decode (mJ3_checkFromToIndex_8c36e).2.1 23 = .ok (.ireturn, 1) := by decide +kernel
theorem dL_law_0 : decode mL_law.2.1 0 = .ok (.new 7, 3) := by decide +kernel
theorem dL_law_3 : decode mL_law.2.1 3 = .ok (.dup, 1) := by decide +kernel
theorem dL_law_4 : decode mL_law.2.1 4 = .ok (.invokespecial 9, 3) := by decide +kernel
theorem dL_law_7 : decode mL_law.2.1 7 = .ok (.astore_n 1, 1) := by decide +kernel
theorem dL_law_8 : decode mL_law.2.1 8 = .ok (.new 10, 3) := by decide +kernel
theorem dL_law_11 : decode mL_law.2.1 11 = .ok (.dup, 1) := by decide +kernel
theorem dL_law_12 : decode mL_law.2.1 12 = .ok (.invokespecial 12, 3) := by decide +kernel
theorem dL_law_15 : decode mL_law.2.1 15 = .ok (.astore_n 2, 1) := by decide +kernel
theorem dL_law_16 : decode mL_law.2.1 16 = .ok (.iconst 0, 1) := by decide +kernel
theorem dL_law_17 : decode mL_law.2.1 17 = .ok (.istore_n 3, 1) := by decide +kernel
theorem dL_law_18 : decode mL_law.2.1 18 = .ok (.iload_n 3, 1) := by decide +kernel
theorem dL_law_19 : decode mL_law.2.1 19 = .ok (.aload_n 0, 1) := by decide +kernel
theorem dL_law_20 : decode mL_law.2.1 20 = .ok (.arraylength, 1) := by decide +kernel
theorem dL_law_21 : decode mL_law.2.1 21 = .ok (.bipush 6, 2) := by decide +kernel
theorem dL_law_23 : decode mL_law.2.1 23 = .ok (.isub, 1) := by decide +kernel
theorem dL_law_24 : decode mL_law.2.1 24 = .ok (.if_icmp .gt 1081, 3) := by decide +kernel
theorem dL_law_27 : decode mL_law.2.1 27 = .ok (.aload_n 0, 1) := by decide +kernel
theorem dL_law_28 : decode mL_law.2.1 28 = .ok (.iload_n 3, 1) := by decide +kernel
theorem dL_law_29 : decode mL_law.2.1 29 = .ok (.iaload, 1) := by decide +kernel
theorem dL_law_30 : decode mL_law.2.1 30 = .ok (.bipush 31, 2) := by decide +kernel
theorem dL_law_32 : decode mL_law.2.1 32 = .ok (.iand, 1) := by decide +kernel
theorem dL_law_33 : decode mL_law.2.1 33 = .ok (.tableswitch 1066 0 29 #[135, 178, 211, 254, 287, 320, 343, 356, 379, 392, 415, 448, 481, 514, 537, 570, 593, 626, 669, 692, 705, 728, 782, 795, 808, 831, 874, 917, 980, 1033], 135) := by decide +kernel
theorem dL_law_168 : decode mL_law.2.1 168 = .ok (.aload_n 1, 1) := by decide +kernel
theorem dL_law_169 : decode mL_law.2.1 169 = .ok (.aload_n 0, 1) := by decide +kernel
theorem dL_law_170 : decode mL_law.2.1 170 = .ok (.iload_n 3, 1) := by decide +kernel
theorem dL_law_171 : decode mL_law.2.1 171 = .ok (.iconst 1, 1) := by decide +kernel
theorem dL_law_172 : decode mL_law.2.1 172 = .ok (.iadd, 1) := by decide +kernel
theorem dL_law_173 : decode mL_law.2.1 173 = .ok (.iaload, 1) := by decide +kernel
theorem dL_law_174 : decode mL_law.2.1 174 = .ok (.aload_n 0, 1) := by decide +kernel
theorem dL_law_175 : decode mL_law.2.1 175 = .ok (.iload_n 3, 1) := by decide +kernel
theorem dL_law_176 : decode mL_law.2.1 176 = .ok (.iconst 2, 1) := by decide +kernel
theorem dL_law_177 : decode mL_law.2.1 177 = .ok (.iadd, 1) := by decide +kernel
theorem dL_law_178 : decode mL_law.2.1 178 = .ok (.iaload, 1) := by decide +kernel
theorem dL_law_179 : decode mL_law.2.1 179 = .ok (.aload_n 0, 1) := by decide +kernel
theorem dL_law_180 : decode mL_law.2.1 180 = .ok (.iload_n 3, 1) := by decide +kernel
theorem dL_law_181 : decode mL_law.2.1 181 = .ok (.iconst 3, 1) := by decide +kernel
theorem dL_law_182 : decode mL_law.2.1 182 = .ok (.iadd, 1) := by decide +kernel
theorem dL_law_183 : decode mL_law.2.1 183 = .ok (.iaload, 1) := by decide +kernel
theorem dL_law_184 : decode mL_law.2.1 184 = .ok (.invokevirtual 13, 3) := by decide +kernel
theorem dL_law_187 : decode mL_law.2.1 187 = .ok (.aload_n 2, 1) := by decide +kernel
theorem dL_law_188 : decode mL_law.2.1 188 = .ok (.aload_n 0, 1) := by decide +kernel
theorem dL_law_189 : decode mL_law.2.1 189 = .ok (.iload_n 3, 1) := by decide +kernel
theorem dL_law_190 : decode mL_law.2.1 190 = .ok (.iconst 1, 1) := by decide +kernel
theorem dL_law_191 : decode mL_law.2.1 191 = .ok (.iadd, 1) := by decide +kernel
theorem dL_law_192 : decode mL_law.2.1 192 = .ok (.iaload, 1) := by decide +kernel
theorem dL_law_193 : decode mL_law.2.1 193 = .ok (.aload_n 0, 1) := by decide +kernel
theorem dL_law_194 : decode mL_law.2.1 194 = .ok (.iload_n 3, 1) := by decide +kernel
theorem dL_law_195 : decode mL_law.2.1 195 = .ok (.iconst 2, 1) := by decide +kernel
theorem dL_law_196 : decode mL_law.2.1 196 = .ok (.iadd, 1) := by decide +kernel
theorem dL_law_197 : decode mL_law.2.1 197 = .ok (.iaload, 1) := by decide +kernel
theorem dL_law_198 : decode mL_law.2.1 198 = .ok (.aload_n 0, 1) := by decide +kernel
theorem dL_law_199 : decode mL_law.2.1 199 = .ok (.iload_n 3, 1) := by decide +kernel
theorem dL_law_200 : decode mL_law.2.1 200 = .ok (.iconst 3, 1) := by decide +kernel
theorem dL_law_201 : decode mL_law.2.1 201 = .ok (.iadd, 1) := by decide +kernel
theorem dL_law_202 : decode mL_law.2.1 202 = .ok (.iaload, 1) := by decide +kernel
theorem dL_law_203 : decode mL_law.2.1 203 = .ok (.invokevirtual 17, 3) := by decide +kernel
theorem dL_law_206 : decode mL_law.2.1 206 = .ok (.if_icmp .eq 893, 3) := by decide +kernel
theorem dL_law_209 : decode mL_law.2.1 209 = .ok (.iconst 0, 1) := by decide +kernel
theorem dL_law_210 : decode mL_law.2.1 210 = .ok (.ireturn, 1) := by decide +kernel
theorem dL_law_211 : decode mL_law.2.1 211 = .ok (.aload_n 1, 1) := by decide +kernel
theorem dL_law_212 : decode mL_law.2.1 212 = .ok (.aload_n 0, 1) := by decide +kernel
theorem dL_law_213 : decode mL_law.2.1 213 = .ok (.iload_n 3, 1) := by decide +kernel
theorem dL_law_214 : decode mL_law.2.1 214 = .ok (.iconst 1, 1) := by decide +kernel
theorem dL_law_215 : decode mL_law.2.1 215 = .ok (.iadd, 1) := by decide +kernel
theorem dL_law_216 : decode mL_law.2.1 216 = .ok (.iaload, 1) := by decide +kernel
theorem dL_law_217 : decode mL_law.2.1 217 = .ok (.aload_n 0, 1) := by decide +kernel
theorem dL_law_218 : decode mL_law.2.1 218 = .ok (.iload_n 3, 1) := by decide +kernel
theorem dL_law_219 : decode mL_law.2.1 219 = .ok (.iconst 2, 1) := by decide +kernel
theorem dL_law_220 : decode mL_law.2.1 220 = .ok (.iadd, 1) := by decide +kernel
theorem dL_law_221 : decode mL_law.2.1 221 = .ok (.iaload, 1) := by decide +kernel
theorem dL_law_222 : decode mL_law.2.1 222 = .ok (.invokevirtual 18, 3) := by decide +kernel
theorem dL_law_225 : decode mL_law.2.1 225 = .ok (.aload_n 2, 1) := by decide +kernel
theorem dL_law_226 : decode mL_law.2.1 226 = .ok (.aload_n 0, 1) := by decide +kernel
theorem dL_law_227 : decode mL_law.2.1 227 = .ok (.iload_n 3, 1) := by decide +kernel
theorem dL_law_228 : decode mL_law.2.1 228 = .ok (.iconst 1, 1) := by decide +kernel
theorem dL_law_229 : decode mL_law.2.1 229 = .ok (.iadd, 1) := by decide +kernel
theorem dL_law_230 : decode mL_law.2.1 230 = .ok (.iaload, 1) := by decide +kernel
theorem dL_law_231 : decode mL_law.2.1 231 = .ok (.aload_n 0, 1) := by decide +kernel
theorem dL_law_232 : decode mL_law.2.1 232 = .ok (.iload_n 3, 1) := by decide +kernel
theorem dL_law_233 : decode mL_law.2.1 233 = .ok (.iconst 2, 1) := by decide +kernel
theorem dL_law_234 : decode mL_law.2.1 234 = .ok (.iadd, 1) := by decide +kernel
theorem dL_law_235 : decode mL_law.2.1 235 = .ok (.iaload, 1) := by decide +kernel
theorem dL_law_236 : decode mL_law.2.1 236 = .ok (.invokevirtual 22, 3) := by decide +kernel
theorem dL_law_239 : decode mL_law.2.1 239 = .ok (.if_icmp .eq 860, 3) := by decide +kernel
theorem dL_law_242 : decode mL_law.2.1 242 = .ok (.iconst 0, 1) := by decide +kernel
theorem dL_law_243 : decode mL_law.2.1 243 = .ok (.ireturn, 1) := by decide +kernel
theorem dL_law_244 : decode mL_law.2.1 244 = .ok (.aload_n 1, 1) := by decide +kernel
theorem dL_law_245 : decode mL_law.2.1 245 = .ok (.aload_n 0, 1) := by decide +kernel
theorem dL_law_246 : decode mL_law.2.1 246 = .ok (.iload_n 3, 1) := by decide +kernel
theorem dL_law_247 : decode mL_law.2.1 247 = .ok (.iconst 1, 1) := by decide +kernel
theorem dL_law_248 : decode mL_law.2.1 248 = .ok (.iadd, 1) := by decide +kernel
theorem dL_law_249 : decode mL_law.2.1 249 = .ok (.iaload, 1) := by decide +kernel
theorem dL_law_250 : decode mL_law.2.1 250 = .ok (.aload_n 0, 1) := by decide +kernel
theorem dL_law_251 : decode mL_law.2.1 251 = .ok (.iload_n 3, 1) := by decide +kernel
theorem dL_law_252 : decode mL_law.2.1 252 = .ok (.iconst 2, 1) := by decide +kernel
theorem dL_law_253 : decode mL_law.2.1 253 = .ok (.iadd, 1) := by decide +kernel
theorem dL_law_254 : decode mL_law.2.1 254 = .ok (.iaload, 1) := by decide +kernel
theorem dL_law_255 : decode mL_law.2.1 255 = .ok (.aload_n 0, 1) := by decide +kernel
theorem dL_law_256 : decode mL_law.2.1 256 = .ok (.iload_n 3, 1) := by decide +kernel
theorem dL_law_257 : decode mL_law.2.1 257 = .ok (.iconst 3, 1) := by decide +kernel
theorem dL_law_258 : decode mL_law.2.1 258 = .ok (.iadd, 1) := by decide +kernel
theorem dL_law_259 : decode mL_law.2.1 259 = .ok (.iaload, 1) := by decide +kernel
theorem dL_law_260 : decode mL_law.2.1 260 = .ok (.invokevirtual 23, 3) := by decide +kernel
theorem dL_law_263 : decode mL_law.2.1 263 = .ok (.aload_n 2, 1) := by decide +kernel
theorem dL_law_264 : decode mL_law.2.1 264 = .ok (.aload_n 0, 1) := by decide +kernel
theorem dL_law_265 : decode mL_law.2.1 265 = .ok (.iload_n 3, 1) := by decide +kernel
theorem dL_law_266 : decode mL_law.2.1 266 = .ok (.iconst 1, 1) := by decide +kernel
theorem dL_law_267 : decode mL_law.2.1 267 = .ok (.iadd, 1) := by decide +kernel
theorem dL_law_268 : decode mL_law.2.1 268 = .ok (.iaload, 1) := by decide +kernel
theorem dL_law_269 : decode mL_law.2.1 269 = .ok (.aload_n 0, 1) := by decide +kernel
theorem dL_law_270 : decode mL_law.2.1 270 = .ok (.iload_n 3, 1) := by decide +kernel
theorem dL_law_271 : decode mL_law.2.1 271 = .ok (.iconst 2, 1) := by decide +kernel
theorem dL_law_272 : decode mL_law.2.1 272 = .ok (.iadd, 1) := by decide +kernel
theorem dL_law_273 : decode mL_law.2.1 273 = .ok (.iaload, 1) := by decide +kernel
theorem dL_law_274 : decode mL_law.2.1 274 = .ok (.aload_n 0, 1) := by decide +kernel
theorem dL_law_275 : decode mL_law.2.1 275 = .ok (.iload_n 3, 1) := by decide +kernel
theorem dL_law_276 : decode mL_law.2.1 276 = .ok (.iconst 3, 1) := by decide +kernel
theorem dL_law_277 : decode mL_law.2.1 277 = .ok (.iadd, 1) := by decide +kernel
theorem dL_law_278 : decode mL_law.2.1 278 = .ok (.iaload, 1) := by decide +kernel
theorem dL_law_279 : decode mL_law.2.1 279 = .ok (.invokevirtual 26, 3) := by decide +kernel
theorem dL_law_282 : decode mL_law.2.1 282 = .ok (.if_icmp .eq 817, 3) := by decide +kernel
theorem dL_law_285 : decode mL_law.2.1 285 = .ok (.iconst 0, 1) := by decide +kernel
theorem dL_law_286 : decode mL_law.2.1 286 = .ok (.ireturn, 1) := by decide +kernel
theorem dL_law_287 : decode mL_law.2.1 287 = .ok (.aload_n 1, 1) := by decide +kernel
theorem dL_law_288 : decode mL_law.2.1 288 = .ok (.aload_n 0, 1) := by decide +kernel
theorem dL_law_289 : decode mL_law.2.1 289 = .ok (.iload_n 3, 1) := by decide +kernel
theorem dL_law_290 : decode mL_law.2.1 290 = .ok (.iconst 1, 1) := by decide +kernel
theorem dL_law_291 : decode mL_law.2.1 291 = .ok (.iadd, 1) := by decide +kernel
theorem dL_law_292 : decode mL_law.2.1 292 = .ok (.iaload, 1) := by decide +kernel
theorem dL_law_293 : decode mL_law.2.1 293 = .ok (.aload_n 0, 1) := by decide +kernel
theorem dL_law_294 : decode mL_law.2.1 294 = .ok (.iload_n 3, 1) := by decide +kernel
theorem dL_law_295 : decode mL_law.2.1 295 = .ok (.iconst 2, 1) := by decide +kernel
theorem dL_law_296 : decode mL_law.2.1 296 = .ok (.iadd, 1) := by decide +kernel
theorem dL_law_297 : decode mL_law.2.1 297 = .ok (.iaload, 1) := by decide +kernel
theorem dL_law_298 : decode mL_law.2.1 298 = .ok (.invokevirtual 27, 3) := by decide +kernel
theorem dL_law_301 : decode mL_law.2.1 301 = .ok (.aload_n 2, 1) := by decide +kernel
theorem dL_law_302 : decode mL_law.2.1 302 = .ok (.aload_n 0, 1) := by decide +kernel
theorem dL_law_303 : decode mL_law.2.1 303 = .ok (.iload_n 3, 1) := by decide +kernel
theorem dL_law_304 : decode mL_law.2.1 304 = .ok (.iconst 1, 1) := by decide +kernel
theorem dL_law_305 : decode mL_law.2.1 305 = .ok (.iadd, 1) := by decide +kernel
theorem dL_law_306 : decode mL_law.2.1 306 = .ok (.iaload, 1) := by decide +kernel
theorem dL_law_307 : decode mL_law.2.1 307 = .ok (.aload_n 0, 1) := by decide +kernel
theorem dL_law_308 : decode mL_law.2.1 308 = .ok (.iload_n 3, 1) := by decide +kernel
theorem dL_law_309 : decode mL_law.2.1 309 = .ok (.iconst 2, 1) := by decide +kernel
theorem dL_law_310 : decode mL_law.2.1 310 = .ok (.iadd, 1) := by decide +kernel
theorem dL_law_311 : decode mL_law.2.1 311 = .ok (.iaload, 1) := by decide +kernel
theorem dL_law_312 : decode mL_law.2.1 312 = .ok (.invokevirtual 30, 3) := by decide +kernel
theorem dL_law_315 : decode mL_law.2.1 315 = .ok (.if_icmp .eq 784, 3) := by decide +kernel
theorem dL_law_318 : decode mL_law.2.1 318 = .ok (.iconst 0, 1) := by decide +kernel
theorem dL_law_319 : decode mL_law.2.1 319 = .ok (.ireturn, 1) := by decide +kernel
theorem dL_law_320 : decode mL_law.2.1 320 = .ok (.aload_n 1, 1) := by decide +kernel
theorem dL_law_321 : decode mL_law.2.1 321 = .ok (.aload_n 0, 1) := by decide +kernel
theorem dL_law_322 : decode mL_law.2.1 322 = .ok (.iload_n 3, 1) := by decide +kernel
theorem dL_law_323 : decode mL_law.2.1 323 = .ok (.iconst 1, 1) := by decide +kernel
theorem dL_law_324 : decode mL_law.2.1 324 = .ok (.iadd, 1) := by decide +kernel
theorem dL_law_325 : decode mL_law.2.1 325 = .ok (.iaload, 1) := by decide +kernel
theorem dL_law_326 : decode mL_law.2.1 326 = .ok (.aload_n 0, 1) := by decide +kernel
theorem dL_law_327 : decode mL_law.2.1 327 = .ok (.iload_n 3, 1) := by decide +kernel
theorem dL_law_328 : decode mL_law.2.1 328 = .ok (.iconst 2, 1) := by decide +kernel
theorem dL_law_329 : decode mL_law.2.1 329 = .ok (.iadd, 1) := by decide +kernel
theorem dL_law_330 : decode mL_law.2.1 330 = .ok (.iaload, 1) := by decide +kernel
theorem dL_law_331 : decode mL_law.2.1 331 = .ok (.invokevirtual 31, 3) := by decide +kernel
theorem dL_law_334 : decode mL_law.2.1 334 = .ok (.aload_n 2, 1) := by decide +kernel
theorem dL_law_335 : decode mL_law.2.1 335 = .ok (.aload_n 0, 1) := by decide +kernel
theorem dL_law_336 : decode mL_law.2.1 336 = .ok (.iload_n 3, 1) := by decide +kernel
theorem dL_law_337 : decode mL_law.2.1 337 = .ok (.iconst 1, 1) := by decide +kernel
theorem dL_law_338 : decode mL_law.2.1 338 = .ok (.iadd, 1) := by decide +kernel
theorem dL_law_339 : decode mL_law.2.1 339 = .ok (.iaload, 1) := by decide +kernel
theorem dL_law_340 : decode mL_law.2.1 340 = .ok (.aload_n 0, 1) := by decide +kernel
theorem dL_law_341 : decode mL_law.2.1 341 = .ok (.iload_n 3, 1) := by decide +kernel
theorem dL_law_342 : decode mL_law.2.1 342 = .ok (.iconst 2, 1) := by decide +kernel
theorem dL_law_343 : decode mL_law.2.1 343 = .ok (.iadd, 1) := by decide +kernel
theorem dL_law_344 : decode mL_law.2.1 344 = .ok (.iaload, 1) := by decide +kernel
theorem dL_law_345 : decode mL_law.2.1 345 = .ok (.invokevirtual 34, 3) := by decide +kernel
theorem dL_law_348 : decode mL_law.2.1 348 = .ok (.if_icmp .eq 751, 3) := by decide +kernel
theorem dL_law_351 : decode mL_law.2.1 351 = .ok (.iconst 0, 1) := by decide +kernel
theorem dL_law_352 : decode mL_law.2.1 352 = .ok (.ireturn, 1) := by decide +kernel
theorem dL_law_353 : decode mL_law.2.1 353 = .ok (.aload_n 1, 1) := by decide +kernel
theorem dL_law_354 : decode mL_law.2.1 354 = .ok (.aload_n 0, 1) := by decide +kernel
theorem dL_law_355 : decode mL_law.2.1 355 = .ok (.iload_n 3, 1) := by decide +kernel
theorem dL_law_356 : decode mL_law.2.1 356 = .ok (.iconst 1, 1) := by decide +kernel
theorem dL_law_357 : decode mL_law.2.1 357 = .ok (.iadd, 1) := by decide +kernel
theorem dL_law_358 : decode mL_law.2.1 358 = .ok (.iaload, 1) := by decide +kernel
theorem dL_law_359 : decode mL_law.2.1 359 = .ok (.invokevirtual 35, 3) := by decide +kernel
theorem dL_law_362 : decode mL_law.2.1 362 = .ok (.aload_n 2, 1) := by decide +kernel
theorem dL_law_363 : decode mL_law.2.1 363 = .ok (.aload_n 0, 1) := by decide +kernel
theorem dL_law_364 : decode mL_law.2.1 364 = .ok (.iload_n 3, 1) := by decide +kernel
theorem dL_law_365 : decode mL_law.2.1 365 = .ok (.iconst 1, 1) := by decide +kernel
theorem dL_law_366 : decode mL_law.2.1 366 = .ok (.iadd, 1) := by decide +kernel
theorem dL_law_367 : decode mL_law.2.1 367 = .ok (.iaload, 1) := by decide +kernel
theorem dL_law_368 : decode mL_law.2.1 368 = .ok (.invokevirtual 39, 3) := by decide +kernel
theorem dL_law_371 : decode mL_law.2.1 371 = .ok (.if_icmp .eq 728, 3) := by decide +kernel
theorem dL_law_374 : decode mL_law.2.1 374 = .ok (.iconst 0, 1) := by decide +kernel
theorem dL_law_375 : decode mL_law.2.1 375 = .ok (.ireturn, 1) := by decide +kernel
theorem dL_law_376 : decode mL_law.2.1 376 = .ok (.aload_n 1, 1) := by decide +kernel
theorem dL_law_377 : decode mL_law.2.1 377 = .ok (.invokevirtual 40, 3) := by decide +kernel
theorem dL_law_380 : decode mL_law.2.1 380 = .ok (.aload_n 2, 1) := by decide +kernel
theorem dL_law_381 : decode mL_law.2.1 381 = .ok (.invokevirtual 44, 3) := by decide +kernel
theorem dL_law_384 : decode mL_law.2.1 384 = .ok (.if_icmp .eq 715, 3) := by decide +kernel
theorem dL_law_387 : decode mL_law.2.1 387 = .ok (.iconst 0, 1) := by decide +kernel
theorem dL_law_388 : decode mL_law.2.1 388 = .ok (.ireturn, 1) := by decide +kernel
theorem dL_law_389 : decode mL_law.2.1 389 = .ok (.aload_n 1, 1) := by decide +kernel
theorem dL_law_390 : decode mL_law.2.1 390 = .ok (.aload_n 0, 1) := by decide +kernel
theorem dL_law_391 : decode mL_law.2.1 391 = .ok (.iload_n 3, 1) := by decide +kernel
theorem dL_law_392 : decode mL_law.2.1 392 = .ok (.iconst 1, 1) := by decide +kernel
theorem dL_law_393 : decode mL_law.2.1 393 = .ok (.iadd, 1) := by decide +kernel
theorem dL_law_394 : decode mL_law.2.1 394 = .ok (.iaload, 1) := by decide +kernel
theorem dL_law_395 : decode mL_law.2.1 395 = .ok (.invokevirtual 45, 3) := by decide +kernel
theorem dL_law_398 : decode mL_law.2.1 398 = .ok (.aload_n 2, 1) := by decide +kernel
theorem dL_law_399 : decode mL_law.2.1 399 = .ok (.aload_n 0, 1) := by decide +kernel
theorem dL_law_400 : decode mL_law.2.1 400 = .ok (.iload_n 3, 1) := by decide +kernel
theorem dL_law_401 : decode mL_law.2.1 401 = .ok (.iconst 1, 1) := by decide +kernel
theorem dL_law_402 : decode mL_law.2.1 402 = .ok (.iadd, 1) := by decide +kernel
theorem dL_law_403 : decode mL_law.2.1 403 = .ok (.iaload, 1) := by decide +kernel
theorem dL_law_404 : decode mL_law.2.1 404 = .ok (.invokevirtual 48, 3) := by decide +kernel
theorem dL_law_407 : decode mL_law.2.1 407 = .ok (.if_icmp .eq 692, 3) := by decide +kernel
theorem dL_law_410 : decode mL_law.2.1 410 = .ok (.iconst 0, 1) := by decide +kernel
theorem dL_law_411 : decode mL_law.2.1 411 = .ok (.ireturn, 1) := by decide +kernel
theorem dL_law_412 : decode mL_law.2.1 412 = .ok (.aload_n 1, 1) := by decide +kernel
theorem dL_law_413 : decode mL_law.2.1 413 = .ok (.invokevirtual 49, 3) := by decide +kernel
theorem dL_law_416 : decode mL_law.2.1 416 = .ok (.aload_n 2, 1) := by decide +kernel
theorem dL_law_417 : decode mL_law.2.1 417 = .ok (.invokevirtual 52, 3) := by decide +kernel
theorem dL_law_420 : decode mL_law.2.1 420 = .ok (.if_icmp .eq 679, 3) := by decide +kernel
theorem dL_law_423 : decode mL_law.2.1 423 = .ok (.iconst 0, 1) := by decide +kernel
theorem dL_law_424 : decode mL_law.2.1 424 = .ok (.ireturn, 1) := by decide +kernel
theorem dL_law_425 : decode mL_law.2.1 425 = .ok (.aload_n 1, 1) := by decide +kernel
theorem dL_law_426 : decode mL_law.2.1 426 = .ok (.aload_n 0, 1) := by decide +kernel
theorem dL_law_427 : decode mL_law.2.1 427 = .ok (.iload_n 3, 1) := by decide +kernel
theorem dL_law_428 : decode mL_law.2.1 428 = .ok (.iconst 1, 1) := by decide +kernel
theorem dL_law_429 : decode mL_law.2.1 429 = .ok (.iadd, 1) := by decide +kernel
theorem dL_law_430 : decode mL_law.2.1 430 = .ok (.iaload, 1) := by decide +kernel
theorem dL_law_431 : decode mL_law.2.1 431 = .ok (.invokevirtual 53, 3) := by decide +kernel
theorem dL_law_434 : decode mL_law.2.1 434 = .ok (.aload_n 2, 1) := by decide +kernel
theorem dL_law_435 : decode mL_law.2.1 435 = .ok (.aload_n 0, 1) := by decide +kernel
theorem dL_law_436 : decode mL_law.2.1 436 = .ok (.iload_n 3, 1) := by decide +kernel
theorem dL_law_437 : decode mL_law.2.1 437 = .ok (.iconst 1, 1) := by decide +kernel
theorem dL_law_438 : decode mL_law.2.1 438 = .ok (.iadd, 1) := by decide +kernel
theorem dL_law_439 : decode mL_law.2.1 439 = .ok (.iaload, 1) := by decide +kernel
theorem dL_law_440 : decode mL_law.2.1 440 = .ok (.invokevirtual 56, 3) := by decide +kernel
theorem dL_law_443 : decode mL_law.2.1 443 = .ok (.if_icmp .eq 656, 3) := by decide +kernel
theorem dL_law_446 : decode mL_law.2.1 446 = .ok (.iconst 0, 1) := by decide +kernel
theorem dL_law_447 : decode mL_law.2.1 447 = .ok (.ireturn, 1) := by decide +kernel
theorem dL_law_448 : decode mL_law.2.1 448 = .ok (.aload_n 1, 1) := by decide +kernel
theorem dL_law_449 : decode mL_law.2.1 449 = .ok (.aload_n 0, 1) := by decide +kernel
theorem dL_law_450 : decode mL_law.2.1 450 = .ok (.iload_n 3, 1) := by decide +kernel
theorem dL_law_451 : decode mL_law.2.1 451 = .ok (.iconst 1, 1) := by decide +kernel
theorem dL_law_452 : decode mL_law.2.1 452 = .ok (.iadd, 1) := by decide +kernel
theorem dL_law_453 : decode mL_law.2.1 453 = .ok (.iaload, 1) := by decide +kernel
theorem dL_law_454 : decode mL_law.2.1 454 = .ok (.aload_n 0, 1) := by decide +kernel
theorem dL_law_455 : decode mL_law.2.1 455 = .ok (.iload_n 3, 1) := by decide +kernel
theorem dL_law_456 : decode mL_law.2.1 456 = .ok (.iconst 2, 1) := by decide +kernel
theorem dL_law_457 : decode mL_law.2.1 457 = .ok (.iadd, 1) := by decide +kernel
theorem dL_law_458 : decode mL_law.2.1 458 = .ok (.iaload, 1) := by decide +kernel
theorem dL_law_459 : decode mL_law.2.1 459 = .ok (.invokevirtual 57, 3) := by decide +kernel
theorem dL_law_462 : decode mL_law.2.1 462 = .ok (.aload_n 2, 1) := by decide +kernel
theorem dL_law_463 : decode mL_law.2.1 463 = .ok (.aload_n 0, 1) := by decide +kernel
theorem dL_law_464 : decode mL_law.2.1 464 = .ok (.iload_n 3, 1) := by decide +kernel
theorem dL_law_465 : decode mL_law.2.1 465 = .ok (.iconst 1, 1) := by decide +kernel
theorem dL_law_466 : decode mL_law.2.1 466 = .ok (.iadd, 1) := by decide +kernel
theorem dL_law_467 : decode mL_law.2.1 467 = .ok (.iaload, 1) := by decide +kernel
theorem dL_law_468 : decode mL_law.2.1 468 = .ok (.aload_n 0, 1) := by decide +kernel
theorem dL_law_469 : decode mL_law.2.1 469 = .ok (.iload_n 3, 1) := by decide +kernel
theorem dL_law_470 : decode mL_law.2.1 470 = .ok (.iconst 2, 1) := by decide +kernel
theorem dL_law_471 : decode mL_law.2.1 471 = .ok (.iadd, 1) := by decide +kernel
theorem dL_law_472 : decode mL_law.2.1 472 = .ok (.iaload, 1) := by decide +kernel
theorem dL_law_473 : decode mL_law.2.1 473 = .ok (.invokevirtual 60, 3) := by decide +kernel
theorem dL_law_476 : decode mL_law.2.1 476 = .ok (.if_icmp .eq 623, 3) := by decide +kernel
theorem dL_law_479 : decode mL_law.2.1 479 = .ok (.iconst 0, 1) := by decide +kernel
theorem dL_law_480 : decode mL_law.2.1 480 = .ok (.ireturn, 1) := by decide +kernel
theorem dL_law_481 : decode mL_law.2.1 481 = .ok (.aload_n 1, 1) := by decide +kernel
theorem dL_law_482 : decode mL_law.2.1 482 = .ok (.aload_n 0, 1) := by decide +kernel
theorem dL_law_483 : decode mL_law.2.1 483 = .ok (.iload_n 3, 1) := by decide +kernel
theorem dL_law_484 : decode mL_law.2.1 484 = .ok (.iconst 1, 1) := by decide +kernel
theorem dL_law_485 : decode mL_law.2.1 485 = .ok (.iadd, 1) := by decide +kernel
theorem dL_law_486 : decode mL_law.2.1 486 = .ok (.iaload, 1) := by decide +kernel
theorem dL_law_487 : decode mL_law.2.1 487 = .ok (.aload_n 0, 1) := by decide +kernel
theorem dL_law_488 : decode mL_law.2.1 488 = .ok (.iload_n 3, 1) := by decide +kernel
theorem dL_law_489 : decode mL_law.2.1 489 = .ok (.iconst 2, 1) := by decide +kernel
theorem dL_law_490 : decode mL_law.2.1 490 = .ok (.iadd, 1) := by decide +kernel
theorem dL_law_491 : decode mL_law.2.1 491 = .ok (.iaload, 1) := by decide +kernel
theorem dL_law_492 : decode mL_law.2.1 492 = .ok (.invokevirtual 61, 3) := by decide +kernel
theorem dL_law_495 : decode mL_law.2.1 495 = .ok (.aload_n 2, 1) := by decide +kernel
theorem dL_law_496 : decode mL_law.2.1 496 = .ok (.aload_n 0, 1) := by decide +kernel
theorem dL_law_497 : decode mL_law.2.1 497 = .ok (.iload_n 3, 1) := by decide +kernel
theorem dL_law_498 : decode mL_law.2.1 498 = .ok (.iconst 1, 1) := by decide +kernel
theorem dL_law_499 : decode mL_law.2.1 499 = .ok (.iadd, 1) := by decide +kernel
theorem dL_law_500 : decode mL_law.2.1 500 = .ok (.iaload, 1) := by decide +kernel
theorem dL_law_501 : decode mL_law.2.1 501 = .ok (.aload_n 0, 1) := by decide +kernel
theorem dL_law_502 : decode mL_law.2.1 502 = .ok (.iload_n 3, 1) := by decide +kernel
theorem dL_law_503 : decode mL_law.2.1 503 = .ok (.iconst 2, 1) := by decide +kernel
theorem dL_law_504 : decode mL_law.2.1 504 = .ok (.iadd, 1) := by decide +kernel
theorem dL_law_505 : decode mL_law.2.1 505 = .ok (.iaload, 1) := by decide +kernel
theorem dL_law_506 : decode mL_law.2.1 506 = .ok (.invokevirtual 64, 3) := by decide +kernel
theorem dL_law_509 : decode mL_law.2.1 509 = .ok (.if_icmp .eq 590, 3) := by decide +kernel
theorem dL_law_512 : decode mL_law.2.1 512 = .ok (.iconst 0, 1) := by decide +kernel
theorem dL_law_513 : decode mL_law.2.1 513 = .ok (.ireturn, 1) := by decide +kernel
theorem dL_law_514 : decode mL_law.2.1 514 = .ok (.aload_n 1, 1) := by decide +kernel
theorem dL_law_515 : decode mL_law.2.1 515 = .ok (.aload_n 0, 1) := by decide +kernel
theorem dL_law_516 : decode mL_law.2.1 516 = .ok (.iload_n 3, 1) := by decide +kernel
theorem dL_law_517 : decode mL_law.2.1 517 = .ok (.iconst 1, 1) := by decide +kernel
theorem dL_law_518 : decode mL_law.2.1 518 = .ok (.iadd, 1) := by decide +kernel
theorem dL_law_519 : decode mL_law.2.1 519 = .ok (.iaload, 1) := by decide +kernel
theorem dL_law_520 : decode mL_law.2.1 520 = .ok (.aload_n 0, 1) := by decide +kernel
theorem dL_law_521 : decode mL_law.2.1 521 = .ok (.iload_n 3, 1) := by decide +kernel
theorem dL_law_522 : decode mL_law.2.1 522 = .ok (.iconst 2, 1) := by decide +kernel
theorem dL_law_523 : decode mL_law.2.1 523 = .ok (.iadd, 1) := by decide +kernel
theorem dL_law_524 : decode mL_law.2.1 524 = .ok (.iaload, 1) := by decide +kernel
theorem dL_law_525 : decode mL_law.2.1 525 = .ok (.invokevirtual 65, 3) := by decide +kernel
theorem dL_law_528 : decode mL_law.2.1 528 = .ok (.aload_n 2, 1) := by decide +kernel
theorem dL_law_529 : decode mL_law.2.1 529 = .ok (.aload_n 0, 1) := by decide +kernel
theorem dL_law_530 : decode mL_law.2.1 530 = .ok (.iload_n 3, 1) := by decide +kernel
theorem dL_law_531 : decode mL_law.2.1 531 = .ok (.iconst 1, 1) := by decide +kernel
theorem dL_law_532 : decode mL_law.2.1 532 = .ok (.iadd, 1) := by decide +kernel
theorem dL_law_533 : decode mL_law.2.1 533 = .ok (.iaload, 1) := by decide +kernel
theorem dL_law_534 : decode mL_law.2.1 534 = .ok (.aload_n 0, 1) := by decide +kernel
theorem dL_law_535 : decode mL_law.2.1 535 = .ok (.iload_n 3, 1) := by decide +kernel
theorem dL_law_536 : decode mL_law.2.1 536 = .ok (.iconst 2, 1) := by decide +kernel
theorem dL_law_537 : decode mL_law.2.1 537 = .ok (.iadd, 1) := by decide +kernel
theorem dL_law_538 : decode mL_law.2.1 538 = .ok (.iaload, 1) := by decide +kernel
theorem dL_law_539 : decode mL_law.2.1 539 = .ok (.invokevirtual 68, 3) := by decide +kernel
theorem dL_law_542 : decode mL_law.2.1 542 = .ok (.if_icmp .eq 557, 3) := by decide +kernel
theorem dL_law_545 : decode mL_law.2.1 545 = .ok (.iconst 0, 1) := by decide +kernel
theorem dL_law_546 : decode mL_law.2.1 546 = .ok (.ireturn, 1) := by decide +kernel
theorem dL_law_547 : decode mL_law.2.1 547 = .ok (.aload_n 1, 1) := by decide +kernel
theorem dL_law_548 : decode mL_law.2.1 548 = .ok (.aload_n 0, 1) := by decide +kernel
theorem dL_law_549 : decode mL_law.2.1 549 = .ok (.iload_n 3, 1) := by decide +kernel
theorem dL_law_550 : decode mL_law.2.1 550 = .ok (.iconst 1, 1) := by decide +kernel
theorem dL_law_551 : decode mL_law.2.1 551 = .ok (.iadd, 1) := by decide +kernel
theorem dL_law_552 : decode mL_law.2.1 552 = .ok (.iaload, 1) := by decide +kernel
theorem dL_law_553 : decode mL_law.2.1 553 = .ok (.invokevirtual 69, 3) := by decide +kernel
theorem dL_law_556 : decode mL_law.2.1 556 = .ok (.aload_n 2, 1) := by decide +kernel
theorem dL_law_557 : decode mL_law.2.1 557 = .ok (.aload_n 0, 1) := by decide +kernel
theorem dL_law_558 : decode mL_law.2.1 558 = .ok (.iload_n 3, 1) := by decide +kernel
theorem dL_law_559 : decode mL_law.2.1 559 = .ok (.iconst 1, 1) := by decide +kernel
theorem dL_law_560 : decode mL_law.2.1 560 = .ok (.iadd, 1) := by decide +kernel
theorem dL_law_561 : decode mL_law.2.1 561 = .ok (.iaload, 1) := by decide +kernel
theorem dL_law_562 : decode mL_law.2.1 562 = .ok (.invokevirtual 72, 3) := by decide +kernel
theorem dL_law_565 : decode mL_law.2.1 565 = .ok (.if_icmp .eq 534, 3) := by decide +kernel
theorem dL_law_568 : decode mL_law.2.1 568 = .ok (.iconst 0, 1) := by decide +kernel
theorem dL_law_569 : decode mL_law.2.1 569 = .ok (.ireturn, 1) := by decide +kernel
theorem dL_law_570 : decode mL_law.2.1 570 = .ok (.aload_n 1, 1) := by decide +kernel
theorem dL_law_571 : decode mL_law.2.1 571 = .ok (.aload_n 0, 1) := by decide +kernel
theorem dL_law_572 : decode mL_law.2.1 572 = .ok (.iload_n 3, 1) := by decide +kernel
theorem dL_law_573 : decode mL_law.2.1 573 = .ok (.iconst 1, 1) := by decide +kernel
theorem dL_law_574 : decode mL_law.2.1 574 = .ok (.iadd, 1) := by decide +kernel
theorem dL_law_575 : decode mL_law.2.1 575 = .ok (.iaload, 1) := by decide +kernel
theorem dL_law_576 : decode mL_law.2.1 576 = .ok (.aload_n 0, 1) := by decide +kernel
theorem dL_law_577 : decode mL_law.2.1 577 = .ok (.iload_n 3, 1) := by decide +kernel
theorem dL_law_578 : decode mL_law.2.1 578 = .ok (.iconst 2, 1) := by decide +kernel
theorem dL_law_579 : decode mL_law.2.1 579 = .ok (.iadd, 1) := by decide +kernel
theorem dL_law_580 : decode mL_law.2.1 580 = .ok (.iaload, 1) := by decide +kernel
theorem dL_law_581 : decode mL_law.2.1 581 = .ok (.invokevirtual 73, 3) := by decide +kernel
theorem dL_law_584 : decode mL_law.2.1 584 = .ok (.aload_n 2, 1) := by decide +kernel
theorem dL_law_585 : decode mL_law.2.1 585 = .ok (.aload_n 0, 1) := by decide +kernel
theorem dL_law_586 : decode mL_law.2.1 586 = .ok (.iload_n 3, 1) := by decide +kernel
theorem dL_law_587 : decode mL_law.2.1 587 = .ok (.iconst 1, 1) := by decide +kernel
theorem dL_law_588 : decode mL_law.2.1 588 = .ok (.iadd, 1) := by decide +kernel
theorem dL_law_589 : decode mL_law.2.1 589 = .ok (.iaload, 1) := by decide +kernel
theorem dL_law_590 : decode mL_law.2.1 590 = .ok (.aload_n 0, 1) := by decide +kernel
theorem dL_law_591 : decode mL_law.2.1 591 = .ok (.iload_n 3, 1) := by decide +kernel
theorem dL_law_592 : decode mL_law.2.1 592 = .ok (.iconst 2, 1) := by decide +kernel
theorem dL_law_593 : decode mL_law.2.1 593 = .ok (.iadd, 1) := by decide +kernel
theorem dL_law_594 : decode mL_law.2.1 594 = .ok (.iaload, 1) := by decide +kernel
theorem dL_law_595 : decode mL_law.2.1 595 = .ok (.invokevirtual 76, 3) := by decide +kernel
theorem dL_law_598 : decode mL_law.2.1 598 = .ok (.if_icmp .eq 501, 3) := by decide +kernel
theorem dL_law_601 : decode mL_law.2.1 601 = .ok (.iconst 0, 1) := by decide +kernel
theorem dL_law_602 : decode mL_law.2.1 602 = .ok (.ireturn, 1) := by decide +kernel
theorem dL_law_603 : decode mL_law.2.1 603 = .ok (.aload_n 1, 1) := by decide +kernel
theorem dL_law_604 : decode mL_law.2.1 604 = .ok (.aload_n 0, 1) := by decide +kernel
theorem dL_law_605 : decode mL_law.2.1 605 = .ok (.iload_n 3, 1) := by decide +kernel
theorem dL_law_606 : decode mL_law.2.1 606 = .ok (.iconst 1, 1) := by decide +kernel
theorem dL_law_607 : decode mL_law.2.1 607 = .ok (.iadd, 1) := by decide +kernel
theorem dL_law_608 : decode mL_law.2.1 608 = .ok (.iaload, 1) := by decide +kernel
theorem dL_law_609 : decode mL_law.2.1 609 = .ok (.invokevirtual 77, 3) := by decide +kernel
theorem dL_law_612 : decode mL_law.2.1 612 = .ok (.aload_n 2, 1) := by decide +kernel
theorem dL_law_613 : decode mL_law.2.1 613 = .ok (.aload_n 0, 1) := by decide +kernel
theorem dL_law_614 : decode mL_law.2.1 614 = .ok (.iload_n 3, 1) := by decide +kernel
theorem dL_law_615 : decode mL_law.2.1 615 = .ok (.iconst 1, 1) := by decide +kernel
theorem dL_law_616 : decode mL_law.2.1 616 = .ok (.iadd, 1) := by decide +kernel
theorem dL_law_617 : decode mL_law.2.1 617 = .ok (.iaload, 1) := by decide +kernel
theorem dL_law_618 : decode mL_law.2.1 618 = .ok (.invokevirtual 80, 3) := by decide +kernel
theorem dL_law_621 : decode mL_law.2.1 621 = .ok (.if_icmp .eq 478, 3) := by decide +kernel
theorem dL_law_624 : decode mL_law.2.1 624 = .ok (.iconst 0, 1) := by decide +kernel
theorem dL_law_625 : decode mL_law.2.1 625 = .ok (.ireturn, 1) := by decide +kernel
theorem dL_law_626 : decode mL_law.2.1 626 = .ok (.aload_n 1, 1) := by decide +kernel
theorem dL_law_627 : decode mL_law.2.1 627 = .ok (.aload_n 0, 1) := by decide +kernel
theorem dL_law_628 : decode mL_law.2.1 628 = .ok (.iload_n 3, 1) := by decide +kernel
theorem dL_law_629 : decode mL_law.2.1 629 = .ok (.iconst 1, 1) := by decide +kernel
theorem dL_law_630 : decode mL_law.2.1 630 = .ok (.iadd, 1) := by decide +kernel
theorem dL_law_631 : decode mL_law.2.1 631 = .ok (.iaload, 1) := by decide +kernel
theorem dL_law_632 : decode mL_law.2.1 632 = .ok (.aload_n 0, 1) := by decide +kernel
theorem dL_law_633 : decode mL_law.2.1 633 = .ok (.iload_n 3, 1) := by decide +kernel
theorem dL_law_634 : decode mL_law.2.1 634 = .ok (.iconst 2, 1) := by decide +kernel
theorem dL_law_635 : decode mL_law.2.1 635 = .ok (.iadd, 1) := by decide +kernel
theorem dL_law_636 : decode mL_law.2.1 636 = .ok (.iaload, 1) := by decide +kernel
theorem dL_law_637 : decode mL_law.2.1 637 = .ok (.invokevirtual 81, 3) := by decide +kernel
theorem dL_law_640 : decode mL_law.2.1 640 = .ok (.aload_n 2, 1) := by decide +kernel
theorem dL_law_641 : decode mL_law.2.1 641 = .ok (.aload_n 0, 1) := by decide +kernel
theorem dL_law_642 : decode mL_law.2.1 642 = .ok (.iload_n 3, 1) := by decide +kernel
theorem dL_law_643 : decode mL_law.2.1 643 = .ok (.iconst 1, 1) := by decide +kernel
theorem dL_law_644 : decode mL_law.2.1 644 = .ok (.iadd, 1) := by decide +kernel
theorem dL_law_645 : decode mL_law.2.1 645 = .ok (.iaload, 1) := by decide +kernel
theorem dL_law_646 : decode mL_law.2.1 646 = .ok (.aload_n 0, 1) := by decide +kernel
theorem dL_law_647 : decode mL_law.2.1 647 = .ok (.iload_n 3, 1) := by decide +kernel
theorem dL_law_648 : decode mL_law.2.1 648 = .ok (.iconst 2, 1) := by decide +kernel
theorem dL_law_649 : decode mL_law.2.1 649 = .ok (.iadd, 1) := by decide +kernel
theorem dL_law_650 : decode mL_law.2.1 650 = .ok (.iaload, 1) := by decide +kernel
theorem dL_law_651 : decode mL_law.2.1 651 = .ok (.invokevirtual 84, 3) := by decide +kernel
theorem dL_law_654 : decode mL_law.2.1 654 = .ok (.if_icmp .eq 445, 3) := by decide +kernel
theorem dL_law_657 : decode mL_law.2.1 657 = .ok (.iconst 0, 1) := by decide +kernel
theorem dL_law_658 : decode mL_law.2.1 658 = .ok (.ireturn, 1) := by decide +kernel
theorem dL_law_659 : decode mL_law.2.1 659 = .ok (.aload_n 1, 1) := by decide +kernel
theorem dL_law_660 : decode mL_law.2.1 660 = .ok (.aload_n 0, 1) := by decide +kernel
theorem dL_law_661 : decode mL_law.2.1 661 = .ok (.iload_n 3, 1) := by decide +kernel
theorem dL_law_662 : decode mL_law.2.1 662 = .ok (.iconst 1, 1) := by decide +kernel
theorem dL_law_663 : decode mL_law.2.1 663 = .ok (.iadd, 1) := by decide +kernel
theorem dL_law_664 : decode mL_law.2.1 664 = .ok (.iaload, 1) := by decide +kernel
theorem dL_law_665 : decode mL_law.2.1 665 = .ok (.aload_n 0, 1) := by decide +kernel
theorem dL_law_666 : decode mL_law.2.1 666 = .ok (.iload_n 3, 1) := by decide +kernel
theorem dL_law_667 : decode mL_law.2.1 667 = .ok (.iconst 2, 1) := by decide +kernel
theorem dL_law_668 : decode mL_law.2.1 668 = .ok (.iadd, 1) := by decide +kernel
theorem dL_law_669 : decode mL_law.2.1 669 = .ok (.iaload, 1) := by decide +kernel
theorem dL_law_670 : decode mL_law.2.1 670 = .ok (.aload_n 0, 1) := by decide +kernel
theorem dL_law_671 : decode mL_law.2.1 671 = .ok (.iload_n 3, 1) := by decide +kernel
theorem dL_law_672 : decode mL_law.2.1 672 = .ok (.iconst 3, 1) := by decide +kernel
theorem dL_law_673 : decode mL_law.2.1 673 = .ok (.iadd, 1) := by decide +kernel
theorem dL_law_674 : decode mL_law.2.1 674 = .ok (.iaload, 1) := by decide +kernel
theorem dL_law_675 : decode mL_law.2.1 675 = .ok (.invokevirtual 85, 3) := by decide +kernel
theorem dL_law_678 : decode mL_law.2.1 678 = .ok (.aload_n 2, 1) := by decide +kernel
theorem dL_law_679 : decode mL_law.2.1 679 = .ok (.aload_n 0, 1) := by decide +kernel
theorem dL_law_680 : decode mL_law.2.1 680 = .ok (.iload_n 3, 1) := by decide +kernel
theorem dL_law_681 : decode mL_law.2.1 681 = .ok (.iconst 1, 1) := by decide +kernel
theorem dL_law_682 : decode mL_law.2.1 682 = .ok (.iadd, 1) := by decide +kernel
theorem dL_law_683 : decode mL_law.2.1 683 = .ok (.iaload, 1) := by decide +kernel
theorem dL_law_684 : decode mL_law.2.1 684 = .ok (.aload_n 0, 1) := by decide +kernel
theorem dL_law_685 : decode mL_law.2.1 685 = .ok (.iload_n 3, 1) := by decide +kernel
theorem dL_law_686 : decode mL_law.2.1 686 = .ok (.iconst 2, 1) := by decide +kernel
theorem dL_law_687 : decode mL_law.2.1 687 = .ok (.iadd, 1) := by decide +kernel
theorem dL_law_688 : decode mL_law.2.1 688 = .ok (.iaload, 1) := by decide +kernel
theorem dL_law_689 : decode mL_law.2.1 689 = .ok (.aload_n 0, 1) := by decide +kernel
theorem dL_law_690 : decode mL_law.2.1 690 = .ok (.iload_n 3, 1) := by decide +kernel
theorem dL_law_691 : decode mL_law.2.1 691 = .ok (.iconst 3, 1) := by decide +kernel
theorem dL_law_692 : decode mL_law.2.1 692 = .ok (.iadd, 1) := by decide +kernel
theorem dL_law_693 : decode mL_law.2.1 693 = .ok (.iaload, 1) := by decide +kernel
theorem dL_law_694 : decode mL_law.2.1 694 = .ok (.invokevirtual 88, 3) := by decide +kernel
theorem dL_law_697 : decode mL_law.2.1 697 = .ok (.if_icmp .eq 402, 3) := by decide +kernel
theorem dL_law_700 : decode mL_law.2.1 700 = .ok (.iconst 0, 1) := by decide +kernel
theorem dL_law_701 : decode mL_law.2.1 701 = .ok (.ireturn, 1) := by decide +kernel
theorem dL_law_702 : decode mL_law.2.1 702 = .ok (.aload_n 1, 1) := by decide +kernel
theorem dL_law_703 : decode mL_law.2.1 703 = .ok (.aload_n 0, 1) := by decide +kernel
theorem dL_law_704 : decode mL_law.2.1 704 = .ok (.iload_n 3, 1) := by decide +kernel
theorem dL_law_705 : decode mL_law.2.1 705 = .ok (.iconst 1, 1) := by decide +kernel
theorem dL_law_706 : decode mL_law.2.1 706 = .ok (.iadd, 1) := by decide +kernel
theorem dL_law_707 : decode mL_law.2.1 707 = .ok (.iaload, 1) := by decide +kernel
theorem dL_law_708 : decode mL_law.2.1 708 = .ok (.invokevirtual 89, 3) := by decide +kernel
theorem dL_law_711 : decode mL_law.2.1 711 = .ok (.aload_n 2, 1) := by decide +kernel
theorem dL_law_712 : decode mL_law.2.1 712 = .ok (.aload_n 0, 1) := by decide +kernel
theorem dL_law_713 : decode mL_law.2.1 713 = .ok (.iload_n 3, 1) := by decide +kernel
theorem dL_law_714 : decode mL_law.2.1 714 = .ok (.iconst 1, 1) := by decide +kernel
theorem dL_law_715 : decode mL_law.2.1 715 = .ok (.iadd, 1) := by decide +kernel
theorem dL_law_716 : decode mL_law.2.1 716 = .ok (.iaload, 1) := by decide +kernel
theorem dL_law_717 : decode mL_law.2.1 717 = .ok (.invokevirtual 92, 3) := by decide +kernel
theorem dL_law_720 : decode mL_law.2.1 720 = .ok (.if_icmp .eq 379, 3) := by decide +kernel
theorem dL_law_723 : decode mL_law.2.1 723 = .ok (.iconst 0, 1) := by decide +kernel
theorem dL_law_724 : decode mL_law.2.1 724 = .ok (.ireturn, 1) := by decide +kernel
theorem dL_law_725 : decode mL_law.2.1 725 = .ok (.aload_n 1, 1) := by decide +kernel
theorem dL_law_726 : decode mL_law.2.1 726 = .ok (.invokevirtual 93, 3) := by decide +kernel
theorem dL_law_729 : decode mL_law.2.1 729 = .ok (.aload_n 2, 1) := by decide +kernel
theorem dL_law_730 : decode mL_law.2.1 730 = .ok (.invokevirtual 96, 3) := by decide +kernel
theorem dL_law_733 : decode mL_law.2.1 733 = .ok (.if_icmp .eq 366, 3) := by decide +kernel
theorem dL_law_736 : decode mL_law.2.1 736 = .ok (.iconst 0, 1) := by decide +kernel
theorem dL_law_737 : decode mL_law.2.1 737 = .ok (.ireturn, 1) := by decide +kernel
theorem dL_law_738 : decode mL_law.2.1 738 = .ok (.aload_n 1, 1) := by decide +kernel
theorem dL_law_739 : decode mL_law.2.1 739 = .ok (.aload_n 0, 1) := by decide +kernel
theorem dL_law_740 : decode mL_law.2.1 740 = .ok (.iload_n 3, 1) := by decide +kernel
theorem dL_law_741 : decode mL_law.2.1 741 = .ok (.iconst 1, 1) := by decide +kernel
theorem dL_law_742 : decode mL_law.2.1 742 = .ok (.iadd, 1) := by decide +kernel
theorem dL_law_743 : decode mL_law.2.1 743 = .ok (.iaload, 1) := by decide +kernel
theorem dL_law_744 : decode mL_law.2.1 744 = .ok (.invokevirtual 97, 3) := by decide +kernel
theorem dL_law_747 : decode mL_law.2.1 747 = .ok (.aload_n 2, 1) := by decide +kernel
theorem dL_law_748 : decode mL_law.2.1 748 = .ok (.aload_n 0, 1) := by decide +kernel
theorem dL_law_749 : decode mL_law.2.1 749 = .ok (.iload_n 3, 1) := by decide +kernel
theorem dL_law_750 : decode mL_law.2.1 750 = .ok (.iconst 1, 1) := by decide +kernel
theorem dL_law_751 : decode mL_law.2.1 751 = .ok (.iadd, 1) := by decide +kernel
theorem dL_law_752 : decode mL_law.2.1 752 = .ok (.iaload, 1) := by decide +kernel
theorem dL_law_753 : decode mL_law.2.1 753 = .ok (.invokevirtual 100, 3) := by decide +kernel
theorem dL_law_756 : decode mL_law.2.1 756 = .ok (.if_icmp .eq 343, 3) := by decide +kernel
theorem dL_law_759 : decode mL_law.2.1 759 = .ok (.iconst 0, 1) := by decide +kernel
theorem dL_law_760 : decode mL_law.2.1 760 = .ok (.ireturn, 1) := by decide +kernel
theorem dL_law_761 : decode mL_law.2.1 761 = .ok (.aload_n 1, 1) := by decide +kernel
theorem dL_law_762 : decode mL_law.2.1 762 = .ok (.aload_n 0, 1) := by decide +kernel
theorem dL_law_763 : decode mL_law.2.1 763 = .ok (.iload_n 3, 1) := by decide +kernel
theorem dL_law_764 : decode mL_law.2.1 764 = .ok (.iconst 1, 1) := by decide +kernel
theorem dL_law_765 : decode mL_law.2.1 765 = .ok (.iadd, 1) := by decide +kernel
theorem dL_law_766 : decode mL_law.2.1 766 = .ok (.iaload, 1) := by decide +kernel
theorem dL_law_767 : decode mL_law.2.1 767 = .ok (.aload_n 0, 1) := by decide +kernel
theorem dL_law_768 : decode mL_law.2.1 768 = .ok (.iload_n 3, 1) := by decide +kernel
theorem dL_law_769 : decode mL_law.2.1 769 = .ok (.iconst 2, 1) := by decide +kernel
theorem dL_law_770 : decode mL_law.2.1 770 = .ok (.iadd, 1) := by decide +kernel
theorem dL_law_771 : decode mL_law.2.1 771 = .ok (.iaload, 1) := by decide +kernel
theorem dL_law_772 : decode mL_law.2.1 772 = .ok (.aload_n 0, 1) := by decide +kernel
theorem dL_law_773 : decode mL_law.2.1 773 = .ok (.iload_n 3, 1) := by decide +kernel
theorem dL_law_774 : decode mL_law.2.1 774 = .ok (.iconst 3, 1) := by decide +kernel
theorem dL_law_775 : decode mL_law.2.1 775 = .ok (.iadd, 1) := by decide +kernel
theorem dL_law_776 : decode mL_law.2.1 776 = .ok (.iaload, 1) := by decide +kernel
theorem dL_law_777 : decode mL_law.2.1 777 = .ok (.aload_n 0, 1) := by decide +kernel
theorem dL_law_778 : decode mL_law.2.1 778 = .ok (.iload_n 3, 1) := by decide +kernel
theorem dL_law_779 : decode mL_law.2.1 779 = .ok (.iconst 4, 1) := by decide +kernel
theorem dL_law_780 : decode mL_law.2.1 780 = .ok (.iadd, 1) := by decide +kernel
theorem dL_law_781 : decode mL_law.2.1 781 = .ok (.iaload, 1) := by decide +kernel
theorem dL_law_782 : decode mL_law.2.1 782 = .ok (.invokevirtual 101, 3) := by decide +kernel
theorem dL_law_785 : decode mL_law.2.1 785 = .ok (.aload_n 2, 1) := by decide +kernel
theorem dL_law_786 : decode mL_law.2.1 786 = .ok (.aload_n 0, 1) := by decide +kernel
theorem dL_law_787 : decode mL_law.2.1 787 = .ok (.iload_n 3, 1) := by decide +kernel
theorem dL_law_788 : decode mL_law.2.1 788 = .ok (.iconst 1, 1) := by decide +kernel
theorem dL_law_789 : decode mL_law.2.1 789 = .ok (.iadd, 1) := by decide +kernel
theorem dL_law_790 : decode mL_law.2.1 790 = .ok (.iaload, 1) := by decide +kernel
theorem dL_law_791 : decode mL_law.2.1 791 = .ok (.aload_n 0, 1) := by decide +kernel
theorem dL_law_792 : decode mL_law.2.1 792 = .ok (.iload_n 3, 1) := by decide +kernel
theorem dL_law_793 : decode mL_law.2.1 793 = .ok (.iconst 2, 1) := by decide +kernel
theorem dL_law_794 : decode mL_law.2.1 794 = .ok (.iadd, 1) := by decide +kernel
theorem dL_law_795 : decode mL_law.2.1 795 = .ok (.iaload, 1) := by decide +kernel
theorem dL_law_796 : decode mL_law.2.1 796 = .ok (.aload_n 0, 1) := by decide +kernel
theorem dL_law_797 : decode mL_law.2.1 797 = .ok (.iload_n 3, 1) := by decide +kernel
theorem dL_law_798 : decode mL_law.2.1 798 = .ok (.iconst 3, 1) := by decide +kernel
theorem dL_law_799 : decode mL_law.2.1 799 = .ok (.iadd, 1) := by decide +kernel
theorem dL_law_800 : decode mL_law.2.1 800 = .ok (.iaload, 1) := by decide +kernel
theorem dL_law_801 : decode mL_law.2.1 801 = .ok (.aload_n 0, 1) := by decide +kernel
theorem dL_law_802 : decode mL_law.2.1 802 = .ok (.iload_n 3, 1) := by decide +kernel
theorem dL_law_803 : decode mL_law.2.1 803 = .ok (.iconst 4, 1) := by decide +kernel
theorem dL_law_804 : decode mL_law.2.1 804 = .ok (.iadd, 1) := by decide +kernel
theorem dL_law_805 : decode mL_law.2.1 805 = .ok (.iaload, 1) := by decide +kernel
theorem dL_law_806 : decode mL_law.2.1 806 = .ok (.invokevirtual 105, 3) := by decide +kernel
theorem dL_law_809 : decode mL_law.2.1 809 = .ok (.lcmp, 1) := by decide +kernel
theorem dL_law_810 : decode mL_law.2.1 810 = .ok (.ifCond .eq 289, 3) := by decide +kernel
theorem dL_law_813 : decode mL_law.2.1 813 = .ok (.iconst 0, 1) := by decide +kernel
theorem dL_law_814 : decode mL_law.2.1 814 = .ok (.ireturn, 1) := by decide +kernel
theorem dL_law_815 : decode mL_law.2.1 815 = .ok (.aload_n 1, 1) := by decide +kernel
theorem dL_law_816 : decode mL_law.2.1 816 = .ok (.invokevirtual 106, 3) := by decide +kernel
theorem dL_law_819 : decode mL_law.2.1 819 = .ok (.aload_n 2, 1) := by decide +kernel
theorem dL_law_820 : decode mL_law.2.1 820 = .ok (.invokevirtual 109, 3) := by decide +kernel
theorem dL_law_823 : decode mL_law.2.1 823 = .ok (.if_icmp .eq 276, 3) := by decide +kernel
theorem dL_law_826 : decode mL_law.2.1 826 = .ok (.iconst 0, 1) := by decide +kernel
theorem dL_law_827 : decode mL_law.2.1 827 = .ok (.ireturn, 1) := by decide +kernel
theorem dL_law_828 : decode mL_law.2.1 828 = .ok (.aload_n 1, 1) := by decide +kernel
theorem dL_law_829 : decode mL_law.2.1 829 = .ok (.invokevirtual 110, 3) := by decide +kernel
theorem dL_law_832 : decode mL_law.2.1 832 = .ok (.aload_n 2, 1) := by decide +kernel
theorem dL_law_833 : decode mL_law.2.1 833 = .ok (.invokevirtual 113, 3) := by decide +kernel
theorem dL_law_836 : decode mL_law.2.1 836 = .ok (.if_icmp .eq 263, 3) := by decide +kernel
theorem dL_law_839 : decode mL_law.2.1 839 = .ok (.iconst 0, 1) := by decide +kernel
theorem dL_law_840 : decode mL_law.2.1 840 = .ok (.ireturn, 1) := by decide +kernel
theorem dL_law_841 : decode mL_law.2.1 841 = .ok (.aload_n 1, 1) := by decide +kernel
theorem dL_law_842 : decode mL_law.2.1 842 = .ok (.aload_n 0, 1) := by decide +kernel
theorem dL_law_843 : decode mL_law.2.1 843 = .ok (.iload_n 3, 1) := by decide +kernel
theorem dL_law_844 : decode mL_law.2.1 844 = .ok (.iconst 1, 1) := by decide +kernel
theorem dL_law_845 : decode mL_law.2.1 845 = .ok (.iadd, 1) := by decide +kernel
theorem dL_law_846 : decode mL_law.2.1 846 = .ok (.iaload, 1) := by decide +kernel
theorem dL_law_847 : decode mL_law.2.1 847 = .ok (.invokevirtual 114, 3) := by decide +kernel
theorem dL_law_850 : decode mL_law.2.1 850 = .ok (.aload_n 2, 1) := by decide +kernel
theorem dL_law_851 : decode mL_law.2.1 851 = .ok (.aload_n 0, 1) := by decide +kernel
theorem dL_law_852 : decode mL_law.2.1 852 = .ok (.iload_n 3, 1) := by decide +kernel
theorem dL_law_853 : decode mL_law.2.1 853 = .ok (.iconst 1, 1) := by decide +kernel
theorem dL_law_854 : decode mL_law.2.1 854 = .ok (.iadd, 1) := by decide +kernel
theorem dL_law_855 : decode mL_law.2.1 855 = .ok (.iaload, 1) := by decide +kernel
theorem dL_law_856 : decode mL_law.2.1 856 = .ok (.invokevirtual 117, 3) := by decide +kernel
theorem dL_law_859 : decode mL_law.2.1 859 = .ok (.if_icmp .eq 240, 3) := by decide +kernel
theorem dL_law_862 : decode mL_law.2.1 862 = .ok (.iconst 0, 1) := by decide +kernel
theorem dL_law_863 : decode mL_law.2.1 863 = .ok (.ireturn, 1) := by decide +kernel
theorem dL_law_864 : decode mL_law.2.1 864 = .ok (.aload_n 1, 1) := by decide +kernel
theorem dL_law_865 : decode mL_law.2.1 865 = .ok (.aload_n 0, 1) := by decide +kernel
theorem dL_law_866 : decode mL_law.2.1 866 = .ok (.iload_n 3, 1) := by decide +kernel
theorem dL_law_867 : decode mL_law.2.1 867 = .ok (.iconst 1, 1) := by decide +kernel
theorem dL_law_868 : decode mL_law.2.1 868 = .ok (.iadd, 1) := by decide +kernel
theorem dL_law_869 : decode mL_law.2.1 869 = .ok (.iaload, 1) := by decide +kernel
theorem dL_law_870 : decode mL_law.2.1 870 = .ok (.aload_n 0, 1) := by decide +kernel
theorem dL_law_871 : decode mL_law.2.1 871 = .ok (.iload_n 3, 1) := by decide +kernel
theorem dL_law_872 : decode mL_law.2.1 872 = .ok (.iconst 2, 1) := by decide +kernel
theorem dL_law_873 : decode mL_law.2.1 873 = .ok (.iadd, 1) := by decide +kernel
theorem dL_law_874 : decode mL_law.2.1 874 = .ok (.iaload, 1) := by decide +kernel
theorem dL_law_875 : decode mL_law.2.1 875 = .ok (.aload_n 0, 1) := by decide +kernel
theorem dL_law_876 : decode mL_law.2.1 876 = .ok (.iload_n 3, 1) := by decide +kernel
theorem dL_law_877 : decode mL_law.2.1 877 = .ok (.iconst 3, 1) := by decide +kernel
theorem dL_law_878 : decode mL_law.2.1 878 = .ok (.iadd, 1) := by decide +kernel
theorem dL_law_879 : decode mL_law.2.1 879 = .ok (.iaload, 1) := by decide +kernel
theorem dL_law_880 : decode mL_law.2.1 880 = .ok (.invokevirtual 118, 3) := by decide +kernel
theorem dL_law_883 : decode mL_law.2.1 883 = .ok (.aload_n 2, 1) := by decide +kernel
theorem dL_law_884 : decode mL_law.2.1 884 = .ok (.aload_n 0, 1) := by decide +kernel
theorem dL_law_885 : decode mL_law.2.1 885 = .ok (.iload_n 3, 1) := by decide +kernel
theorem dL_law_886 : decode mL_law.2.1 886 = .ok (.iconst 1, 1) := by decide +kernel
theorem dL_law_887 : decode mL_law.2.1 887 = .ok (.iadd, 1) := by decide +kernel
theorem dL_law_888 : decode mL_law.2.1 888 = .ok (.iaload, 1) := by decide +kernel
theorem dL_law_889 : decode mL_law.2.1 889 = .ok (.aload_n 0, 1) := by decide +kernel
theorem dL_law_890 : decode mL_law.2.1 890 = .ok (.iload_n 3, 1) := by decide +kernel
theorem dL_law_891 : decode mL_law.2.1 891 = .ok (.iconst 2, 1) := by decide +kernel
theorem dL_law_892 : decode mL_law.2.1 892 = .ok (.iadd, 1) := by decide +kernel
theorem dL_law_893 : decode mL_law.2.1 893 = .ok (.iaload, 1) := by decide +kernel
theorem dL_law_894 : decode mL_law.2.1 894 = .ok (.aload_n 0, 1) := by decide +kernel
theorem dL_law_895 : decode mL_law.2.1 895 = .ok (.iload_n 3, 1) := by decide +kernel
theorem dL_law_896 : decode mL_law.2.1 896 = .ok (.iconst 3, 1) := by decide +kernel
theorem dL_law_897 : decode mL_law.2.1 897 = .ok (.iadd, 1) := by decide +kernel
theorem dL_law_898 : decode mL_law.2.1 898 = .ok (.iaload, 1) := by decide +kernel
theorem dL_law_899 : decode mL_law.2.1 899 = .ok (.invokevirtual 121, 3) := by decide +kernel
theorem dL_law_902 : decode mL_law.2.1 902 = .ok (.if_icmp .eq 197, 3) := by decide +kernel
theorem dL_law_905 : decode mL_law.2.1 905 = .ok (.iconst 0, 1) := by decide +kernel
theorem dL_law_906 : decode mL_law.2.1 906 = .ok (.ireturn, 1) := by decide +kernel
theorem dL_law_907 : decode mL_law.2.1 907 = .ok (.aload_n 1, 1) := by decide +kernel
theorem dL_law_908 : decode mL_law.2.1 908 = .ok (.aload_n 0, 1) := by decide +kernel
theorem dL_law_909 : decode mL_law.2.1 909 = .ok (.iload_n 3, 1) := by decide +kernel
theorem dL_law_910 : decode mL_law.2.1 910 = .ok (.iconst 1, 1) := by decide +kernel
theorem dL_law_911 : decode mL_law.2.1 911 = .ok (.iadd, 1) := by decide +kernel
theorem dL_law_912 : decode mL_law.2.1 912 = .ok (.iaload, 1) := by decide +kernel
theorem dL_law_913 : decode mL_law.2.1 913 = .ok (.aload_n 0, 1) := by decide +kernel
theorem dL_law_914 : decode mL_law.2.1 914 = .ok (.iload_n 3, 1) := by decide +kernel
theorem dL_law_915 : decode mL_law.2.1 915 = .ok (.iconst 2, 1) := by decide +kernel
theorem dL_law_916 : decode mL_law.2.1 916 = .ok (.iadd, 1) := by decide +kernel
theorem dL_law_917 : decode mL_law.2.1 917 = .ok (.iaload, 1) := by decide +kernel
theorem dL_law_918 : decode mL_law.2.1 918 = .ok (.aload_n 0, 1) := by decide +kernel
theorem dL_law_919 : decode mL_law.2.1 919 = .ok (.iload_n 3, 1) := by decide +kernel
theorem dL_law_920 : decode mL_law.2.1 920 = .ok (.iconst 3, 1) := by decide +kernel
theorem dL_law_921 : decode mL_law.2.1 921 = .ok (.iadd, 1) := by decide +kernel
theorem dL_law_922 : decode mL_law.2.1 922 = .ok (.iaload, 1) := by decide +kernel
theorem dL_law_923 : decode mL_law.2.1 923 = .ok (.invokevirtual 122, 3) := by decide +kernel
theorem dL_law_926 : decode mL_law.2.1 926 = .ok (.aload_n 2, 1) := by decide +kernel
theorem dL_law_927 : decode mL_law.2.1 927 = .ok (.aload_n 0, 1) := by decide +kernel
theorem dL_law_928 : decode mL_law.2.1 928 = .ok (.iload_n 3, 1) := by decide +kernel
theorem dL_law_929 : decode mL_law.2.1 929 = .ok (.iconst 1, 1) := by decide +kernel
theorem dL_law_930 : decode mL_law.2.1 930 = .ok (.iadd, 1) := by decide +kernel
theorem dL_law_931 : decode mL_law.2.1 931 = .ok (.iaload, 1) := by decide +kernel
theorem dL_law_932 : decode mL_law.2.1 932 = .ok (.aload_n 0, 1) := by decide +kernel
theorem dL_law_933 : decode mL_law.2.1 933 = .ok (.iload_n 3, 1) := by decide +kernel
theorem dL_law_934 : decode mL_law.2.1 934 = .ok (.iconst 2, 1) := by decide +kernel
theorem dL_law_935 : decode mL_law.2.1 935 = .ok (.iadd, 1) := by decide +kernel
theorem dL_law_936 : decode mL_law.2.1 936 = .ok (.iaload, 1) := by decide +kernel
theorem dL_law_937 : decode mL_law.2.1 937 = .ok (.aload_n 0, 1) := by decide +kernel
theorem dL_law_938 : decode mL_law.2.1 938 = .ok (.iload_n 3, 1) := by decide +kernel
theorem dL_law_939 : decode mL_law.2.1 939 = .ok (.iconst 3, 1) := by decide +kernel
theorem dL_law_940 : decode mL_law.2.1 940 = .ok (.iadd, 1) := by decide +kernel
theorem dL_law_941 : decode mL_law.2.1 941 = .ok (.iaload, 1) := by decide +kernel
theorem dL_law_942 : decode mL_law.2.1 942 = .ok (.invokevirtual 125, 3) := by decide +kernel
theorem dL_law_945 : decode mL_law.2.1 945 = .ok (.if_icmp .eq 154, 3) := by decide +kernel
theorem dL_law_948 : decode mL_law.2.1 948 = .ok (.iconst 0, 1) := by decide +kernel
theorem dL_law_949 : decode mL_law.2.1 949 = .ok (.ireturn, 1) := by decide +kernel
theorem dL_law_950 : decode mL_law.2.1 950 = .ok (.aload_n 1, 1) := by decide +kernel
theorem dL_law_951 : decode mL_law.2.1 951 = .ok (.aload_n 0, 1) := by decide +kernel
theorem dL_law_952 : decode mL_law.2.1 952 = .ok (.iload_n 3, 1) := by decide +kernel
theorem dL_law_953 : decode mL_law.2.1 953 = .ok (.iconst 1, 1) := by decide +kernel
theorem dL_law_954 : decode mL_law.2.1 954 = .ok (.iadd, 1) := by decide +kernel
theorem dL_law_955 : decode mL_law.2.1 955 = .ok (.iaload, 1) := by decide +kernel
theorem dL_law_956 : decode mL_law.2.1 956 = .ok (.aload_n 0, 1) := by decide +kernel
theorem dL_law_957 : decode mL_law.2.1 957 = .ok (.iload_n 3, 1) := by decide +kernel
theorem dL_law_958 : decode mL_law.2.1 958 = .ok (.iconst 2, 1) := by decide +kernel
theorem dL_law_959 : decode mL_law.2.1 959 = .ok (.iadd, 1) := by decide +kernel
theorem dL_law_960 : decode mL_law.2.1 960 = .ok (.iaload, 1) := by decide +kernel
theorem dL_law_961 : decode mL_law.2.1 961 = .ok (.aload_n 0, 1) := by decide +kernel
theorem dL_law_962 : decode mL_law.2.1 962 = .ok (.iload_n 3, 1) := by decide +kernel
theorem dL_law_963 : decode mL_law.2.1 963 = .ok (.iconst 3, 1) := by decide +kernel
theorem dL_law_964 : decode mL_law.2.1 964 = .ok (.iadd, 1) := by decide +kernel
theorem dL_law_965 : decode mL_law.2.1 965 = .ok (.iaload, 1) := by decide +kernel
theorem dL_law_966 : decode mL_law.2.1 966 = .ok (.aload_n 0, 1) := by decide +kernel
theorem dL_law_967 : decode mL_law.2.1 967 = .ok (.iload_n 3, 1) := by decide +kernel
theorem dL_law_968 : decode mL_law.2.1 968 = .ok (.iconst 4, 1) := by decide +kernel
theorem dL_law_969 : decode mL_law.2.1 969 = .ok (.iadd, 1) := by decide +kernel
theorem dL_law_970 : decode mL_law.2.1 970 = .ok (.iaload, 1) := by decide +kernel
theorem dL_law_971 : decode mL_law.2.1 971 = .ok (.aload_n 0, 1) := by decide +kernel
theorem dL_law_972 : decode mL_law.2.1 972 = .ok (.iload_n 3, 1) := by decide +kernel
theorem dL_law_973 : decode mL_law.2.1 973 = .ok (.iconst 5, 1) := by decide +kernel
theorem dL_law_974 : decode mL_law.2.1 974 = .ok (.iadd, 1) := by decide +kernel
theorem dL_law_975 : decode mL_law.2.1 975 = .ok (.iaload, 1) := by decide +kernel
theorem dL_law_976 : decode mL_law.2.1 976 = .ok (.invokevirtual 126, 3) := by decide +kernel
theorem dL_law_979 : decode mL_law.2.1 979 = .ok (.aload_n 2, 1) := by decide +kernel
theorem dL_law_980 : decode mL_law.2.1 980 = .ok (.aload_n 0, 1) := by decide +kernel
theorem dL_law_981 : decode mL_law.2.1 981 = .ok (.iload_n 3, 1) := by decide +kernel
theorem dL_law_982 : decode mL_law.2.1 982 = .ok (.iconst 1, 1) := by decide +kernel
theorem dL_law_983 : decode mL_law.2.1 983 = .ok (.iadd, 1) := by decide +kernel
theorem dL_law_984 : decode mL_law.2.1 984 = .ok (.iaload, 1) := by decide +kernel
theorem dL_law_985 : decode mL_law.2.1 985 = .ok (.aload_n 0, 1) := by decide +kernel
theorem dL_law_986 : decode mL_law.2.1 986 = .ok (.iload_n 3, 1) := by decide +kernel
theorem dL_law_987 : decode mL_law.2.1 987 = .ok (.iconst 2, 1) := by decide +kernel
theorem dL_law_988 : decode mL_law.2.1 988 = .ok (.iadd, 1) := by decide +kernel
theorem dL_law_989 : decode mL_law.2.1 989 = .ok (.iaload, 1) := by decide +kernel
theorem dL_law_990 : decode mL_law.2.1 990 = .ok (.aload_n 0, 1) := by decide +kernel
theorem dL_law_991 : decode mL_law.2.1 991 = .ok (.iload_n 3, 1) := by decide +kernel
theorem dL_law_992 : decode mL_law.2.1 992 = .ok (.iconst 3, 1) := by decide +kernel
theorem dL_law_993 : decode mL_law.2.1 993 = .ok (.iadd, 1) := by decide +kernel
theorem dL_law_994 : decode mL_law.2.1 994 = .ok (.iaload, 1) := by decide +kernel
theorem dL_law_995 : decode mL_law.2.1 995 = .ok (.aload_n 0, 1) := by decide +kernel
theorem dL_law_996 : decode mL_law.2.1 996 = .ok (.iload_n 3, 1) := by decide +kernel
theorem dL_law_997 : decode mL_law.2.1 997 = .ok (.iconst 4, 1) := by decide +kernel
theorem dL_law_998 : decode mL_law.2.1 998 = .ok (.iadd, 1) := by decide +kernel
theorem dL_law_999 : decode mL_law.2.1 999 = .ok (.iaload, 1) := by decide +kernel
theorem dL_law_1000 : decode mL_law.2.1 1000 = .ok (.aload_n 0, 1) := by decide +kernel
theorem dL_law_1001 : decode mL_law.2.1 1001 = .ok (.iload_n 3, 1) := by decide +kernel
theorem dL_law_1002 : decode mL_law.2.1 1002 = .ok (.iconst 5, 1) := by decide +kernel
theorem dL_law_1003 : decode mL_law.2.1 1003 = .ok (.iadd, 1) := by decide +kernel
theorem dL_law_1004 : decode mL_law.2.1 1004 = .ok (.iaload, 1) := by decide +kernel
theorem dL_law_1005 : decode mL_law.2.1 1005 = .ok (.invokevirtual 130, 3) := by decide +kernel
theorem dL_law_1008 : decode mL_law.2.1 1008 = .ok (.if_icmp .eq 91, 3) := by decide +kernel
theorem dL_law_1011 : decode mL_law.2.1 1011 = .ok (.iconst 0, 1) := by decide +kernel
theorem dL_law_1012 : decode mL_law.2.1 1012 = .ok (.ireturn, 1) := by decide +kernel
theorem dL_law_1013 : decode mL_law.2.1 1013 = .ok (.aload_n 1, 1) := by decide +kernel
theorem dL_law_1014 : decode mL_law.2.1 1014 = .ok (.aload_n 0, 1) := by decide +kernel
theorem dL_law_1015 : decode mL_law.2.1 1015 = .ok (.iload_n 3, 1) := by decide +kernel
theorem dL_law_1016 : decode mL_law.2.1 1016 = .ok (.iconst 1, 1) := by decide +kernel
theorem dL_law_1017 : decode mL_law.2.1 1017 = .ok (.iadd, 1) := by decide +kernel
theorem dL_law_1018 : decode mL_law.2.1 1018 = .ok (.iaload, 1) := by decide +kernel
theorem dL_law_1019 : decode mL_law.2.1 1019 = .ok (.aload_n 0, 1) := by decide +kernel
theorem dL_law_1020 : decode mL_law.2.1 1020 = .ok (.iload_n 3, 1) := by decide +kernel
theorem dL_law_1021 : decode mL_law.2.1 1021 = .ok (.iconst 2, 1) := by decide +kernel
theorem dL_law_1022 : decode mL_law.2.1 1022 = .ok (.iadd, 1) := by decide +kernel
theorem dL_law_1023 : decode mL_law.2.1 1023 = .ok (.iaload, 1) := by decide +kernel
theorem dL_law_1024 : decode mL_law.2.1 1024 = .ok (.aload_n 0, 1) := by decide +kernel
theorem dL_law_1025 : decode mL_law.2.1 1025 = .ok (.iload_n 3, 1) := by decide +kernel
theorem dL_law_1026 : decode mL_law.2.1 1026 = .ok (.iconst 3, 1) := by decide +kernel
theorem dL_law_1027 : decode mL_law.2.1 1027 = .ok (.iadd, 1) := by decide +kernel
theorem dL_law_1028 : decode mL_law.2.1 1028 = .ok (.iaload, 1) := by decide +kernel
theorem dL_law_1029 : decode mL_law.2.1 1029 = .ok (.aload_n 0, 1) := by decide +kernel
theorem dL_law_1030 : decode mL_law.2.1 1030 = .ok (.iload_n 3, 1) := by decide +kernel
theorem dL_law_1031 : decode mL_law.2.1 1031 = .ok (.iconst 4, 1) := by decide +kernel
theorem dL_law_1032 : decode mL_law.2.1 1032 = .ok (.iadd, 1) := by decide +kernel
theorem dL_law_1033 : decode mL_law.2.1 1033 = .ok (.iaload, 1) := by decide +kernel
theorem dL_law_1034 : decode mL_law.2.1 1034 = .ok (.invokevirtual 131, 3) := by decide +kernel
theorem dL_law_1037 : decode mL_law.2.1 1037 = .ok (.aload_n 2, 1) := by decide +kernel
theorem dL_law_1038 : decode mL_law.2.1 1038 = .ok (.aload_n 0, 1) := by decide +kernel
theorem dL_law_1039 : decode mL_law.2.1 1039 = .ok (.iload_n 3, 1) := by decide +kernel
theorem dL_law_1040 : decode mL_law.2.1 1040 = .ok (.iconst 1, 1) := by decide +kernel
theorem dL_law_1041 : decode mL_law.2.1 1041 = .ok (.iadd, 1) := by decide +kernel
theorem dL_law_1042 : decode mL_law.2.1 1042 = .ok (.iaload, 1) := by decide +kernel
theorem dL_law_1043 : decode mL_law.2.1 1043 = .ok (.aload_n 0, 1) := by decide +kernel
theorem dL_law_1044 : decode mL_law.2.1 1044 = .ok (.iload_n 3, 1) := by decide +kernel
theorem dL_law_1045 : decode mL_law.2.1 1045 = .ok (.iconst 2, 1) := by decide +kernel
theorem dL_law_1046 : decode mL_law.2.1 1046 = .ok (.iadd, 1) := by decide +kernel
theorem dL_law_1047 : decode mL_law.2.1 1047 = .ok (.iaload, 1) := by decide +kernel
theorem dL_law_1048 : decode mL_law.2.1 1048 = .ok (.aload_n 0, 1) := by decide +kernel
theorem dL_law_1049 : decode mL_law.2.1 1049 = .ok (.iload_n 3, 1) := by decide +kernel
theorem dL_law_1050 : decode mL_law.2.1 1050 = .ok (.iconst 3, 1) := by decide +kernel
theorem dL_law_1051 : decode mL_law.2.1 1051 = .ok (.iadd, 1) := by decide +kernel
theorem dL_law_1052 : decode mL_law.2.1 1052 = .ok (.iaload, 1) := by decide +kernel
theorem dL_law_1053 : decode mL_law.2.1 1053 = .ok (.aload_n 0, 1) := by decide +kernel
theorem dL_law_1054 : decode mL_law.2.1 1054 = .ok (.iload_n 3, 1) := by decide +kernel
theorem dL_law_1055 : decode mL_law.2.1 1055 = .ok (.iconst 4, 1) := by decide +kernel
theorem dL_law_1056 : decode mL_law.2.1 1056 = .ok (.iadd, 1) := by decide +kernel
theorem dL_law_1057 : decode mL_law.2.1 1057 = .ok (.iaload, 1) := by decide +kernel
theorem dL_law_1058 : decode mL_law.2.1 1058 = .ok (.invokevirtual 135, 3) := by decide +kernel
theorem dL_law_1061 : decode mL_law.2.1 1061 = .ok (.if_icmp .eq 38, 3) := by decide +kernel
theorem dL_law_1064 : decode mL_law.2.1 1064 = .ok (.iconst 0, 1) := by decide +kernel
theorem dL_law_1065 : decode mL_law.2.1 1065 = .ok (.ireturn, 1) := by decide +kernel
theorem dL_law_1066 : decode mL_law.2.1 1066 = .ok (.aload_n 1, 1) := by decide +kernel
theorem dL_law_1067 : decode mL_law.2.1 1067 = .ok (.aload_n 0, 1) := by decide +kernel
theorem dL_law_1068 : decode mL_law.2.1 1068 = .ok (.iload_n 3, 1) := by decide +kernel
theorem dL_law_1069 : decode mL_law.2.1 1069 = .ok (.iconst 1, 1) := by decide +kernel
theorem dL_law_1070 : decode mL_law.2.1 1070 = .ok (.iadd, 1) := by decide +kernel
theorem dL_law_1071 : decode mL_law.2.1 1071 = .ok (.iaload, 1) := by decide +kernel
theorem dL_law_1072 : decode mL_law.2.1 1072 = .ok (.aload_n 0, 1) := by decide +kernel
theorem dL_law_1073 : decode mL_law.2.1 1073 = .ok (.iload_n 3, 1) := by decide +kernel
theorem dL_law_1074 : decode mL_law.2.1 1074 = .ok (.iconst 2, 1) := by decide +kernel
theorem dL_law_1075 : decode mL_law.2.1 1075 = .ok (.iadd, 1) := by decide +kernel
theorem dL_law_1076 : decode mL_law.2.1 1076 = .ok (.iaload, 1) := by decide +kernel
theorem dL_law_1077 : decode mL_law.2.1 1077 = .ok (.invokevirtual 136, 3) := by decide +kernel
theorem dL_law_1080 : decode mL_law.2.1 1080 = .ok (.aload_n 2, 1) := by decide +kernel
theorem dL_law_1081 : decode mL_law.2.1 1081 = .ok (.aload_n 0, 1) := by decide +kernel
theorem dL_law_1082 : decode mL_law.2.1 1082 = .ok (.iload_n 3, 1) := by decide +kernel
theorem dL_law_1083 : decode mL_law.2.1 1083 = .ok (.iconst 1, 1) := by decide +kernel
theorem dL_law_1084 : decode mL_law.2.1 1084 = .ok (.iadd, 1) := by decide +kernel
theorem dL_law_1085 : decode mL_law.2.1 1085 = .ok (.iaload, 1) := by decide +kernel
theorem dL_law_1086 : decode mL_law.2.1 1086 = .ok (.aload_n 0, 1) := by decide +kernel
theorem dL_law_1087 : decode mL_law.2.1 1087 = .ok (.iload_n 3, 1) := by decide +kernel
theorem dL_law_1088 : decode mL_law.2.1 1088 = .ok (.iconst 2, 1) := by decide +kernel
theorem dL_law_1089 : decode mL_law.2.1 1089 = .ok (.iadd, 1) := by decide +kernel
theorem dL_law_1090 : decode mL_law.2.1 1090 = .ok (.iaload, 1) := by decide +kernel
theorem dL_law_1091 : decode mL_law.2.1 1091 = .ok (.invokevirtual 139, 3) := by decide +kernel
theorem dL_law_1094 : decode mL_law.2.1 1094 = .ok (.if_icmp .eq 5, 3) := by decide +kernel
theorem dL_law_1097 : decode mL_law.2.1 1097 = .ok (.iconst 0, 1) := by decide +kernel
theorem dL_law_1098 : decode mL_law.2.1 1098 = .ok (.ireturn, 1) := by decide +kernel
theorem dL_law_1099 : decode mL_law.2.1 1099 = .ok (.iinc 3 6, 3) := by decide +kernel
theorem dL_law_1102 : decode mL_law.2.1 1102 = .ok (.goto (-1084), 3) := by decide +kernel
theorem dL_law_1105 : decode mL_law.2.1 1105 = .ok (.iconst 1, 1) := by decide +kernel
theorem dL_law_1106 : decode mL_law.2.1 1106 = .ok (.ireturn, 1) := by decide +kernel
