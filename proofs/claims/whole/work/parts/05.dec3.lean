theorem d_RDR_addFixedSet_25 : decode b_RDR_addFixedSet 25 = .ok (.getfield 44, 3) := by decide +kernel
theorem d_RDR_addFixedSet_28 : decode b_RDR_addFixedSet 28 = .ok (.aload_n 0, 1) := by decide +kernel
theorem d_RDR_addFixedSet_29 : decode b_RDR_addFixedSet 29 = .ok (.getfield 21, 3) := by decide +kernel
theorem d_RDR_addFixedSet_32 : decode b_RDR_addFixedSet 32 = .ok (.invokevirtual 231, 3) := by decide +kernel
theorem d_RDR_addFixedSet_35 : decode b_RDR_addFixedSet 35 = .ok (.return_, 1) := by decide +kernel
theorem d_RDR_readEscapePart_0 : decode b_RDR_readEscapePart 0 = .ok (.aload_n 0, 1) := by decide +kernel
theorem d_RDR_readEscapePart_1 : decode b_RDR_readEscapePart 1 = .ok (.getfield 57, 3) := by decide +kernel
theorem d_RDR_readEscapePart_4 : decode b_RDR_readEscapePart 4 = .ok (.aload_n 0, 1) := by decide +kernel
theorem d_RDR_readEscapePart_5 : decode b_RDR_readEscapePart 5 = .ok (.getfield 25, 3) := by decide +kernel
theorem d_RDR_readEscapePart_8 : decode b_RDR_readEscapePart 8 = .ok (.invokevirtual 235, 3) := by decide +kernel
theorem d_RDR_readEscapePart_11 : decode b_RDR_readEscapePart 11 = .ok (.istore_n 1, 1) := by decide +kernel
theorem d_RDR_readEscapePart_12 : decode b_RDR_readEscapePart 12 = .ok (.iload_n 1, 1) := by decide +kernel
theorem d_RDR_readEscapePart_13 : decode b_RDR_readEscapePart 13 = .ok (.ifCond .eq 16, 3) := by decide +kernel
theorem d_RDR_readEscapePart_16 : decode b_RDR_readEscapePart 16 = .ok (.aload_n 0, 1) := by decide +kernel
theorem d_RDR_readEscapePart_17 : decode b_RDR_readEscapePart 17 = .ok (.getfield 40, 3) := by decide +kernel
theorem d_RDR_readEscapePart_20 : decode b_RDR_readEscapePart 20 = .ok (.iload_n 1, 1) := by decide +kernel
theorem d_RDR_readEscapePart_21 : decode b_RDR_readEscapePart 21 = .ok (.aload_n 0, 1) := by decide +kernel
theorem d_RDR_readEscapePart_22 : decode b_RDR_readEscapePart 22 = .ok (.getfield 25, 3) := by decide +kernel
theorem d_RDR_readEscapePart_25 : decode b_RDR_readEscapePart 25 = .ok (.invokevirtual 113, 3) := by decide +kernel
theorem d_RDR_readEscapePart_28 : decode b_RDR_readEscapePart 28 = .ok (.return_, 1) := by decide +kernel
theorem d_RDR_readEscapePart_29 : decode b_RDR_readEscapePart 29 = .ok (.aload_n 0, 1) := by decide +kernel
theorem d_RDR_readEscapePart_30 : decode b_RDR_readEscapePart 30 = .ok (.getfield 57, 3) := by decide +kernel
theorem d_RDR_readEscapePart_33 : decode b_RDR_readEscapePart 33 = .ok (.getfield 238, 3) := by decide +kernel
theorem d_RDR_readEscapePart_36 : decode b_RDR_readEscapePart 36 = .ok (.lookupswitch 63 #[(0, 28), (1, 42)], 28) := by decide +kernel
theorem d_RDR_readEscapePart_64 : decode b_RDR_readEscapePart 64 = .ok (.aload_n 0, 1) := by decide +kernel
theorem d_RDR_readEscapePart_65 : decode b_RDR_readEscapePart 65 = .ok (.aload_n 0, 1) := by decide +kernel
theorem d_RDR_readEscapePart_66 : decode b_RDR_readEscapePart 66 = .ok (.getfield 57, 3) := by decide +kernel
theorem d_RDR_readEscapePart_69 : decode b_RDR_readEscapePart 69 = .ok (.getfield 241, 3) := by decide +kernel
theorem d_RDR_readEscapePart_72 : decode b_RDR_readEscapePart 72 = .ok (.invokevirtual 244, 3) := by decide +kernel
theorem d_RDR_readEscapePart_75 : decode b_RDR_readEscapePart 75 = .ok (.goto 46, 3) := by decide +kernel
theorem d_RDR_readEscapePart_78 : decode b_RDR_readEscapePart 78 = .ok (.aload_n 0, 1) := by decide +kernel
theorem d_RDR_readEscapePart_79 : decode b_RDR_readEscapePart 79 = .ok (.aload_n 0, 1) := by decide +kernel
theorem d_RDR_readEscapePart_80 : decode b_RDR_readEscapePart 80 = .ok (.getfield 57, 3) := by decide +kernel
theorem d_RDR_readEscapePart_83 : decode b_RDR_readEscapePart 83 = .ok (.getfield 247, 3) := by decide +kernel
theorem d_RDR_readEscapePart_86 : decode b_RDR_readEscapePart 86 = .ok (.aload_n 0, 1) := by decide +kernel
theorem d_RDR_readEscapePart_87 : decode b_RDR_readEscapePart 87 = .ok (.getfield 57, 3) := by decide +kernel
theorem d_RDR_readEscapePart_90 : decode b_RDR_readEscapePart 90 = .ok (.getfield 249, 3) := by decide +kernel
theorem d_RDR_readEscapePart_93 : decode b_RDR_readEscapePart 93 = .ok (.invokevirtual 252, 3) := by decide +kernel
theorem d_RDR_readEscapePart_96 : decode b_RDR_readEscapePart 96 = .ok (.goto 25, 3) := by decide +kernel
theorem d_RDR_readEscapePart_99 : decode b_RDR_readEscapePart 99 = .ok (.aload_n 0, 1) := by decide +kernel
theorem d_RDR_readEscapePart_100 : decode b_RDR_readEscapePart 100 = .ok (.getfield 44, 3) := by decide +kernel
theorem d_RDR_readEscapePart_103 : decode b_RDR_readEscapePart 103 = .ok (.aload_n 0, 1) := by decide +kernel
theorem d_RDR_readEscapePart_104 : decode b_RDR_readEscapePart 104 = .ok (.getfield 57, 3) := by decide +kernel
theorem d_RDR_readEscapePart_107 : decode b_RDR_readEscapePart 107 = .ok (.getfield 238, 3) := by decide +kernel
theorem d_RDR_readEscapePart_110 : decode b_RDR_readEscapePart 110 = .ok (.aload_n 0, 1) := by decide +kernel
theorem d_RDR_readEscapePart_111 : decode b_RDR_readEscapePart 111 = .ok (.getfield 57, 3) := by decide +kernel
theorem d_RDR_readEscapePart_114 : decode b_RDR_readEscapePart 114 = .ok (.getfield 241, 3) := by decide +kernel
theorem d_RDR_readEscapePart_117 : decode b_RDR_readEscapePart 117 = .ok (.iconst 1, 1) := by decide +kernel
theorem d_RDR_readEscapePart_118 : decode b_RDR_readEscapePart 118 = .ok (.invokevirtual 184, 3) := by decide +kernel
theorem d_RDR_readEscapePart_121 : decode b_RDR_readEscapePart 121 = .ok (.aload_n 0, 1) := by decide +kernel
theorem d_RDR_readEscapePart_122 : decode b_RDR_readEscapePart 122 = .ok (.aload_n 0, 1) := by decide +kernel
theorem d_RDR_readEscapePart_123 : decode b_RDR_readEscapePart 123 = .ok (.getfield 57, 3) := by decide +kernel
theorem d_RDR_readEscapePart_126 : decode b_RDR_readEscapePart 126 = .ok (.getfield 256, 3) := by decide +kernel
theorem d_RDR_readEscapePart_129 : decode b_RDR_readEscapePart 129 = .ok (.iconst 1, 1) := by decide +kernel
theorem d_RDR_readEscapePart_130 : decode b_RDR_readEscapePart 130 = .ok (.invokevirtual 191, 3) := by decide +kernel
theorem d_RDR_readEscapePart_133 : decode b_RDR_readEscapePart 133 = .ok (.return_, 1) := by decide +kernel
theorem d_RDR_readAny_0 : decode b_RDR_readAny 0 = .ok (.aload_n 0, 1) := by decide +kernel
theorem d_RDR_readAny_1 : decode b_RDR_readAny 1 = .ok (.aload_n 0, 1) := by decide +kernel
theorem d_RDR_readAny_2 : decode b_RDR_readAny 2 = .ok (.iconst 4, 1) := by decide +kernel
theorem d_RDR_readAny_3 : decode b_RDR_readAny 3 = .ok (.invokevirtual 133, 3) := by decide +kernel
theorem d_RDR_readAny_6 : decode b_RDR_readAny 6 = .ok (.ifCond .eq 9, 3) := by decide +kernel
theorem d_RDR_readAny_9 : decode b_RDR_readAny 9 = .ok (.getstatic 257, 3) := by decide +kernel
theorem d_RDR_readAny_12 : decode b_RDR_readAny 12 = .ok (.goto 6, 3) := by decide +kernel
theorem d_RDR_readAny_15 : decode b_RDR_readAny 15 = .ok (.getstatic 260, 3) := by decide +kernel
theorem d_RDR_readAny_18 : decode b_RDR_readAny 18 = .ok (.iconst 1, 1) := by decide +kernel
theorem d_RDR_readAny_19 : decode b_RDR_readAny 19 = .ok (.invokevirtual 252, 3) := by decide +kernel
theorem d_RDR_readAny_22 : decode b_RDR_readAny 22 = .ok (.aload_n 0, 1) := by decide +kernel
theorem d_RDR_readAny_23 : decode b_RDR_readAny 23 = .ok (.aload_n 0, 1) := by decide +kernel
theorem d_RDR_readAny_24 : decode b_RDR_readAny 24 = .ok (.getfield 25, 3) := by decide +kernel
theorem d_RDR_readAny_27 : decode b_RDR_readAny 27 = .ok (.iconst 1, 1) := by decide +kernel
theorem d_RDR_readAny_28 : decode b_RDR_readAny 28 = .ok (.iadd, 1) := by decide +kernel
theorem d_RDR_readAny_29 : decode b_RDR_readAny 29 = .ok (.iconst 1, 1) := by decide +kernel
theorem d_RDR_readAny_30 : decode b_RDR_readAny 30 = .ok (.invokevirtual 191, 3) := by decide +kernel
theorem d_RDR_readAny_33 : decode b_RDR_readAny 33 = .ok (.return_, 1) := by decide +kernel
theorem d_RDR_addAssertion_0 : decode b_RDR_addAssertion 0 = .ok (.aload_n 0, 1) := by decide +kernel
theorem d_RDR_addAssertion_1 : decode b_RDR_addAssertion 1 = .ok (.getfield 44, 3) := by decide +kernel
theorem d_RDR_addAssertion_4 : decode b_RDR_addAssertion 4 = .ok (.iconst 3, 1) := by decide +kernel
theorem d_RDR_addAssertion_5 : decode b_RDR_addAssertion 5 = .ok (.iload_n 1, 1) := by decide +kernel
theorem d_RDR_addAssertion_6 : decode b_RDR_addAssertion 6 = .ok (.iconst 1, 1) := by decide +kernel
theorem d_RDR_addAssertion_7 : decode b_RDR_addAssertion 7 = .ok (.invokevirtual 184, 3) := by decide +kernel
theorem d_RDR_addAssertion_10 : decode b_RDR_addAssertion 10 = .ok (.aload_n 0, 1) := by decide +kernel
theorem d_RDR_addAssertion_11 : decode b_RDR_addAssertion 11 = .ok (.aload_n 0, 1) := by decide +kernel
theorem d_RDR_addAssertion_12 : decode b_RDR_addAssertion 12 = .ok (.getfield 25, 3) := by decide +kernel
theorem d_RDR_addAssertion_15 : decode b_RDR_addAssertion 15 = .ok (.iconst 1, 1) := by decide +kernel
theorem d_RDR_addAssertion_16 : decode b_RDR_addAssertion 16 = .ok (.iadd, 1) := by decide +kernel
theorem d_RDR_addAssertion_17 : decode b_RDR_addAssertion 17 = .ok (.iconst 1, 1) := by decide +kernel
theorem d_RDR_addAssertion_18 : decode b_RDR_addAssertion 18 = .ok (.invokevirtual 191, 3) := by decide +kernel
theorem d_RDR_addAssertion_21 : decode b_RDR_addAssertion 21 = .ok (.return_, 1) := by decide +kernel
theorem d_REP_readNumber_0 : decode b_REP_readNumber 0 = .ok (.iconst 0, 1) := by decide +kernel
theorem d_REP_readNumber_1 : decode b_REP_readNumber 1 = .ok (.istore_n 1, 1) := by decide +kernel
theorem d_REP_readNumber_2 : decode b_REP_readNumber 2 = .ok (.aload_n 0, 1) := by decide +kernel
theorem d_REP_readNumber_3 : decode b_REP_readNumber 3 = .ok (.iconst 0, 1) := by decide +kernel
theorem d_REP_readNumber_4 : decode b_REP_readNumber 4 = .ok (.putfield 25, 3) := by decide +kernel
theorem d_REP_readNumber_7 : decode b_REP_readNumber 7 = .ok (.iload_n 1, 1) := by decide +kernel
theorem d_REP_readNumber_8 : decode b_REP_readNumber 8 = .ok (.iconst 3, 1) := by decide +kernel
theorem d_REP_readNumber_9 : decode b_REP_readNumber 9 = .ok (.if_icmp .ge 62, 3) := by decide +kernel
theorem d_REP_readNumber_12 : decode b_REP_readNumber 12 = .ok (.aload_n 0, 1) := by decide +kernel
theorem d_REP_readNumber_13 : decode b_REP_readNumber 13 = .ok (.getfield 28, 3) := by decide +kernel
theorem d_REP_readNumber_16 : decode b_REP_readNumber 16 = .ok (.aload_n 0, 1) := by decide +kernel
theorem d_REP_readNumber_17 : decode b_REP_readNumber 17 = .ok (.getfield 22, 3) := by decide +kernel
theorem d_REP_readNumber_20 : decode b_REP_readNumber 20 = .ok (.invokevirtual 32, 3) := by decide +kernel
theorem d_REP_readNumber_23 : decode b_REP_readNumber 23 = .ok (.invokestatic 45, 3) := by decide +kernel
theorem d_REP_readNumber_26 : decode b_REP_readNumber 26 = .ok (.ifCond .eq 45, 3) := by decide +kernel
theorem d_REP_readNumber_29 : decode b_REP_readNumber 29 = .ok (.aload_n 0, 1) := by decide +kernel
theorem d_REP_readNumber_30 : decode b_REP_readNumber 30 = .ok (.aload_n 0, 1) := by decide +kernel
theorem d_REP_readNumber_31 : decode b_REP_readNumber 31 = .ok (.getfield 25, 3) := by decide +kernel
theorem d_REP_readNumber_34 : decode b_REP_readNumber 34 = .ok (.bipush 10, 2) := by decide +kernel
theorem d_REP_readNumber_36 : decode b_REP_readNumber 36 = .ok (.imul, 1) := by decide +kernel
theorem d_REP_readNumber_37 : decode b_REP_readNumber 37 = .ok (.aload_n 0, 1) := by decide +kernel
theorem d_REP_readNumber_38 : decode b_REP_readNumber 38 = .ok (.getfield 28, 3) := by decide +kernel
theorem d_REP_readNumber_41 : decode b_REP_readNumber 41 = .ok (.aload_n 0, 1) := by decide +kernel
theorem d_REP_readNumber_42 : decode b_REP_readNumber 42 = .ok (.getfield 22, 3) := by decide +kernel
theorem d_REP_readNumber_45 : decode b_REP_readNumber 45 = .ok (.invokevirtual 32, 3) := by decide +kernel
theorem d_REP_readNumber_48 : decode b_REP_readNumber 48 = .ok (.iadd, 1) := by decide +kernel
theorem d_REP_readNumber_49 : decode b_REP_readNumber 49 = .ok (.bipush 48, 2) := by decide +kernel
theorem d_REP_readNumber_51 : decode b_REP_readNumber 51 = .ok (.isub, 1) := by decide +kernel
theorem d_REP_readNumber_52 : decode b_REP_readNumber 52 = .ok (.putfield 25, 3) := by decide +kernel
theorem d_REP_readNumber_55 : decode b_REP_readNumber 55 = .ok (.iinc 1 1, 3) := by decide +kernel
theorem d_REP_readNumber_58 : decode b_REP_readNumber 58 = .ok (.aload_n 0, 1) := by decide +kernel
theorem d_REP_readNumber_59 : decode b_REP_readNumber 59 = .ok (.dup, 1) := by decide +kernel
theorem d_REP_readNumber_60 : decode b_REP_readNumber 60 = .ok (.getfield 22, 3) := by decide +kernel
theorem d_REP_readNumber_63 : decode b_REP_readNumber 63 = .ok (.iconst 1, 1) := by decide +kernel
theorem d_REP_readNumber_64 : decode b_REP_readNumber 64 = .ok (.iadd, 1) := by decide +kernel
theorem d_REP_readNumber_65 : decode b_REP_readNumber 65 = .ok (.putfield 22, 3) := by decide +kernel
theorem d_REP_readNumber_68 : decode b_REP_readNumber 68 = .ok (.goto (-61), 3) := by decide +kernel
theorem d_REP_readNumber_71 : decode b_REP_readNumber 71 = .ok (.iload_n 1, 1) := by decide +kernel
theorem d_REP_readNumber_72 : decode b_REP_readNumber 72 = .ok (.ifCond .le 7, 3) := by decide +kernel
theorem d_REP_readNumber_75 : decode b_REP_readNumber 75 = .ok (.iconst 1, 1) := by decide +kernel
theorem d_REP_readNumber_76 : decode b_REP_readNumber 76 = .ok (.goto 4, 3) := by decide +kernel
theorem d_REP_readNumber_79 : decode b_REP_readNumber 79 = .ok (.iconst 0, 1) := by decide +kernel
theorem d_REP_readNumber_80 : decode b_REP_readNumber 80 = .ok (.ireturn, 1) := by decide +kernel
theorem d_REP_readBounds_0 : decode b_REP_readBounds 0 = .ok (.aload_n 0, 1) := by decide +kernel
theorem d_REP_readBounds_1 : decode b_REP_readBounds 1 = .ok (.invokevirtual 42, 3) := by decide +kernel
theorem d_REP_readBounds_4 : decode b_REP_readBounds 4 = .ok (.ifCond .ne 5, 3) := by decide +kernel
theorem d_REP_readBounds_7 : decode b_REP_readBounds 7 = .ok (.iconst 0, 1) := by decide +kernel
theorem d_REP_readBounds_8 : decode b_REP_readBounds 8 = .ok (.ireturn, 1) := by decide +kernel
theorem d_REP_readBounds_9 : decode b_REP_readBounds 9 = .ok (.aload_n 0, 1) := by decide +kernel
theorem d_REP_readBounds_10 : decode b_REP_readBounds 10 = .ok (.aload_n 0, 1) := by decide +kernel
theorem d_REP_readBounds_11 : decode b_REP_readBounds 11 = .ok (.getfield 25, 3) := by decide +kernel
theorem d_REP_readBounds_14 : decode b_REP_readBounds 14 = .ok (.putfield 9, 3) := by decide +kernel
theorem d_REP_readBounds_17 : decode b_REP_readBounds 17 = .ok (.aload_n 0, 1) := by decide +kernel
theorem d_REP_readBounds_18 : decode b_REP_readBounds 18 = .ok (.aload_n 0, 1) := by decide +kernel
theorem d_REP_readBounds_19 : decode b_REP_readBounds 19 = .ok (.getfield 25, 3) := by decide +kernel
theorem d_REP_readBounds_22 : decode b_REP_readBounds 22 = .ok (.putfield 15, 3) := by decide +kernel
theorem d_REP_readBounds_25 : decode b_REP_readBounds 25 = .ok (.aload_n 0, 1) := by decide +kernel
theorem d_REP_readBounds_26 : decode b_REP_readBounds 26 = .ok (.getfield 28, 3) := by decide +kernel
theorem d_REP_readBounds_29 : decode b_REP_readBounds 29 = .ok (.aload_n 0, 1) := by decide +kernel
theorem d_REP_readBounds_30 : decode b_REP_readBounds 30 = .ok (.getfield 22, 3) := by decide +kernel
theorem d_REP_readBounds_33 : decode b_REP_readBounds 33 = .ok (.invokevirtual 32, 3) := by decide +kernel
theorem d_REP_readBounds_36 : decode b_REP_readBounds 36 = .ok (.bipush 44, 2) := by decide +kernel
theorem d_REP_readBounds_38 : decode b_REP_readBounds 38 = .ok (.if_icmp .ne 32, 3) := by decide +kernel
theorem d_REP_readBounds_41 : decode b_REP_readBounds 41 = .ok (.aload_n 0, 1) := by decide +kernel
theorem d_REP_readBounds_42 : decode b_REP_readBounds 42 = .ok (.dup, 1) := by decide +kernel
theorem d_REP_readBounds_43 : decode b_REP_readBounds 43 = .ok (.getfield 22, 3) := by decide +kernel
theorem d_REP_readBounds_46 : decode b_REP_readBounds 46 = .ok (.iconst 1, 1) := by decide +kernel
theorem d_REP_readBounds_47 : decode b_REP_readBounds 47 = .ok (.iadd, 1) := by decide +kernel
theorem d_REP_readBounds_48 : decode b_REP_readBounds 48 = .ok (.putfield 22, 3) := by decide +kernel
theorem d_REP_readBounds_51 : decode b_REP_readBounds 51 = .ok (.aload_n 0, 1) := by decide +kernel
theorem d_REP_readBounds_52 : decode b_REP_readBounds 52 = .ok (.aload_n 0, 1) := by decide +kernel
theorem d_REP_readBounds_53 : decode b_REP_readBounds 53 = .ok (.invokevirtual 42, 3) := by decide +kernel
theorem d_REP_readBounds_56 : decode b_REP_readBounds 56 = .ok (.ifCond .eq 10, 3) := by decide +kernel
theorem d_REP_readBounds_59 : decode b_REP_readBounds 59 = .ok (.aload_n 0, 1) := by decide +kernel
theorem d_REP_readBounds_60 : decode b_REP_readBounds 60 = .ok (.getfield 25, 3) := by decide +kernel
theorem d_REP_readBounds_63 : decode b_REP_readBounds 63 = .ok (.goto 4, 3) := by decide +kernel
theorem d_REP_readBounds_66 : decode b_REP_readBounds 66 = .ok (.iconst (-1), 1) := by decide +kernel
theorem d_REP_readBounds_67 : decode b_REP_readBounds 67 = .ok (.putfield 15, 3) := by decide +kernel
theorem d_REP_readBounds_70 : decode b_REP_readBounds 70 = .ok (.aload_n 0, 1) := by decide +kernel
theorem d_REP_readBounds_71 : decode b_REP_readBounds 71 = .ok (.dup, 1) := by decide +kernel
theorem d_REP_readBounds_72 : decode b_REP_readBounds 72 = .ok (.getfield 22, 3) := by decide +kernel
theorem d_REP_readBounds_75 : decode b_REP_readBounds 75 = .ok (.iconst 1, 1) := by decide +kernel
theorem d_REP_readBounds_76 : decode b_REP_readBounds 76 = .ok (.iadd, 1) := by decide +kernel
theorem d_REP_readBounds_77 : decode b_REP_readBounds 77 = .ok (.putfield 22, 3) := by decide +kernel
theorem d_REP_readBounds_80 : decode b_REP_readBounds 80 = .ok (.aload_n 0, 1) := by decide +kernel
theorem d_REP_readBounds_81 : decode b_REP_readBounds 81 = .ok (.getfield 28, 3) := by decide +kernel
theorem d_REP_readBounds_84 : decode b_REP_readBounds 84 = .ok (.aload_n 0, 1) := by decide +kernel
theorem d_REP_readBounds_85 : decode b_REP_readBounds 85 = .ok (.getfield 22, 3) := by decide +kernel
theorem d_REP_readBounds_88 : decode b_REP_readBounds 88 = .ok (.iconst 1, 1) := by decide +kernel
theorem d_REP_readBounds_89 : decode b_REP_readBounds 89 = .ok (.isub, 1) := by decide +kernel
theorem d_REP_readBounds_90 : decode b_REP_readBounds 90 = .ok (.invokevirtual 32, 3) := by decide +kernel
theorem d_REP_readBounds_93 : decode b_REP_readBounds 93 = .ok (.bipush 125, 2) := by decide +kernel
theorem d_REP_readBounds_95 : decode b_REP_readBounds 95 = .ok (.if_icmp .ne 7, 3) := by decide +kernel
theorem d_REP_readBounds_98 : decode b_REP_readBounds 98 = .ok (.iconst 1, 1) := by decide +kernel
theorem d_REP_readBounds_99 : decode b_REP_readBounds 99 = .ok (.goto 4, 3) := by decide +kernel
theorem d_REP_readBounds_102 : decode b_REP_readBounds 102 = .ok (.iconst 0, 1) := by decide +kernel
theorem d_REP_readBounds_103 : decode b_REP_readBounds 103 = .ok (.ireturn, 1) := by decide +kernel
theorem d_REP_readRepeat_0 : decode b_REP_readRepeat 0 = .ok (.aload_n 0, 1) := by decide +kernel
theorem d_REP_readRepeat_1 : decode b_REP_readRepeat 1 = .ok (.getfield 28, 3) := by decide +kernel
theorem d_REP_readRepeat_4 : decode b_REP_readRepeat 4 = .ok (.iload_n 1, 1) := by decide +kernel
theorem d_REP_readRepeat_5 : decode b_REP_readRepeat 5 = .ok (.invokevirtual 32, 3) := by decide +kernel
theorem d_REP_readRepeat_8 : decode b_REP_readRepeat 8 = .ok (.istore_n 2, 1) := by decide +kernel
theorem d_REP_readRepeat_9 : decode b_REP_readRepeat 9 = .ok (.aload_n 0, 1) := by decide +kernel
theorem d_REP_readRepeat_10 : decode b_REP_readRepeat 10 = .ok (.iload_n 1, 1) := by decide +kernel
theorem d_REP_readRepeat_11 : decode b_REP_readRepeat 11 = .ok (.iconst 1, 1) := by decide +kernel
theorem d_REP_readRepeat_12 : decode b_REP_readRepeat 12 = .ok (.iadd, 1) := by decide +kernel
theorem d_REP_readRepeat_13 : decode b_REP_readRepeat 13 = .ok (.putfield 22, 3) := by decide +kernel
theorem d_REP_readRepeat_16 : decode b_REP_readRepeat 16 = .ok (.iload_n 2, 1) := by decide +kernel
theorem d_REP_readRepeat_17 : decode b_REP_readRepeat 17 = .ok (.bipush 123, 2) := by decide +kernel
theorem d_REP_readRepeat_19 : decode b_REP_readRepeat 19 = .ok (.if_icmp .ne 12, 3) := by decide +kernel
theorem d_REP_readRepeat_22 : decode b_REP_readRepeat 22 = .ok (.aload_n 0, 1) := by decide +kernel
theorem d_REP_readRepeat_23 : decode b_REP_readRepeat 23 = .ok (.invokevirtual 38, 3) := by decide +kernel
theorem d_REP_readRepeat_26 : decode b_REP_readRepeat 26 = .ok (.ifCond .ne 35, 3) := by decide +kernel
theorem d_REP_readRepeat_29 : decode b_REP_readRepeat 29 = .ok (.iconst 0, 1) := by decide +kernel
theorem d_REP_readRepeat_30 : decode b_REP_readRepeat 30 = .ok (.ireturn, 1) := by decide +kernel
theorem d_REP_readRepeat_31 : decode b_REP_readRepeat 31 = .ok (.aload_n 0, 1) := by decide +kernel
theorem d_REP_readRepeat_32 : decode b_REP_readRepeat 32 = .ok (.iload_n 2, 1) := by decide +kernel
theorem d_REP_readRepeat_33 : decode b_REP_readRepeat 33 = .ok (.bipush 43, 2) := by decide +kernel
theorem d_REP_readRepeat_35 : decode b_REP_readRepeat 35 = .ok (.if_icmp .ne 7, 3) := by decide +kernel
theorem d_REP_readRepeat_38 : decode b_REP_readRepeat 38 = .ok (.iconst 1, 1) := by decide +kernel
theorem d_REP_readRepeat_39 : decode b_REP_readRepeat 39 = .ok (.goto 4, 3) := by decide +kernel
theorem d_REP_readRepeat_42 : decode b_REP_readRepeat 42 = .ok (.iconst 0, 1) := by decide +kernel
theorem d_REP_readRepeat_43 : decode b_REP_readRepeat 43 = .ok (.putfield 9, 3) := by decide +kernel
theorem d_REP_readRepeat_46 : decode b_REP_readRepeat 46 = .ok (.aload_n 0, 1) := by decide +kernel
theorem d_REP_readRepeat_47 : decode b_REP_readRepeat 47 = .ok (.iload_n 2, 1) := by decide +kernel
theorem d_REP_readRepeat_48 : decode b_REP_readRepeat 48 = .ok (.bipush 63, 2) := by decide +kernel
theorem d_REP_readRepeat_50 : decode b_REP_readRepeat 50 = .ok (.if_icmp .ne 7, 3) := by decide +kernel
theorem d_REP_readRepeat_53 : decode b_REP_readRepeat 53 = .ok (.iconst 1, 1) := by decide +kernel
theorem d_REP_readRepeat_54 : decode b_REP_readRepeat 54 = .ok (.goto 4, 3) := by decide +kernel
theorem d_REP_readRepeat_57 : decode b_REP_readRepeat 57 = .ok (.iconst (-1), 1) := by decide +kernel
theorem d_REP_readRepeat_58 : decode b_REP_readRepeat 58 = .ok (.putfield 15, 3) := by decide +kernel
theorem d_REP_readRepeat_61 : decode b_REP_readRepeat 61 = .ok (.aload_n 0, 1) := by decide +kernel
theorem d_REP_readRepeat_62 : decode b_REP_readRepeat 62 = .ok (.aload_n 0, 1) := by decide +kernel
theorem d_REP_readRepeat_63 : decode b_REP_readRepeat 63 = .ok (.getfield 28, 3) := by decide +kernel
theorem d_REP_readRepeat_66 : decode b_REP_readRepeat 66 = .ok (.aload_n 0, 1) := by decide +kernel
theorem d_REP_readRepeat_67 : decode b_REP_readRepeat 67 = .ok (.getfield 22, 3) := by decide +kernel
theorem d_REP_readRepeat_70 : decode b_REP_readRepeat 70 = .ok (.invokevirtual 32, 3) := by decide +kernel
theorem d_REP_readRepeat_73 : decode b_REP_readRepeat 73 = .ok (.bipush 63, 2) := by decide +kernel
theorem d_REP_readRepeat_75 : decode b_REP_readRepeat 75 = .ok (.if_icmp .ne 7, 3) := by decide +kernel
theorem d_REP_readRepeat_78 : decode b_REP_readRepeat 78 = .ok (.iconst 1, 1) := by decide +kernel
theorem d_REP_readRepeat_79 : decode b_REP_readRepeat 79 = .ok (.goto 4, 3) := by decide +kernel
theorem d_REP_readRepeat_82 : decode b_REP_readRepeat 82 = .ok (.iconst 0, 1) := by decide +kernel
theorem d_REP_readRepeat_83 : decode b_REP_readRepeat 83 = .ok (.putfield 18, 3) := by decide +kernel
theorem d_REP_readRepeat_86 : decode b_REP_readRepeat 86 = .ok (.aload_n 0, 1) := by decide +kernel
theorem d_REP_readRepeat_87 : decode b_REP_readRepeat 87 = .ok (.getfield 18, 3) := by decide +kernel
theorem d_REP_readRepeat_90 : decode b_REP_readRepeat 90 = .ok (.ifCond .eq 13, 3) := by decide +kernel
theorem d_REP_readRepeat_93 : decode b_REP_readRepeat 93 = .ok (.aload_n 0, 1) := by decide +kernel
theorem d_REP_readRepeat_94 : decode b_REP_readRepeat 94 = .ok (.dup, 1) := by decide +kernel
theorem d_REP_readRepeat_95 : decode b_REP_readRepeat 95 = .ok (.getfield 22, 3) := by decide +kernel
theorem d_REP_readRepeat_98 : decode b_REP_readRepeat 98 = .ok (.iconst 1, 1) := by decide +kernel
theorem d_REP_readRepeat_99 : decode b_REP_readRepeat 99 = .ok (.iadd, 1) := by decide +kernel
theorem d_REP_readRepeat_100 : decode b_REP_readRepeat 100 = .ok (.putfield 22, 3) := by decide +kernel
theorem d_REP_readRepeat_103 : decode b_REP_readRepeat 103 = .ok (.iconst 1, 1) := by decide +kernel
theorem d_REP_readRepeat_104 : decode b_REP_readRepeat 104 = .ok (.ireturn, 1) := by decide +kernel
theorem d_REP_hasBadTimes_0 : decode b_REP_hasBadTimes 0 = .ok (.aload_n 0, 1) := by decide +kernel
theorem d_REP_hasBadTimes_1 : decode b_REP_hasBadTimes 1 = .ok (.getfield 9, 3) := by decide +kernel
theorem d_REP_hasBadTimes_4 : decode b_REP_hasBadTimes 4 = .ok (.bipush 100, 2) := by decide +kernel
theorem d_REP_hasBadTimes_6 : decode b_REP_hasBadTimes 6 = .ok (.if_icmp .gt 31, 3) := by decide +kernel
theorem d_REP_hasBadTimes_9 : decode b_REP_hasBadTimes 9 = .ok (.aload_n 0, 1) := by decide +kernel
theorem d_REP_hasBadTimes_10 : decode b_REP_hasBadTimes 10 = .ok (.getfield 15, 3) := by decide +kernel
theorem d_REP_hasBadTimes_13 : decode b_REP_hasBadTimes 13 = .ok (.bipush 100, 2) := by decide +kernel
theorem d_REP_hasBadTimes_15 : decode b_REP_hasBadTimes 15 = .ok (.if_icmp .gt 22, 3) := by decide +kernel
theorem d_REP_hasBadTimes_18 : decode b_REP_hasBadTimes 18 = .ok (.aload_n 0, 1) := by decide +kernel
theorem d_REP_hasBadTimes_19 : decode b_REP_hasBadTimes 19 = .ok (.getfield 15, 3) := by decide +kernel
theorem d_REP_hasBadTimes_22 : decode b_REP_hasBadTimes 22 = .ok (.iconst (-1), 1) := by decide +kernel
theorem d_REP_hasBadTimes_23 : decode b_REP_hasBadTimes 23 = .ok (.if_icmp .eq 18, 3) := by decide +kernel
theorem d_REP_hasBadTimes_26 : decode b_REP_hasBadTimes 26 = .ok (.aload_n 0, 1) := by decide +kernel
theorem d_REP_hasBadTimes_27 : decode b_REP_hasBadTimes 27 = .ok (.getfield 9, 3) := by decide +kernel
theorem d_REP_hasBadTimes_30 : decode b_REP_hasBadTimes 30 = .ok (.aload_n 0, 1) := by decide +kernel
theorem d_REP_hasBadTimes_31 : decode b_REP_hasBadTimes 31 = .ok (.getfield 15, 3) := by decide +kernel
theorem d_REP_hasBadTimes_34 : decode b_REP_hasBadTimes 34 = .ok (.if_icmp .le 7, 3) := by decide +kernel
theorem d_REP_hasBadTimes_37 : decode b_REP_hasBadTimes 37 = .ok (.iconst 1, 1) := by decide +kernel
theorem d_REP_hasBadTimes_38 : decode b_REP_hasBadTimes 38 = .ok (.goto 4, 3) := by decide +kernel
theorem d_REP_hasBadTimes_41 : decode b_REP_hasBadTimes 41 = .ok (.iconst 0, 1) := by decide +kernel
theorem d_REP_hasBadTimes_42 : decode b_REP_hasBadTimes 42 = .ok (.ireturn, 1) := by decide +kernel
theorem d_REP_sizeOver_0 : decode b_REP_sizeOver 0 = .ok (.aload_n 0, 1) := by decide +kernel
theorem d_REP_sizeOver_1 : decode b_REP_sizeOver 1 = .ok (.getfield 15, 3) := by decide +kernel
theorem d_REP_sizeOver_4 : decode b_REP_sizeOver 4 = .ok (.iconst (-1), 1) := by decide +kernel
theorem d_REP_sizeOver_5 : decode b_REP_sizeOver 5 = .ok (.if_icmp .eq 20, 3) := by decide +kernel
theorem d_REP_sizeOver_8 : decode b_REP_sizeOver 8 = .ok (.aload_n 0, 1) := by decide +kernel
theorem d_REP_sizeOver_9 : decode b_REP_sizeOver 9 = .ok (.getfield 15, 3) := by decide +kernel
theorem d_REP_sizeOver_12 : decode b_REP_sizeOver 12 = .ok (.iload_n 1, 1) := by decide +kernel
theorem d_REP_sizeOver_13 : decode b_REP_sizeOver 13 = .ok (.imul, 1) := by decide +kernel
theorem d_REP_sizeOver_14 : decode b_REP_sizeOver 14 = .ok (.aload_n 0, 1) := by decide +kernel
theorem d_REP_sizeOver_15 : decode b_REP_sizeOver 15 = .ok (.getfield 15, 3) := by decide +kernel
theorem d_REP_sizeOver_18 : decode b_REP_sizeOver 18 = .ok (.iadd, 1) := by decide +kernel
theorem d_REP_sizeOver_19 : decode b_REP_sizeOver 19 = .ok (.aload_n 0, 1) := by decide +kernel
theorem d_REP_sizeOver_20 : decode b_REP_sizeOver 20 = .ok (.getfield 9, 3) := by decide +kernel
theorem d_REP_sizeOver_23 : decode b_REP_sizeOver 23 = .ok (.isub, 1) := by decide +kernel
theorem d_REP_sizeOver_24 : decode b_REP_sizeOver 24 = .ok (.ireturn, 1) := by decide +kernel
theorem d_REP_sizeOver_25 : decode b_REP_sizeOver 25 = .ok (.aload_n 0, 1) := by decide +kernel
theorem d_REP_sizeOver_26 : decode b_REP_sizeOver 26 = .ok (.getfield 9, 3) := by decide +kernel
theorem d_REP_sizeOver_29 : decode b_REP_sizeOver 29 = .ok (.iload_n 1, 1) := by decide +kernel
theorem d_REP_sizeOver_30 : decode b_REP_sizeOver 30 = .ok (.imul, 1) := by decide +kernel
theorem d_REP_sizeOver_31 : decode b_REP_sizeOver 31 = .ok (.iload_n 1, 1) := by decide +kernel
theorem d_REP_sizeOver_32 : decode b_REP_sizeOver 32 = .ok (.iadd, 1) := by decide +kernel
theorem d_REP_sizeOver_33 : decode b_REP_sizeOver 33 = .ok (.iconst 1, 1) := by decide +kernel
theorem d_REP_sizeOver_34 : decode b_REP_sizeOver 34 = .ok (.iadd, 1) := by decide +kernel
theorem d_REP_sizeOver_35 : decode b_REP_sizeOver 35 = .ok (.ireturn, 1) := by decide +kernel
theorem d_RDR_addRepeat_0 : decode b_RDR_addRepeat 0 = .ok (.aload_n 0, 1) := by decide +kernel
theorem d_RDR_addRepeat_1 : decode b_RDR_addRepeat 1 = .ok (.getfield 32, 3) := by decide +kernel
theorem d_RDR_addRepeat_4 : decode b_RDR_addRepeat 4 = .ok (.ifCond .ne 17, 3) := by decide +kernel
theorem d_RDR_addRepeat_7 : decode b_RDR_addRepeat 7 = .ok (.aload_n 0, 1) := by decide +kernel
theorem d_RDR_addRepeat_8 : decode b_RDR_addRepeat 8 = .ok (.getfield 40, 3) := by decide +kernel
theorem d_RDR_addRepeat_11 : decode b_RDR_addRepeat 11 = .ok (.bipush 8, 2) := by decide +kernel
theorem d_RDR_addRepeat_13 : decode b_RDR_addRepeat 13 = .ok (.aload_n 0, 1) := by decide +kernel
theorem d_RDR_addRepeat_14 : decode b_RDR_addRepeat 14 = .ok (.getfield 25, 3) := by decide +kernel
theorem d_RDR_addRepeat_17 : decode b_RDR_addRepeat 17 = .ok (.invokevirtual 113, 3) := by decide +kernel
theorem d_RDR_addRepeat_20 : decode b_RDR_addRepeat 20 = .ok (.return_, 1) := by decide +kernel
theorem d_RDR_addRepeat_21 : decode b_RDR_addRepeat 21 = .ok (.aload_n 0, 1) := by decide +kernel
theorem d_RDR_addRepeat_22 : decode b_RDR_addRepeat 22 = .ok (.getfield 80, 3) := by decide +kernel
theorem d_RDR_addRepeat_25 : decode b_RDR_addRepeat 25 = .ok (.invokevirtual 271, 3) := by decide +kernel
theorem d_RDR_addRepeat_28 : decode b_RDR_addRepeat 28 = .ok (.ifCond .eq 17, 3) := by decide +kernel
theorem d_RDR_addRepeat_31 : decode b_RDR_addRepeat 31 = .ok (.aload_n 0, 1) := by decide +kernel
theorem d_RDR_addRepeat_32 : decode b_RDR_addRepeat 32 = .ok (.getfield 40, 3) := by decide +kernel
theorem d_RDR_addRepeat_35 : decode b_RDR_addRepeat 35 = .ok (.bipush 9, 2) := by decide +kernel
theorem d_RDR_addRepeat_37 : decode b_RDR_addRepeat 37 = .ok (.aload_n 0, 1) := by decide +kernel
theorem d_RDR_addRepeat_38 : decode b_RDR_addRepeat 38 = .ok (.getfield 25, 3) := by decide +kernel
theorem d_RDR_addRepeat_41 : decode b_RDR_addRepeat 41 = .ok (.invokevirtual 113, 3) := by decide +kernel
theorem d_RDR_addRepeat_44 : decode b_RDR_addRepeat 44 = .ok (.return_, 1) := by decide +kernel
theorem d_RDR_addRepeat_45 : decode b_RDR_addRepeat 45 = .ok (.aload_n 0, 1) := by decide +kernel
theorem d_RDR_addRepeat_46 : decode b_RDR_addRepeat 46 = .ok (.getfield 80, 3) := by decide +kernel
theorem d_RDR_addRepeat_49 : decode b_RDR_addRepeat 49 = .ok (.getfield 274, 3) := by decide +kernel
theorem d_RDR_addRepeat_52 : decode b_RDR_addRepeat 52 = .ok (.aload_n 0, 1) := by decide +kernel
theorem d_RDR_addRepeat_53 : decode b_RDR_addRepeat 53 = .ok (.bipush 8, 2) := by decide +kernel
theorem d_RDR_addRepeat_55 : decode b_RDR_addRepeat 55 = .ok (.invokevirtual 133, 3) := by decide +kernel
theorem d_RDR_addRepeat_58 : decode b_RDR_addRepeat 58 = .ok (.if_icmp .eq 8, 3) := by decide +kernel
theorem d_RDR_addRepeat_61 : decode b_RDR_addRepeat 61 = .ok (.bipush 8, 2) := by decide +kernel
theorem d_RDR_addRepeat_63 : decode b_RDR_addRepeat 63 = .ok (.goto 5, 3) := by decide +kernel
theorem d_RDR_addRepeat_66 : decode b_RDR_addRepeat 66 = .ok (.bipush 7, 2) := by decide +kernel
theorem d_RDR_addRepeat_68 : decode b_RDR_addRepeat 68 = .ok (.istore_n 1, 1) := by decide +kernel
theorem d_RDR_addRepeat_69 : decode b_RDR_addRepeat 69 = .ok (.aload_n 0, 1) := by decide +kernel
theorem d_RDR_addRepeat_70 : decode b_RDR_addRepeat 70 = .ok (.getfield 80, 3) := by decide +kernel
theorem d_RDR_addRepeat_73 : decode b_RDR_addRepeat 73 = .ok (.aload_n 0, 1) := by decide +kernel
theorem d_RDR_addRepeat_74 : decode b_RDR_addRepeat 74 = .ok (.getfield 44, 3) := by decide +kernel
theorem d_RDR_addRepeat_77 : decode b_RDR_addRepeat 77 = .ok (.iconst 1, 1) := by decide +kernel
theorem d_RDR_addRepeat_78 : decode b_RDR_addRepeat 78 = .ok (.invokevirtual 166, 3) := by decide +kernel
theorem d_RDR_addRepeat_81 : decode b_RDR_addRepeat 81 = .ok (.invokevirtual 277, 3) := by decide +kernel
theorem d_RDR_addRepeat_84 : decode b_RDR_addRepeat 84 = .ok (.istore_n 2, 1) := by decide +kernel
theorem d_RDR_addRepeat_85 : decode b_RDR_addRepeat 85 = .ok (.aload_n 0, 1) := by decide +kernel
theorem d_RDR_addRepeat_86 : decode b_RDR_addRepeat 86 = .ok (.getfield 44, 3) := by decide +kernel
theorem d_RDR_addRepeat_89 : decode b_RDR_addRepeat 89 = .ok (.iconst 1, 1) := by decide +kernel
theorem d_RDR_addRepeat_90 : decode b_RDR_addRepeat 90 = .ok (.iload_n 1, 1) := by decide +kernel
theorem d_RDR_addRepeat_91 : decode b_RDR_addRepeat 91 = .ok (.aload_n 0, 1) := by decide +kernel
theorem d_RDR_addRepeat_92 : decode b_RDR_addRepeat 92 = .ok (.getfield 80, 3) := by decide +kernel
theorem d_RDR_addRepeat_95 : decode b_RDR_addRepeat 95 = .ok (.getfield 280, 3) := by decide +kernel
theorem d_RDR_addRepeat_98 : decode b_RDR_addRepeat 98 = .ok (.aload_n 0, 1) := by decide +kernel
theorem d_RDR_addRepeat_99 : decode b_RDR_addRepeat 99 = .ok (.getfield 80, 3) := by decide +kernel
theorem d_RDR_addRepeat_102 : decode b_RDR_addRepeat 102 = .ok (.getfield 283, 3) := by decide +kernel
theorem d_RDR_addRepeat_105 : decode b_RDR_addRepeat 105 = .ok (.iload_n 2, 1) := by decide +kernel
theorem d_RDR_addRepeat_106 : decode b_RDR_addRepeat 106 = .ok (.invokevirtual 169, 3) := by decide +kernel
theorem d_RDR_addRepeat_109 : decode b_RDR_addRepeat 109 = .ok (.aload_n 0, 1) := by decide +kernel
theorem d_RDR_addRepeat_110 : decode b_RDR_addRepeat 110 = .ok (.iconst 0, 1) := by decide +kernel
theorem d_RDR_addRepeat_111 : decode b_RDR_addRepeat 111 = .ok (.putfield 32, 3) := by decide +kernel
theorem d_RDR_addRepeat_114 : decode b_RDR_addRepeat 114 = .ok (.aload_n 0, 1) := by decide +kernel
theorem d_RDR_addRepeat_115 : decode b_RDR_addRepeat 115 = .ok (.aload_n 0, 1) := by decide +kernel
theorem d_RDR_addRepeat_116 : decode b_RDR_addRepeat 116 = .ok (.getfield 80, 3) := by decide +kernel
theorem d_RDR_addRepeat_119 : decode b_RDR_addRepeat 119 = .ok (.getfield 286, 3) := by decide +kernel
theorem d_RDR_addRepeat_122 : decode b_RDR_addRepeat 122 = .ok (.putfield 25, 3) := by decide +kernel
theorem d_RDR_addRepeat_125 : decode b_RDR_addRepeat 125 = .ok (.return_, 1) := by decide +kernel
theorem d_RDR_readCharacter_0 : decode b_RDR_readCharacter 0 = .ok (.aload_n 0, 1) := by decide +kernel
theorem d_RDR_readCharacter_1 : decode b_RDR_readCharacter 1 = .ok (.getfield 36, 3) := by decide +kernel
theorem d_RDR_readCharacter_4 : decode b_RDR_readCharacter 4 = .ok (.aload_n 0, 1) := by decide +kernel
theorem d_RDR_readCharacter_5 : decode b_RDR_readCharacter 5 = .ok (.getfield 25, 3) := by decide +kernel
theorem d_RDR_readCharacter_8 : decode b_RDR_readCharacter 8 = .ok (.invokevirtual 287, 3) := by decide +kernel
theorem d_RDR_readCharacter_11 : decode b_RDR_readCharacter 11 = .ok (.istore_n 1, 1) := by decide +kernel
theorem d_RDR_readCharacter_12 : decode b_RDR_readCharacter 12 = .ok (.iload_n 1, 1) := by decide +kernel
theorem d_RDR_readCharacter_13 : decode b_RDR_readCharacter 13 = .ok (.iconst (-1), 1) := by decide +kernel
theorem d_RDR_readCharacter_14 : decode b_RDR_readCharacter 14 = .ok (.if_icmp .ne 16, 3) := by decide +kernel
theorem d_RDR_readCharacter_17 : decode b_RDR_readCharacter 17 = .ok (.aload_n 0, 1) := by decide +kernel
theorem d_RDR_readCharacter_18 : decode b_RDR_readCharacter 18 = .ok (.getfield 40, 3) := by decide +kernel
theorem d_RDR_readCharacter_21 : decode b_RDR_readCharacter 21 = .ok (.iconst 1, 1) := by decide +kernel
theorem d_RDR_readCharacter_22 : decode b_RDR_readCharacter 22 = .ok (.aload_n 0, 1) := by decide +kernel
theorem d_RDR_readCharacter_23 : decode b_RDR_readCharacter 23 = .ok (.getfield 25, 3) := by decide +kernel
theorem d_RDR_readCharacter_26 : decode b_RDR_readCharacter 26 = .ok (.invokevirtual 113, 3) := by decide +kernel
theorem d_RDR_readCharacter_29 : decode b_RDR_readCharacter 29 = .ok (.return_, 1) := by decide +kernel
theorem d_RDR_readCharacter_30 : decode b_RDR_readCharacter 30 = .ok (.aload_n 0, 1) := by decide +kernel
theorem d_RDR_readCharacter_31 : decode b_RDR_readCharacter 31 = .ok (.iload_n 1, 1) := by decide +kernel
theorem d_RDR_readCharacter_32 : decode b_RDR_readCharacter 32 = .ok (.invokevirtual 244, 3) := by decide +kernel
theorem d_RDR_readCharacter_35 : decode b_RDR_readCharacter 35 = .ok (.aload_n 0, 1) := by decide +kernel
theorem d_RDR_readCharacter_36 : decode b_RDR_readCharacter 36 = .ok (.aload_n 0, 1) := by decide +kernel
theorem d_RDR_readCharacter_37 : decode b_RDR_readCharacter 37 = .ok (.getfield 25, 3) := by decide +kernel
theorem d_RDR_readCharacter_40 : decode b_RDR_readCharacter 40 = .ok (.iload_n 1, 1) := by decide +kernel
theorem d_RDR_readCharacter_41 : decode b_RDR_readCharacter 41 = .ok (.invokestatic 290, 3) := by decide +kernel
theorem d_RDR_readCharacter_44 : decode b_RDR_readCharacter 44 = .ok (.iadd, 1) := by decide +kernel
theorem d_RDR_readCharacter_45 : decode b_RDR_readCharacter 45 = .ok (.iconst 1, 1) := by decide +kernel
theorem d_RDR_readCharacter_46 : decode b_RDR_readCharacter 46 = .ok (.invokevirtual 191, 3) := by decide +kernel
theorem d_RDR_readCharacter_49 : decode b_RDR_readCharacter 49 = .ok (.return_, 1) := by decide +kernel
theorem d_RDR_end_0 : decode b_RDR_end 0 = .ok (.aload_n 0, 1) := by decide +kernel
theorem d_RDR_end_1 : decode b_RDR_end 1 = .ok (.getfield 12, 3) := by decide +kernel
theorem d_RDR_end_4 : decode b_RDR_end 4 = .ok (.getfield 106, 3) := by decide +kernel
theorem d_RDR_end_7 : decode b_RDR_end 7 = .ok (.ifCond .le 26, 3) := by decide +kernel
theorem d_RDR_end_10 : decode b_RDR_end 10 = .ok (.aload_n 0, 1) := by decide +kernel
theorem d_RDR_end_11 : decode b_RDR_end 11 = .ok (.getfield 40, 3) := by decide +kernel
theorem d_RDR_end_14 : decode b_RDR_end 14 = .ok (.iconst 2, 1) := by decide +kernel
theorem d_RDR_end_15 : decode b_RDR_end 15 = .ok (.aload_n 0, 1) := by decide +kernel
theorem d_RDR_end_16 : decode b_RDR_end 16 = .ok (.getfield 12, 3) := by decide +kernel
theorem d_RDR_end_19 : decode b_RDR_end 19 = .ok (.getfield 109, 3) := by decide +kernel
theorem d_RDR_end_22 : decode b_RDR_end 22 = .ok (.aload_n 0, 1) := by decide +kernel
theorem d_RDR_end_23 : decode b_RDR_end 23 = .ok (.getfield 12, 3) := by decide +kernel
theorem d_RDR_end_26 : decode b_RDR_end 26 = .ok (.getfield 106, 3) := by decide +kernel
theorem d_RDR_end_29 : decode b_RDR_end 29 = .ok (.iaload, 1) := by decide +kernel
theorem d_RDR_end_30 : decode b_RDR_end 30 = .ok (.invokevirtual 113, 3) := by decide +kernel
theorem d_RDR_end_33 : decode b_RDR_end 33 = .ok (.aload_n 0, 1) := by decide +kernel
theorem d_RDR_end_34 : decode b_RDR_end 34 = .ok (.getfield 40, 3) := by decide +kernel
theorem d_RDR_end_37 : decode b_RDR_end 37 = .ok (.getfield 98, 3) := by decide +kernel
theorem d_RDR_end_40 : decode b_RDR_end 40 = .ok (.ifCond .ne 7, 3) := by decide +kernel
theorem d_RDR_end_43 : decode b_RDR_end 43 = .ok (.aload_n 0, 1) := by decide +kernel
theorem d_RDR_end_44 : decode b_RDR_end 44 = .ok (.invokevirtual 117, 3) := by decide +kernel
theorem d_RDR_end_47 : decode b_RDR_end 47 = .ok (.return_, 1) := by decide +kernel
theorem d_PAT_clear_0 : decode b_PAT_clear 0 = .ok (.aload_n 0, 1) := by decide +kernel
theorem d_PAT_clear_1 : decode b_PAT_clear 1 = .ok (.iconst 0, 1) := by decide +kernel
theorem d_PAT_clear_2 : decode b_PAT_clear 2 = .ok (.putfield 15, 3) := by decide +kernel
theorem d_PAT_clear_5 : decode b_PAT_clear 5 = .ok (.return_, 1) := by decide +kernel
theorem d_PN_fault_0 : decode b_PN_fault 0 = .ok (.iload_n 1, 1) := by decide +kernel
theorem d_PN_fault_1 : decode b_PN_fault 1 = .ok (.ifCond .ne 11, 3) := by decide +kernel
theorem d_PN_fault_4 : decode b_PN_fault 4 = .ok (.aload_n 0, 1) := by decide +kernel
theorem d_PN_fault_5 : decode b_PN_fault 5 = .ok (.getfield 19, 3) := by decide +kernel
theorem d_PN_fault_8 : decode b_PN_fault 8 = .ok (.getfield 74, 3) := by decide +kernel
theorem d_PN_fault_11 : decode b_PN_fault 11 = .ok (.ireturn, 1) := by decide +kernel
theorem d_PN_fault_12 : decode b_PN_fault 12 = .ok (.iload_n 1, 1) := by decide +kernel
theorem d_PN_fault_13 : decode b_PN_fault 13 = .ok (.iconst 1, 1) := by decide +kernel
theorem d_PN_fault_14 : decode b_PN_fault 14 = .ok (.if_icmp .ne 13, 3) := by decide +kernel
theorem d_PN_fault_17 : decode b_PN_fault 17 = .ok (.aload_n 0, 1) := by decide +kernel
theorem d_PN_fault_18 : decode b_PN_fault 18 = .ok (.getfield 19, 3) := by decide +kernel
theorem d_PN_fault_21 : decode b_PN_fault 21 = .ok (.getfield 85, 3) := by decide +kernel
theorem d_PN_fault_24 : decode b_PN_fault 24 = .ok (.goto 4, 3) := by decide +kernel
theorem d_PN_fault_27 : decode b_PN_fault 27 = .ok (.iconst (-1), 1) := by decide +kernel
theorem d_PN_fault_28 : decode b_PN_fault 28 = .ok (.ireturn, 1) := by decide +kernel
theorem d_PN_count_0 : decode b_PN_count 0 = .ok (.iload_n 1, 1) := by decide +kernel
theorem d_PN_count_1 : decode b_PN_count 1 = .ok (.tableswitch 51 0 2 #[27, 35, 43], 27) := by decide +kernel
theorem d_PN_count_28 : decode b_PN_count 28 = .ok (.aload_n 0, 1) := by decide +kernel
theorem d_PN_count_29 : decode b_PN_count 29 = .ok (.getfield 26, 3) := by decide +kernel
theorem d_PN_count_32 : decode b_PN_count 32 = .ok (.getfield 88, 3) := by decide +kernel
theorem d_PN_count_35 : decode b_PN_count 35 = .ok (.ireturn, 1) := by decide +kernel
theorem d_PN_count_36 : decode b_PN_count 36 = .ok (.aload_n 0, 1) := by decide +kernel
theorem d_PN_count_37 : decode b_PN_count 37 = .ok (.getfield 33, 3) := by decide +kernel
theorem d_PN_count_40 : decode b_PN_count 40 = .ok (.getfield 82, 3) := by decide +kernel
theorem d_PN_count_43 : decode b_PN_count 43 = .ok (.ireturn, 1) := by decide +kernel
theorem d_PN_count_44 : decode b_PN_count 44 = .ok (.aload_n 0, 1) := by decide +kernel
theorem d_PN_count_45 : decode b_PN_count 45 = .ok (.getfield 10, 3) := by decide +kernel
theorem d_PN_count_48 : decode b_PN_count 48 = .ok (.getfield 91, 3) := by decide +kernel
theorem d_PN_count_51 : decode b_PN_count 51 = .ok (.ireturn, 1) := by decide +kernel
theorem d_PN_count_52 : decode b_PN_count 52 = .ok (.iconst (-1), 1) := by decide +kernel
theorem d_PN_count_53 : decode b_PN_count 53 = .ok (.ireturn, 1) := by decide +kernel
theorem d_TRE_told_0 : decode b_TRE_told 0 = .ok (.iload_n 1, 1) := by decide +kernel
theorem d_TRE_told_1 : decode b_TRE_told 1 = .ok (.ifCond .lt 11, 3) := by decide +kernel
theorem d_TRE_told_4 : decode b_TRE_told 4 = .ok (.iload_n 1, 1) := by decide +kernel
theorem d_TRE_told_5 : decode b_TRE_told 5 = .ok (.aload_n 0, 1) := by decide +kernel
theorem d_TRE_told_6 : decode b_TRE_told 6 = .ok (.getfield 42, 3) := by decide +kernel
theorem d_TRE_told_9 : decode b_TRE_told 9 = .ok (.if_icmp .lt 5, 3) := by decide +kernel
theorem d_TRE_told_12 : decode b_TRE_told 12 = .ok (.iconst (-1), 1) := by decide +kernel
theorem d_TRE_told_13 : decode b_TRE_told 13 = .ok (.ireturn, 1) := by decide +kernel
theorem d_TRE_told_14 : decode b_TRE_told 14 = .ok (.iload_n 2, 1) := by decide +kernel
theorem d_TRE_told_15 : decode b_TRE_told 15 = .ok (.tableswitch 79 0 5 #[37, 44, 51, 58, 65, 72], 37) := by decide +kernel
theorem d_TRE_told_52 : decode b_TRE_told 52 = .ok (.aload_n 0, 1) := by decide +kernel
theorem d_TRE_told_53 : decode b_TRE_told 53 = .ok (.getfield 11, 3) := by decide +kernel
theorem d_TRE_told_56 : decode b_TRE_told 56 = .ok (.iload_n 1, 1) := by decide +kernel
theorem d_TRE_told_57 : decode b_TRE_told 57 = .ok (.iaload, 1) := by decide +kernel
theorem d_TRE_told_58 : decode b_TRE_told 58 = .ok (.ireturn, 1) := by decide +kernel
theorem d_TRE_told_59 : decode b_TRE_told 59 = .ok (.aload_n 0, 1) := by decide +kernel
theorem d_TRE_told_60 : decode b_TRE_told 60 = .ok (.getfield 15, 3) := by decide +kernel
theorem d_TRE_told_63 : decode b_TRE_told 63 = .ok (.iload_n 1, 1) := by decide +kernel
theorem d_TRE_told_64 : decode b_TRE_told 64 = .ok (.iaload, 1) := by decide +kernel
theorem d_TRE_told_65 : decode b_TRE_told 65 = .ok (.ireturn, 1) := by decide +kernel
theorem d_TRE_told_66 : decode b_TRE_told 66 = .ok (.aload_n 0, 1) := by decide +kernel
theorem d_TRE_told_67 : decode b_TRE_told 67 = .ok (.getfield 18, 3) := by decide +kernel
theorem d_TRE_told_70 : decode b_TRE_told 70 = .ok (.iload_n 1, 1) := by decide +kernel
theorem d_TRE_told_71 : decode b_TRE_told 71 = .ok (.iaload, 1) := by decide +kernel
theorem d_TRE_told_72 : decode b_TRE_told 72 = .ok (.ireturn, 1) := by decide +kernel
theorem d_TRE_told_73 : decode b_TRE_told 73 = .ok (.aload_n 0, 1) := by decide +kernel
theorem d_TRE_told_74 : decode b_TRE_told 74 = .ok (.getfield 21, 3) := by decide +kernel
theorem d_TRE_told_77 : decode b_TRE_told 77 = .ok (.iload_n 1, 1) := by decide +kernel
theorem d_TRE_told_78 : decode b_TRE_told 78 = .ok (.iaload, 1) := by decide +kernel
theorem d_TRE_told_79 : decode b_TRE_told 79 = .ok (.ireturn, 1) := by decide +kernel
theorem d_TRE_told_80 : decode b_TRE_told 80 = .ok (.aload_n 0, 1) := by decide +kernel
theorem d_TRE_told_81 : decode b_TRE_told 81 = .ok (.getfield 24, 3) := by decide +kernel
theorem d_TRE_told_84 : decode b_TRE_told 84 = .ok (.iload_n 1, 1) := by decide +kernel
theorem d_TRE_told_85 : decode b_TRE_told 85 = .ok (.iaload, 1) := by decide +kernel
theorem d_TRE_told_86 : decode b_TRE_told 86 = .ok (.ireturn, 1) := by decide +kernel
theorem d_TRE_told_87 : decode b_TRE_told 87 = .ok (.aload_n 0, 1) := by decide +kernel
theorem d_TRE_told_88 : decode b_TRE_told 88 = .ok (.getfield 30, 3) := by decide +kernel
theorem d_TRE_told_91 : decode b_TRE_told 91 = .ok (.iload_n 1, 1) := by decide +kernel
theorem d_TRE_told_92 : decode b_TRE_told 92 = .ok (.iaload, 1) := by decide +kernel
theorem d_TRE_told_93 : decode b_TRE_told 93 = .ok (.ireturn, 1) := by decide +kernel
theorem d_TRE_told_94 : decode b_TRE_told 94 = .ok (.iconst (-1), 1) := by decide +kernel
theorem d_TRE_told_95 : decode b_TRE_told 95 = .ok (.ireturn, 1) := by decide +kernel
theorem d_PN_node_0 : decode b_PN_node 0 = .ok (.aload_n 0, 1) := by decide +kernel
theorem d_PN_node_1 : decode b_PN_node 1 = .ok (.getfield 26, 3) := by decide +kernel
theorem d_PN_node_4 : decode b_PN_node 4 = .ok (.iload_n 1, 1) := by decide +kernel
theorem d_PN_node_5 : decode b_PN_node 5 = .ok (.iload_n 2, 1) := by decide +kernel
theorem d_PN_node_6 : decode b_PN_node 6 = .ok (.invokevirtual 94, 3) := by decide +kernel
theorem d_PN_node_9 : decode b_PN_node 9 = .ok (.ireturn, 1) := by decide +kernel
theorem d_TRE_rangeEdge_0 : decode b_TRE_rangeEdge 0 = .ok (.iload_n 1, 1) := by decide +kernel
theorem d_TRE_rangeEdge_1 : decode b_TRE_rangeEdge 1 = .ok (.ifCond .lt 25, 3) := by decide +kernel
theorem d_TRE_rangeEdge_4 : decode b_TRE_rangeEdge 4 = .ok (.iload_n 1, 1) := by decide +kernel
theorem d_TRE_rangeEdge_5 : decode b_TRE_rangeEdge 5 = .ok (.aload_n 0, 1) := by decide +kernel
theorem d_TRE_rangeEdge_6 : decode b_TRE_rangeEdge 6 = .ok (.getfield 42, 3) := by decide +kernel
theorem d_TRE_rangeEdge_9 : decode b_TRE_rangeEdge 9 = .ok (.if_icmp .ge 17, 3) := by decide +kernel
theorem d_TRE_rangeEdge_12 : decode b_TRE_rangeEdge 12 = .ok (.iload_n 2, 1) := by decide +kernel
theorem d_TRE_rangeEdge_13 : decode b_TRE_rangeEdge 13 = .ok (.ifCond .lt 13, 3) := by decide +kernel
theorem d_TRE_rangeEdge_16 : decode b_TRE_rangeEdge 16 = .ok (.iload_n 2, 1) := by decide +kernel
theorem d_TRE_rangeEdge_17 : decode b_TRE_rangeEdge 17 = .ok (.aload_n 0, 1) := by decide +kernel
theorem d_TRE_rangeEdge_18 : decode b_TRE_rangeEdge 18 = .ok (.getfield 30, 3) := by decide +kernel
theorem d_TRE_rangeEdge_21 : decode b_TRE_rangeEdge 21 = .ok (.iload_n 1, 1) := by decide +kernel
theorem d_TRE_rangeEdge_22 : decode b_TRE_rangeEdge 22 = .ok (.iaload, 1) := by decide +kernel
theorem d_TRE_rangeEdge_23 : decode b_TRE_rangeEdge 23 = .ok (.if_icmp .lt 5, 3) := by decide +kernel
theorem d_TRE_rangeEdge_26 : decode b_TRE_rangeEdge 26 = .ok (.iconst (-1), 1) := by decide +kernel
theorem d_TRE_rangeEdge_27 : decode b_TRE_rangeEdge 27 = .ok (.ireturn, 1) := by decide +kernel
theorem d_TRE_rangeEdge_28 : decode b_TRE_rangeEdge 28 = .ok (.iload_n 3, 1) := by decide +kernel
theorem d_TRE_rangeEdge_29 : decode b_TRE_rangeEdge 29 = .ok (.ifCond .ne 17, 3) := by decide +kernel
theorem d_TRE_rangeEdge_32 : decode b_TRE_rangeEdge 32 = .ok (.aload_n 0, 1) := by decide +kernel
theorem d_TRE_rangeEdge_33 : decode b_TRE_rangeEdge 33 = .ok (.getfield 33, 3) := by decide +kernel
theorem d_TRE_rangeEdge_36 : decode b_TRE_rangeEdge 36 = .ok (.aload_n 0, 1) := by decide +kernel
theorem d_TRE_rangeEdge_37 : decode b_TRE_rangeEdge 37 = .ok (.getfield 27, 3) := by decide +kernel
theorem d_TRE_rangeEdge_40 : decode b_TRE_rangeEdge 40 = .ok (.iload_n 1, 1) := by decide +kernel
theorem d_TRE_rangeEdge_41 : decode b_TRE_rangeEdge 41 = .ok (.iaload, 1) := by decide +kernel
theorem d_TRE_rangeEdge_42 : decode b_TRE_rangeEdge 42 = .ok (.iload_n 2, 1) := by decide +kernel
theorem d_TRE_rangeEdge_43 : decode b_TRE_rangeEdge 43 = .ok (.iadd, 1) := by decide +kernel
theorem d_TRE_rangeEdge_44 : decode b_TRE_rangeEdge 44 = .ok (.iaload, 1) := by decide +kernel
theorem d_TRE_rangeEdge_45 : decode b_TRE_rangeEdge 45 = .ok (.ireturn, 1) := by decide +kernel
theorem d_TRE_rangeEdge_46 : decode b_TRE_rangeEdge 46 = .ok (.iload_n 3, 1) := by decide +kernel
theorem d_TRE_rangeEdge_47 : decode b_TRE_rangeEdge 47 = .ok (.iconst 1, 1) := by decide +kernel
theorem d_TRE_rangeEdge_48 : decode b_TRE_rangeEdge 48 = .ok (.if_icmp .ne 19, 3) := by decide +kernel
theorem d_TRE_rangeEdge_51 : decode b_TRE_rangeEdge 51 = .ok (.aload_n 0, 1) := by decide +kernel
theorem d_TRE_rangeEdge_52 : decode b_TRE_rangeEdge 52 = .ok (.getfield 36, 3) := by decide +kernel
theorem d_TRE_rangeEdge_55 : decode b_TRE_rangeEdge 55 = .ok (.aload_n 0, 1) := by decide +kernel
theorem d_TRE_rangeEdge_56 : decode b_TRE_rangeEdge 56 = .ok (.getfield 27, 3) := by decide +kernel
theorem d_TRE_rangeEdge_59 : decode b_TRE_rangeEdge 59 = .ok (.iload_n 1, 1) := by decide +kernel
theorem d_TRE_rangeEdge_60 : decode b_TRE_rangeEdge 60 = .ok (.iaload, 1) := by decide +kernel
theorem d_TRE_rangeEdge_61 : decode b_TRE_rangeEdge 61 = .ok (.iload_n 2, 1) := by decide +kernel
theorem d_TRE_rangeEdge_62 : decode b_TRE_rangeEdge 62 = .ok (.iadd, 1) := by decide +kernel
theorem d_TRE_rangeEdge_63 : decode b_TRE_rangeEdge 63 = .ok (.iaload, 1) := by decide +kernel
theorem d_TRE_rangeEdge_64 : decode b_TRE_rangeEdge 64 = .ok (.goto 4, 3) := by decide +kernel
theorem d_TRE_rangeEdge_67 : decode b_TRE_rangeEdge 67 = .ok (.iconst (-1), 1) := by decide +kernel
theorem d_TRE_rangeEdge_68 : decode b_TRE_rangeEdge 68 = .ok (.ireturn, 1) := by decide +kernel
theorem d_PN_range_0 : decode b_PN_range 0 = .ok (.aload_n 0, 1) := by decide +kernel
theorem d_PN_range_1 : decode b_PN_range 1 = .ok (.getfield 26, 3) := by decide +kernel
theorem d_PN_range_4 : decode b_PN_range 4 = .ok (.iload_n 1, 1) := by decide +kernel
theorem d_PN_range_5 : decode b_PN_range 5 = .ok (.iload_n 2, 1) := by decide +kernel
theorem d_PN_range_6 : decode b_PN_range 6 = .ok (.iload_n 3, 1) := by decide +kernel
theorem d_PN_range_7 : decode b_PN_range 7 = .ok (.invokevirtual 98, 3) := by decide +kernel
theorem d_PN_range_10 : decode b_PN_range 10 = .ok (.ireturn, 1) := by decide +kernel
theorem d_GRP_nameByte_0 : decode b_GRP_nameByte 0 = .ok (.iload_n 1, 1) := by decide +kernel
theorem d_GRP_nameByte_1 : decode b_GRP_nameByte 1 = .ok (.iconst 1, 1) := by decide +kernel
theorem d_GRP_nameByte_2 : decode b_GRP_nameByte 2 = .ok (.if_icmp .lt 25, 3) := by decide +kernel
theorem d_GRP_nameByte_5 : decode b_GRP_nameByte 5 = .ok (.iload_n 1, 1) := by decide +kernel
theorem d_GRP_nameByte_6 : decode b_GRP_nameByte 6 = .ok (.aload_n 0, 1) := by decide +kernel
theorem d_GRP_nameByte_7 : decode b_GRP_nameByte 7 = .ok (.getfield 18, 3) := by decide +kernel
theorem d_GRP_nameByte_10 : decode b_GRP_nameByte 10 = .ok (.if_icmp .gt 17, 3) := by decide +kernel
theorem d_GRP_nameByte_13 : decode b_GRP_nameByte 13 = .ok (.iload_n 2, 1) := by decide +kernel
theorem d_GRP_nameByte_14 : decode b_GRP_nameByte 14 = .ok (.ifCond .lt 13, 3) := by decide +kernel
theorem d_GRP_nameByte_17 : decode b_GRP_nameByte 17 = .ok (.iload_n 2, 1) := by decide +kernel
theorem d_GRP_nameByte_18 : decode b_GRP_nameByte 18 = .ok (.aload_n 0, 1) := by decide +kernel
theorem d_GRP_nameByte_19 : decode b_GRP_nameByte 19 = .ok (.getfield 9, 3) := by decide +kernel
theorem d_GRP_nameByte_22 : decode b_GRP_nameByte 22 = .ok (.iload_n 1, 1) := by decide +kernel
theorem d_GRP_nameByte_23 : decode b_GRP_nameByte 23 = .ok (.iaload, 1) := by decide +kernel
theorem d_GRP_nameByte_24 : decode b_GRP_nameByte 24 = .ok (.if_icmp .lt 5, 3) := by decide +kernel
theorem d_GRP_nameByte_27 : decode b_GRP_nameByte 27 = .ok (.iconst (-1), 1) := by decide +kernel
theorem d_GRP_nameByte_28 : decode b_GRP_nameByte 28 = .ok (.ireturn, 1) := by decide +kernel
theorem d_GRP_nameByte_29 : decode b_GRP_nameByte 29 = .ok (.aload_n 0, 1) := by decide +kernel
theorem d_GRP_nameByte_30 : decode b_GRP_nameByte 30 = .ok (.getfield 15, 3) := by decide +kernel
theorem d_GRP_nameByte_33 : decode b_GRP_nameByte 33 = .ok (.iload_n 1, 1) := by decide +kernel
theorem d_GRP_nameByte_34 : decode b_GRP_nameByte 34 = .ok (.bipush 12, 2) := by decide +kernel
theorem d_GRP_nameByte_36 : decode b_GRP_nameByte 36 = .ok (.imul, 1) := by decide +kernel
theorem d_GRP_nameByte_37 : decode b_GRP_nameByte 37 = .ok (.iload_n 2, 1) := by decide +kernel
theorem d_GRP_nameByte_38 : decode b_GRP_nameByte 38 = .ok (.iadd, 1) := by decide +kernel
theorem d_GRP_nameByte_39 : decode b_GRP_nameByte 39 = .ok (.iaload, 1) := by decide +kernel
theorem d_GRP_nameByte_40 : decode b_GRP_nameByte 40 = .ok (.ireturn, 1) := by decide +kernel
theorem d_PN_name_0 : decode b_PN_name 0 = .ok (.aload_n 0, 1) := by decide +kernel
theorem d_PN_name_1 : decode b_PN_name 1 = .ok (.getfield 33, 3) := by decide +kernel
theorem d_PN_name_4 : decode b_PN_name 4 = .ok (.iload_n 1, 1) := by decide +kernel
theorem d_PN_name_5 : decode b_PN_name 5 = .ok (.iload_n 2, 1) := by decide +kernel
theorem d_PN_name_6 : decode b_PN_name 6 = .ok (.invokevirtual 102, 3) := by decide +kernel
theorem d_PN_name_9 : decode b_PN_name 9 = .ok (.ireturn, 1) := by decide +kernel
theorem d_PAT_init_0 : decode b_PAT_init 0 = .ok (.aload_n 0, 1) := by decide +kernel
theorem d_PAT_init_1 : decode b_PAT_init 1 = .ok (.invokespecial 3, 3) := by decide +kernel
theorem d_PAT_init_4 : decode b_PAT_init 4 = .ok (.aload_n 0, 1) := by decide +kernel
theorem d_PAT_init_5 : decode b_PAT_init 5 = .ok (.sipush 400, 3) := by decide +kernel
theorem d_PAT_init_8 : decode b_PAT_init 8 = .ok (.newarray .int, 2) := by decide +kernel
theorem d_PAT_init_10 : decode b_PAT_init 10 = .ok (.putfield 9, 3) := by decide +kernel
theorem d_PAT_init_13 : decode b_PAT_init 13 = .ok (.aload_n 0, 1) := by decide +kernel
theorem d_PAT_init_14 : decode b_PAT_init 14 = .ok (.iconst 0, 1) := by decide +kernel
theorem d_PAT_init_15 : decode b_PAT_init 15 = .ok (.putfield 15, 3) := by decide +kernel
theorem d_PAT_init_18 : decode b_PAT_init 18 = .ok (.return_, 1) := by decide +kernel
theorem d_MIS_init_0 : decode b_MIS_init 0 = .ok (.aload_n 0, 1) := by decide +kernel
theorem d_MIS_init_1 : decode b_MIS_init 1 = .ok (.invokespecial 3, 3) := by decide +kernel
theorem d_MIS_init_4 : decode b_MIS_init 4 = .ok (.aload_n 0, 1) := by decide +kernel
theorem d_MIS_init_5 : decode b_MIS_init 5 = .ok (.iconst 0, 1) := by decide +kernel
theorem d_MIS_init_6 : decode b_MIS_init 6 = .ok (.putfield 9, 3) := by decide +kernel
theorem d_MIS_init_9 : decode b_MIS_init 9 = .ok (.aload_n 0, 1) := by decide +kernel
theorem d_MIS_init_10 : decode b_MIS_init 10 = .ok (.iconst (-1), 1) := by decide +kernel
theorem d_MIS_init_11 : decode b_MIS_init 11 = .ok (.putfield 15, 3) := by decide +kernel
theorem d_MIS_init_14 : decode b_MIS_init 14 = .ok (.return_, 1) := by decide +kernel
theorem d_TRE_init_0 : decode b_TRE_init 0 = .ok (.aload_n 0, 1) := by decide +kernel
theorem d_TRE_init_1 : decode b_TRE_init 1 = .ok (.invokespecial 3, 3) := by decide +kernel
theorem d_TRE_init_4 : decode b_TRE_init 4 = .ok (.aload_n 0, 1) := by decide +kernel
theorem d_TRE_init_5 : decode b_TRE_init 5 = .ok (.sipush 512, 3) := by decide +kernel
theorem d_TRE_init_8 : decode b_TRE_init 8 = .ok (.newarray .int, 2) := by decide +kernel
theorem d_TRE_init_10 : decode b_TRE_init 10 = .ok (.putfield 11, 3) := by decide +kernel
theorem d_TRE_init_13 : decode b_TRE_init 13 = .ok (.aload_n 0, 1) := by decide +kernel
theorem d_TRE_init_14 : decode b_TRE_init 14 = .ok (.sipush 512, 3) := by decide +kernel
theorem d_TRE_init_17 : decode b_TRE_init 17 = .ok (.newarray .int, 2) := by decide +kernel
theorem d_TRE_init_19 : decode b_TRE_init 19 = .ok (.putfield 15, 3) := by decide +kernel
theorem d_TRE_init_22 : decode b_TRE_init 22 = .ok (.aload_n 0, 1) := by decide +kernel
theorem d_TRE_init_23 : decode b_TRE_init 23 = .ok (.sipush 512, 3) := by decide +kernel
theorem d_TRE_init_26 : decode b_TRE_init 26 = .ok (.newarray .int, 2) := by decide +kernel
theorem d_TRE_init_28 : decode b_TRE_init 28 = .ok (.putfield 18, 3) := by decide +kernel
theorem d_TRE_init_31 : decode b_TRE_init 31 = .ok (.aload_n 0, 1) := by decide +kernel
theorem d_TRE_init_32 : decode b_TRE_init 32 = .ok (.sipush 512, 3) := by decide +kernel
theorem d_TRE_init_35 : decode b_TRE_init 35 = .ok (.newarray .int, 2) := by decide +kernel
theorem d_TRE_init_37 : decode b_TRE_init 37 = .ok (.putfield 21, 3) := by decide +kernel
theorem d_TRE_init_40 : decode b_TRE_init 40 = .ok (.aload_n 0, 1) := by decide +kernel
theorem d_TRE_init_41 : decode b_TRE_init 41 = .ok (.sipush 512, 3) := by decide +kernel
theorem d_TRE_init_44 : decode b_TRE_init 44 = .ok (.newarray .int, 2) := by decide +kernel
theorem d_TRE_init_46 : decode b_TRE_init 46 = .ok (.putfield 24, 3) := by decide +kernel
theorem d_TRE_init_49 : decode b_TRE_init 49 = .ok (.aload_n 0, 1) := by decide +kernel
theorem d_TRE_init_50 : decode b_TRE_init 50 = .ok (.sipush 512, 3) := by decide +kernel
theorem d_TRE_init_53 : decode b_TRE_init 53 = .ok (.newarray .int, 2) := by decide +kernel
theorem d_TRE_init_55 : decode b_TRE_init 55 = .ok (.putfield 27, 3) := by decide +kernel
theorem d_TRE_init_58 : decode b_TRE_init 58 = .ok (.aload_n 0, 1) := by decide +kernel
theorem d_TRE_init_59 : decode b_TRE_init 59 = .ok (.sipush 512, 3) := by decide +kernel
theorem d_TRE_init_62 : decode b_TRE_init 62 = .ok (.newarray .int, 2) := by decide +kernel
theorem d_TRE_init_64 : decode b_TRE_init 64 = .ok (.putfield 30, 3) := by decide +kernel
theorem d_TRE_init_67 : decode b_TRE_init 67 = .ok (.aload_n 0, 1) := by decide +kernel
theorem d_TRE_init_68 : decode b_TRE_init 68 = .ok (.sipush 1600, 3) := by decide +kernel
theorem d_TRE_init_71 : decode b_TRE_init 71 = .ok (.newarray .int, 2) := by decide +kernel
theorem d_TRE_init_73 : decode b_TRE_init 73 = .ok (.putfield 33, 3) := by decide +kernel
theorem d_TRE_init_76 : decode b_TRE_init 76 = .ok (.aload_n 0, 1) := by decide +kernel
theorem d_TRE_init_77 : decode b_TRE_init 77 = .ok (.sipush 1600, 3) := by decide +kernel
theorem d_TRE_init_80 : decode b_TRE_init 80 = .ok (.newarray .int, 2) := by decide +kernel
theorem d_TRE_init_82 : decode b_TRE_init 82 = .ok (.putfield 36, 3) := by decide +kernel
theorem d_TRE_init_85 : decode b_TRE_init 85 = .ok (.aload_n 0, 1) := by decide +kernel
theorem d_TRE_init_86 : decode b_TRE_init 86 = .ok (.sipush 512, 3) := by decide +kernel
theorem d_TRE_init_89 : decode b_TRE_init 89 = .ok (.newarray .int, 2) := by decide +kernel
theorem d_TRE_init_91 : decode b_TRE_init 91 = .ok (.putfield 39, 3) := by decide +kernel
theorem d_TRE_init_94 : decode b_TRE_init 94 = .ok (.aload_n 0, 1) := by decide +kernel
theorem d_TRE_init_95 : decode b_TRE_init 95 = .ok (.iconst 0, 1) := by decide +kernel
theorem d_TRE_init_96 : decode b_TRE_init 96 = .ok (.putfield 42, 3) := by decide +kernel
theorem d_TRE_init_99 : decode b_TRE_init 99 = .ok (.aload_n 0, 1) := by decide +kernel
theorem d_TRE_init_100 : decode b_TRE_init 100 = .ok (.iconst 0, 1) := by decide +kernel
theorem d_TRE_init_101 : decode b_TRE_init 101 = .ok (.putfield 46, 3) := by decide +kernel
theorem d_TRE_init_104 : decode b_TRE_init 104 = .ok (.aload_n 0, 1) := by decide +kernel
theorem d_TRE_init_105 : decode b_TRE_init 105 = .ok (.iconst 0, 1) := by decide +kernel
theorem d_TRE_init_106 : decode b_TRE_init 106 = .ok (.putfield 49, 3) := by decide +kernel
theorem d_TRE_init_109 : decode b_TRE_init 109 = .ok (.return_, 1) := by decide +kernel
theorem d_GRP_init_0 : decode b_GRP_init 0 = .ok (.aload_n 0, 1) := by decide +kernel
theorem d_GRP_init_1 : decode b_GRP_init 1 = .ok (.invokespecial 3, 3) := by decide +kernel
theorem d_GRP_init_4 : decode b_GRP_init 4 = .ok (.aload_n 0, 1) := by decide +kernel
theorem d_GRP_init_5 : decode b_GRP_init 5 = .ok (.bipush 10, 2) := by decide +kernel
theorem d_GRP_init_7 : decode b_GRP_init 7 = .ok (.newarray .int, 2) := by decide +kernel
theorem d_GRP_init_9 : decode b_GRP_init 9 = .ok (.putfield 9, 3) := by decide +kernel
theorem d_GRP_init_12 : decode b_GRP_init 12 = .ok (.aload_n 0, 1) := by decide +kernel
theorem d_GRP_init_13 : decode b_GRP_init 13 = .ok (.bipush 120, 2) := by decide +kernel
theorem d_GRP_init_15 : decode b_GRP_init 15 = .ok (.newarray .int, 2) := by decide +kernel
theorem d_GRP_init_17 : decode b_GRP_init 17 = .ok (.putfield 15, 3) := by decide +kernel
theorem d_GRP_init_20 : decode b_GRP_init 20 = .ok (.aload_n 0, 1) := by decide +kernel
theorem d_GRP_init_21 : decode b_GRP_init 21 = .ok (.iconst 0, 1) := by decide +kernel
theorem d_GRP_init_22 : decode b_GRP_init 22 = .ok (.putfield 18, 3) := by decide +kernel
theorem d_GRP_init_25 : decode b_GRP_init 25 = .ok (.return_, 1) := by decide +kernel
theorem d_OPN_init_0 : decode b_OPN_init 0 = .ok (.aload_n 0, 1) := by decide +kernel
theorem d_OPN_init_1 : decode b_OPN_init 1 = .ok (.invokespecial 3, 3) := by decide +kernel
theorem d_OPN_init_4 : decode b_OPN_init 4 = .ok (.aload_n 0, 1) := by decide +kernel
theorem d_OPN_init_5 : decode b_OPN_init 5 = .ok (.bipush 31, 2) := by decide +kernel
theorem d_OPN_init_7 : decode b_OPN_init 7 = .ok (.newarray .int, 2) := by decide +kernel
theorem d_OPN_init_9 : decode b_OPN_init 9 = .ok (.putfield 9, 3) := by decide +kernel
theorem d_OPN_init_12 : decode b_OPN_init 12 = .ok (.aload_n 0, 1) := by decide +kernel
theorem d_OPN_init_13 : decode b_OPN_init 13 = .ok (.bipush 31, 2) := by decide +kernel
theorem d_OPN_init_15 : decode b_OPN_init 15 = .ok (.newarray .int, 2) := by decide +kernel
theorem d_OPN_init_17 : decode b_OPN_init 17 = .ok (.putfield 15, 3) := by decide +kernel
theorem d_OPN_init_20 : decode b_OPN_init 20 = .ok (.aload_n 0, 1) := by decide +kernel
theorem d_OPN_init_21 : decode b_OPN_init 21 = .ok (.bipush 31, 2) := by decide +kernel
theorem d_OPN_init_23 : decode b_OPN_init 23 = .ok (.newarray .int, 2) := by decide +kernel
theorem d_OPN_init_25 : decode b_OPN_init 25 = .ok (.putfield 18, 3) := by decide +kernel
theorem d_OPN_init_28 : decode b_OPN_init 28 = .ok (.aload_n 0, 1) := by decide +kernel
theorem d_OPN_init_29 : decode b_OPN_init 29 = .ok (.bipush 31, 2) := by decide +kernel
theorem d_OPN_init_31 : decode b_OPN_init 31 = .ok (.newarray .int, 2) := by decide +kernel
theorem d_OPN_init_33 : decode b_OPN_init 33 = .ok (.putfield 21, 3) := by decide +kernel
theorem d_OPN_init_36 : decode b_OPN_init 36 = .ok (.aload_n 0, 1) := by decide +kernel
theorem d_OPN_init_37 : decode b_OPN_init 37 = .ok (.bipush 31, 2) := by decide +kernel
theorem d_OPN_init_39 : decode b_OPN_init 39 = .ok (.newarray .int, 2) := by decide +kernel
theorem d_OPN_init_41 : decode b_OPN_init 41 = .ok (.putfield 24, 3) := by decide +kernel
theorem d_OPN_init_44 : decode b_OPN_init 44 = .ok (.aload_n 0, 1) := by decide +kernel
theorem d_OPN_init_45 : decode b_OPN_init 45 = .ok (.iconst 0, 1) := by decide +kernel
theorem d_OPN_init_46 : decode b_OPN_init 46 = .ok (.putfield 27, 3) := by decide +kernel
theorem d_OPN_init_49 : decode b_OPN_init 49 = .ok (.return_, 1) := by decide +kernel
theorem d_SET_init_0 : decode b_SET_init 0 = .ok (.aload_n 0, 1) := by decide +kernel
theorem d_SET_init_1 : decode b_SET_init 1 = .ok (.invokespecial 3, 3) := by decide +kernel
theorem d_SET_init_4 : decode b_SET_init 4 = .ok (.aload_n 0, 1) := by decide +kernel
theorem d_SET_init_5 : decode b_SET_init 5 = .ok (.sipush 1024, 3) := by decide +kernel
theorem d_SET_init_8 : decode b_SET_init 8 = .ok (.newarray .int, 2) := by decide +kernel
theorem d_SET_init_10 : decode b_SET_init 10 = .ok (.putfield 11, 3) := by decide +kernel
theorem d_SET_init_13 : decode b_SET_init 13 = .ok (.aload_n 0, 1) := by decide +kernel
theorem d_SET_init_14 : decode b_SET_init 14 = .ok (.sipush 1024, 3) := by decide +kernel
theorem d_SET_init_17 : decode b_SET_init 17 = .ok (.newarray .int, 2) := by decide +kernel
theorem d_SET_init_19 : decode b_SET_init 19 = .ok (.putfield 15, 3) := by decide +kernel
theorem d_SET_init_22 : decode b_SET_init 22 = .ok (.aload_n 0, 1) := by decide +kernel
theorem d_SET_init_23 : decode b_SET_init 23 = .ok (.iconst 0, 1) := by decide +kernel
theorem d_SET_init_24 : decode b_SET_init 24 = .ok (.putfield 18, 3) := by decide +kernel
theorem d_SET_init_27 : decode b_SET_init 27 = .ok (.return_, 1) := by decide +kernel
theorem d_ESC_init_0 : decode b_ESC_init 0 = .ok (.aload_n 0, 1) := by decide +kernel
theorem d_ESC_init_1 : decode b_ESC_init 1 = .ok (.invokespecial 3, 3) := by decide +kernel
theorem d_ESC_init_4 : decode b_ESC_init 4 = .ok (.aload_n 0, 1) := by decide +kernel
theorem d_ESC_init_5 : decode b_ESC_init 5 = .ok (.iconst 0, 1) := by decide +kernel
theorem d_ESC_init_6 : decode b_ESC_init 6 = .ok (.putfield 9, 3) := by decide +kernel
theorem d_ESC_init_9 : decode b_ESC_init 9 = .ok (.aload_n 0, 1) := by decide +kernel
theorem d_ESC_init_10 : decode b_ESC_init 10 = .ok (.iconst (-1), 1) := by decide +kernel
theorem d_ESC_init_11 : decode b_ESC_init 11 = .ok (.putfield 15, 3) := by decide +kernel
theorem d_ESC_init_14 : decode b_ESC_init 14 = .ok (.aload_n 0, 1) := by decide +kernel
theorem d_ESC_init_15 : decode b_ESC_init 15 = .ok (.getstatic 18, 3) := by decide +kernel
theorem d_ESC_init_18 : decode b_ESC_init 18 = .ok (.putfield 22, 3) := by decide +kernel
theorem d_ESC_init_21 : decode b_ESC_init 21 = .ok (.aload_n 0, 1) := by decide +kernel
