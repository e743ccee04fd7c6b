theorem d_CLS_readClass_19 : decode b_CLS_readClass 19 = .ok (.iconst 0, 1) := by decide +kernel
theorem d_CLS_readClass_20 : decode b_CLS_readClass 20 = .ok (.istore_n 3, 1) := by decide +kernel
theorem d_CLS_readClass_21 : decode b_CLS_readClass 21 = .ok (.iload_n 3, 1) := by decide +kernel
theorem d_CLS_readClass_22 : decode b_CLS_readClass 22 = .ok (.ifCond .eq 9, 3) := by decide +kernel
theorem d_CLS_readClass_25 : decode b_CLS_readClass 25 = .ok (.iload_n 1, 1) := by decide +kernel
theorem d_CLS_readClass_26 : decode b_CLS_readClass 26 = .ok (.iconst 2, 1) := by decide +kernel
theorem d_CLS_readClass_27 : decode b_CLS_readClass 27 = .ok (.iadd, 1) := by decide +kernel
theorem d_CLS_readClass_28 : decode b_CLS_readClass 28 = .ok (.goto 6, 3) := by decide +kernel
theorem d_CLS_readClass_31 : decode b_CLS_readClass 31 = .ok (.iload_n 1, 1) := by decide +kernel
theorem d_CLS_readClass_32 : decode b_CLS_readClass 32 = .ok (.iconst 1, 1) := by decide +kernel
theorem d_CLS_readClass_33 : decode b_CLS_readClass 33 = .ok (.iadd, 1) := by decide +kernel
theorem d_CLS_readClass_34 : decode b_CLS_readClass 34 = .ok (.istore 4, 2) := by decide +kernel
theorem d_CLS_readClass_36 : decode b_CLS_readClass 36 = .ok (.iload 4, 2) := by decide +kernel
theorem d_CLS_readClass_38 : decode b_CLS_readClass 38 = .ok (.istore 5, 2) := by decide +kernel
theorem d_CLS_readClass_40 : decode b_CLS_readClass 40 = .ok (.aload_n 0, 1) := by decide +kernel
theorem d_CLS_readClass_41 : decode b_CLS_readClass 41 = .ok (.getfield 27, 3) := by decide +kernel
theorem d_CLS_readClass_44 : decode b_CLS_readClass 44 = .ok (.invokevirtual 37, 3) := by decide +kernel
theorem d_CLS_readClass_47 : decode b_CLS_readClass 47 = .ok (.iconst 0, 1) := by decide +kernel
theorem d_CLS_readClass_48 : decode b_CLS_readClass 48 = .ok (.istore 6, 2) := by decide +kernel
theorem d_CLS_readClass_50 : decode b_CLS_readClass 50 = .ok (.iload 6, 2) := by decide +kernel
theorem d_CLS_readClass_52 : decode b_CLS_readClass 52 = .ok (.sipush 400, 3) := by decide +kernel
theorem d_CLS_readClass_55 : decode b_CLS_readClass 55 = .ok (.if_icmp .ge 90, 3) := by decide +kernel
theorem d_CLS_readClass_58 : decode b_CLS_readClass 58 = .ok (.iload 5, 2) := by decide +kernel
theorem d_CLS_readClass_60 : decode b_CLS_readClass 60 = .ok (.aload_n 0, 1) := by decide +kernel
theorem d_CLS_readClass_61 : decode b_CLS_readClass 61 = .ok (.getfield 15, 3) := by decide +kernel
theorem d_CLS_readClass_64 : decode b_CLS_readClass 64 = .ok (.getfield 42, 3) := by decide +kernel
theorem d_CLS_readClass_67 : decode b_CLS_readClass 67 = .ok (.if_icmp .ge 78, 3) := by decide +kernel
theorem d_CLS_readClass_70 : decode b_CLS_readClass 70 = .ok (.aload_n 0, 1) := by decide +kernel
theorem d_CLS_readClass_71 : decode b_CLS_readClass 71 = .ok (.getfield 15, 3) := by decide +kernel
theorem d_CLS_readClass_74 : decode b_CLS_readClass 74 = .ok (.iload 5, 2) := by decide +kernel
theorem d_CLS_readClass_76 : decode b_CLS_readClass 76 = .ok (.invokevirtual 31, 3) := by decide +kernel
theorem d_CLS_readClass_79 : decode b_CLS_readClass 79 = .ok (.bipush 93, 2) := by decide +kernel
theorem d_CLS_readClass_81 : decode b_CLS_readClass 81 = .ok (.if_icmp .ne 23, 3) := by decide +kernel
theorem d_CLS_readClass_84 : decode b_CLS_readClass 84 = .ok (.iload 5, 2) := by decide +kernel
theorem d_CLS_readClass_86 : decode b_CLS_readClass 86 = .ok (.iload 4, 2) := by decide +kernel
theorem d_CLS_readClass_88 : decode b_CLS_readClass 88 = .ok (.if_icmp .le 16, 3) := by decide +kernel
theorem d_CLS_readClass_91 : decode b_CLS_readClass 91 = .ok (.aload_n 0, 1) := by decide +kernel
theorem d_CLS_readClass_92 : decode b_CLS_readClass 92 = .ok (.getfield 27, 3) := by decide +kernel
theorem d_CLS_readClass_95 : decode b_CLS_readClass 95 = .ok (.iload_n 3, 1) := by decide +kernel
theorem d_CLS_readClass_96 : decode b_CLS_readClass 96 = .ok (.invokevirtual 45, 3) := by decide +kernel
theorem d_CLS_readClass_99 : decode b_CLS_readClass 99 = .ok (.iload 5, 2) := by decide +kernel
theorem d_CLS_readClass_101 : decode b_CLS_readClass 101 = .ok (.iconst 1, 1) := by decide +kernel
theorem d_CLS_readClass_102 : decode b_CLS_readClass 102 = .ok (.iadd, 1) := by decide +kernel
theorem d_CLS_readClass_103 : decode b_CLS_readClass 103 = .ok (.ireturn, 1) := by decide +kernel
theorem d_CLS_readClass_104 : decode b_CLS_readClass 104 = .ok (.aload_n 0, 1) := by decide +kernel
theorem d_CLS_readClass_105 : decode b_CLS_readClass 105 = .ok (.iload 5, 2) := by decide +kernel
theorem d_CLS_readClass_107 : decode b_CLS_readClass 107 = .ok (.invokevirtual 49, 3) := by decide +kernel
theorem d_CLS_readClass_110 : decode b_CLS_readClass 110 = .ok (.ifCond .eq 12, 3) := by decide +kernel
theorem d_CLS_readClass_113 : decode b_CLS_readClass 113 = .ok (.aload_n 0, 1) := by decide +kernel
theorem d_CLS_readClass_114 : decode b_CLS_readClass 114 = .ok (.iload 5, 2) := by decide +kernel
theorem d_CLS_readClass_116 : decode b_CLS_readClass 116 = .ok (.invokevirtual 53, 3) := by decide +kernel
theorem d_CLS_readClass_119 : decode b_CLS_readClass 119 = .ok (.goto 10, 3) := by decide +kernel
theorem d_CLS_readClass_122 : decode b_CLS_readClass 122 = .ok (.aload_n 0, 1) := by decide +kernel
theorem d_CLS_readClass_123 : decode b_CLS_readClass 123 = .ok (.iload 5, 2) := by decide +kernel
theorem d_CLS_readClass_125 : decode b_CLS_readClass 125 = .ok (.iload_n 2, 1) := by decide +kernel
theorem d_CLS_readClass_126 : decode b_CLS_readClass 126 = .ok (.invokevirtual 56, 3) := by decide +kernel
theorem d_CLS_readClass_129 : decode b_CLS_readClass 129 = .ok (.istore 5, 2) := by decide +kernel
theorem d_CLS_readClass_131 : decode b_CLS_readClass 131 = .ok (.iload 5, 2) := by decide +kernel
theorem d_CLS_readClass_133 : decode b_CLS_readClass 133 = .ok (.iconst (-1), 1) := by decide +kernel
theorem d_CLS_readClass_134 : decode b_CLS_readClass 134 = .ok (.if_icmp .ne 5, 3) := by decide +kernel
theorem d_CLS_readClass_137 : decode b_CLS_readClass 137 = .ok (.iconst (-1), 1) := by decide +kernel
theorem d_CLS_readClass_138 : decode b_CLS_readClass 138 = .ok (.ireturn, 1) := by decide +kernel
theorem d_CLS_readClass_139 : decode b_CLS_readClass 139 = .ok (.iinc 6 1, 3) := by decide +kernel
theorem d_CLS_readClass_142 : decode b_CLS_readClass 142 = .ok (.goto (-92), 3) := by decide +kernel
theorem d_CLS_readClass_145 : decode b_CLS_readClass 145 = .ok (.aload_n 0, 1) := by decide +kernel
theorem d_CLS_readClass_146 : decode b_CLS_readClass 146 = .ok (.iconst 4, 1) := by decide +kernel
theorem d_CLS_readClass_147 : decode b_CLS_readClass 147 = .ok (.iload_n 1, 1) := by decide +kernel
theorem d_CLS_readClass_148 : decode b_CLS_readClass 148 = .ok (.invokevirtual 60, 3) := by decide +kernel
theorem d_CLS_readClass_151 : decode b_CLS_readClass 151 = .ok (.ireturn, 1) := by decide +kernel
theorem d_TRE_addClass_0 : decode b_TRE_addClass 0 = .ok (.aload_n 1, 1) := by decide +kernel
theorem d_TRE_addClass_1 : decode b_TRE_addClass 1 = .ok (.getfield 63, 3) := by decide +kernel
theorem d_TRE_addClass_4 : decode b_TRE_addClass 4 = .ok (.istore_n 2, 1) := by decide +kernel
theorem d_TRE_addClass_5 : decode b_TRE_addClass 5 = .ok (.aload_n 0, 1) := by decide +kernel
theorem d_TRE_addClass_6 : decode b_TRE_addClass 6 = .ok (.getfield 42, 3) := by decide +kernel
theorem d_TRE_addClass_9 : decode b_TRE_addClass 9 = .ok (.sipush 512, 3) := by decide +kernel
theorem d_TRE_addClass_12 : decode b_TRE_addClass 12 = .ok (.if_icmp .ge 15, 3) := by decide +kernel
theorem d_TRE_addClass_15 : decode b_TRE_addClass 15 = .ok (.iload_n 2, 1) := by decide +kernel
theorem d_TRE_addClass_16 : decode b_TRE_addClass 16 = .ok (.sipush 1600, 3) := by decide +kernel
theorem d_TRE_addClass_19 : decode b_TRE_addClass 19 = .ok (.aload_n 0, 1) := by decide +kernel
theorem d_TRE_addClass_20 : decode b_TRE_addClass 20 = .ok (.getfield 46, 3) := by decide +kernel
theorem d_TRE_addClass_23 : decode b_TRE_addClass 23 = .ok (.isub, 1) := by decide +kernel
theorem d_TRE_addClass_24 : decode b_TRE_addClass 24 = .ok (.if_icmp .le 4, 3) := by decide +kernel
theorem d_TRE_addClass_27 : decode b_TRE_addClass 27 = .ok (.return_, 1) := by decide +kernel
theorem d_TRE_addClass_28 : decode b_TRE_addClass 28 = .ok (.aload_n 0, 1) := by decide +kernel
theorem d_TRE_addClass_29 : decode b_TRE_addClass 29 = .ok (.iconst 1, 1) := by decide +kernel
theorem d_TRE_addClass_30 : decode b_TRE_addClass 30 = .ok (.iconst (-1), 1) := by decide +kernel
theorem d_TRE_addClass_31 : decode b_TRE_addClass 31 = .ok (.iconst 2, 1) := by decide +kernel
theorem d_TRE_addClass_32 : decode b_TRE_addClass 32 = .ok (.iconst 4, 1) := by decide +kernel
theorem d_TRE_addClass_33 : decode b_TRE_addClass 33 = .ok (.iload_n 2, 1) := by decide +kernel
theorem d_TRE_addClass_34 : decode b_TRE_addClass 34 = .ok (.imul, 1) := by decide +kernel
theorem d_TRE_addClass_35 : decode b_TRE_addClass 35 = .ok (.iadd, 1) := by decide +kernel
theorem d_TRE_addClass_36 : decode b_TRE_addClass 36 = .ok (.invokevirtual 68, 3) := by decide +kernel
theorem d_TRE_addClass_39 : decode b_TRE_addClass 39 = .ok (.aload_n 0, 1) := by decide +kernel
theorem d_TRE_addClass_40 : decode b_TRE_addClass 40 = .ok (.getfield 30, 3) := by decide +kernel
theorem d_TRE_addClass_43 : decode b_TRE_addClass 43 = .ok (.aload_n 0, 1) := by decide +kernel
theorem d_TRE_addClass_44 : decode b_TRE_addClass 44 = .ok (.getfield 42, 3) := by decide +kernel
theorem d_TRE_addClass_47 : decode b_TRE_addClass 47 = .ok (.iconst 1, 1) := by decide +kernel
theorem d_TRE_addClass_48 : decode b_TRE_addClass 48 = .ok (.isub, 1) := by decide +kernel
theorem d_TRE_addClass_49 : decode b_TRE_addClass 49 = .ok (.iload_n 2, 1) := by decide +kernel
theorem d_TRE_addClass_50 : decode b_TRE_addClass 50 = .ok (.iastore, 1) := by decide +kernel
theorem d_TRE_addClass_51 : decode b_TRE_addClass 51 = .ok (.aload_n 1, 1) := by decide +kernel
theorem d_TRE_addClass_52 : decode b_TRE_addClass 52 = .ok (.getfield 72, 3) := by decide +kernel
theorem d_TRE_addClass_55 : decode b_TRE_addClass 55 = .ok (.iconst 0, 1) := by decide +kernel
theorem d_TRE_addClass_56 : decode b_TRE_addClass 56 = .ok (.aload_n 0, 1) := by decide +kernel
theorem d_TRE_addClass_57 : decode b_TRE_addClass 57 = .ok (.getfield 33, 3) := by decide +kernel
theorem d_TRE_addClass_60 : decode b_TRE_addClass 60 = .ok (.aload_n 0, 1) := by decide +kernel
theorem d_TRE_addClass_61 : decode b_TRE_addClass 61 = .ok (.getfield 46, 3) := by decide +kernel
theorem d_TRE_addClass_64 : decode b_TRE_addClass 64 = .ok (.iload_n 2, 1) := by decide +kernel
theorem d_TRE_addClass_65 : decode b_TRE_addClass 65 = .ok (.invokestatic 73, 3) := by decide +kernel
theorem d_TRE_addClass_68 : decode b_TRE_addClass 68 = .ok (.aload_n 1, 1) := by decide +kernel
theorem d_TRE_addClass_69 : decode b_TRE_addClass 69 = .ok (.getfield 79, 3) := by decide +kernel
theorem d_TRE_addClass_72 : decode b_TRE_addClass 72 = .ok (.iconst 0, 1) := by decide +kernel
theorem d_TRE_addClass_73 : decode b_TRE_addClass 73 = .ok (.aload_n 0, 1) := by decide +kernel
theorem d_TRE_addClass_74 : decode b_TRE_addClass 74 = .ok (.getfield 36, 3) := by decide +kernel
theorem d_TRE_addClass_77 : decode b_TRE_addClass 77 = .ok (.aload_n 0, 1) := by decide +kernel
theorem d_TRE_addClass_78 : decode b_TRE_addClass 78 = .ok (.getfield 46, 3) := by decide +kernel
theorem d_TRE_addClass_81 : decode b_TRE_addClass 81 = .ok (.iload_n 2, 1) := by decide +kernel
theorem d_TRE_addClass_82 : decode b_TRE_addClass 82 = .ok (.invokestatic 73, 3) := by decide +kernel
theorem d_TRE_addClass_85 : decode b_TRE_addClass 85 = .ok (.aload_n 0, 1) := by decide +kernel
theorem d_TRE_addClass_86 : decode b_TRE_addClass 86 = .ok (.dup, 1) := by decide +kernel
theorem d_TRE_addClass_87 : decode b_TRE_addClass 87 = .ok (.getfield 46, 3) := by decide +kernel
theorem d_TRE_addClass_90 : decode b_TRE_addClass 90 = .ok (.iload_n 2, 1) := by decide +kernel
theorem d_TRE_addClass_91 : decode b_TRE_addClass 91 = .ok (.iadd, 1) := by decide +kernel
theorem d_TRE_addClass_92 : decode b_TRE_addClass 92 = .ok (.putfield 46, 3) := by decide +kernel
theorem d_TRE_addClass_95 : decode b_TRE_addClass 95 = .ok (.return_, 1) := by decide +kernel
theorem d_RDR_addClassPart_0 : decode b_RDR_addClassPart 0 = .ok (.iload_n 1, 1) := by decide +kernel
theorem d_RDR_addClassPart_1 : decode b_RDR_addClassPart 1 = .ok (.iconst (-1), 1) := by decide +kernel
theorem d_RDR_addClassPart_2 : decode b_RDR_addClassPart 2 = .ok (.if_icmp .eq 20, 3) := by decide +kernel
theorem d_RDR_addClassPart_5 : decode b_RDR_addClassPart 5 = .ok (.aload_n 0, 1) := by decide +kernel
theorem d_RDR_addClassPart_6 : decode b_RDR_addClassPart 6 = .ok (.getfield 44, 3) := by decide +kernel
theorem d_RDR_addClassPart_9 : decode b_RDR_addClassPart 9 = .ok (.aload_n 0, 1) := by decide +kernel
theorem d_RDR_addClassPart_10 : decode b_RDR_addClassPart 10 = .ok (.getfield 21, 3) := by decide +kernel
theorem d_RDR_addClassPart_13 : decode b_RDR_addClassPart 13 = .ok (.invokevirtual 231, 3) := by decide +kernel
theorem d_RDR_addClassPart_16 : decode b_RDR_addClassPart 16 = .ok (.aload_n 0, 1) := by decide +kernel
theorem d_RDR_addClassPart_17 : decode b_RDR_addClassPart 17 = .ok (.iload_n 1, 1) := by decide +kernel
theorem d_RDR_addClassPart_18 : decode b_RDR_addClassPart 18 = .ok (.iconst 1, 1) := by decide +kernel
theorem d_RDR_addClassPart_19 : decode b_RDR_addClassPart 19 = .ok (.invokevirtual 191, 3) := by decide +kernel
theorem d_RDR_addClassPart_22 : decode b_RDR_addClassPart 22 = .ok (.return_, 1) := by decide +kernel
theorem d_SET_isOneCharacter_0 : decode b_SET_isOneCharacter 0 = .ok (.aload_n 0, 1) := by decide +kernel
theorem d_SET_isOneCharacter_1 : decode b_SET_isOneCharacter 1 = .ok (.getfield 18, 3) := by decide +kernel
theorem d_SET_isOneCharacter_4 : decode b_SET_isOneCharacter 4 = .ok (.iconst 1, 1) := by decide +kernel
theorem d_SET_isOneCharacter_5 : decode b_SET_isOneCharacter 5 = .ok (.if_icmp .ne 22, 3) := by decide +kernel
theorem d_SET_isOneCharacter_8 : decode b_SET_isOneCharacter 8 = .ok (.aload_n 0, 1) := by decide +kernel
theorem d_SET_isOneCharacter_9 : decode b_SET_isOneCharacter 9 = .ok (.getfield 11, 3) := by decide +kernel
theorem d_SET_isOneCharacter_12 : decode b_SET_isOneCharacter 12 = .ok (.iconst 0, 1) := by decide +kernel
theorem d_SET_isOneCharacter_13 : decode b_SET_isOneCharacter 13 = .ok (.iaload, 1) := by decide +kernel
theorem d_SET_isOneCharacter_14 : decode b_SET_isOneCharacter 14 = .ok (.aload_n 0, 1) := by decide +kernel
theorem d_SET_isOneCharacter_15 : decode b_SET_isOneCharacter 15 = .ok (.getfield 15, 3) := by decide +kernel
theorem d_SET_isOneCharacter_18 : decode b_SET_isOneCharacter 18 = .ok (.iconst 0, 1) := by decide +kernel
theorem d_SET_isOneCharacter_19 : decode b_SET_isOneCharacter 19 = .ok (.iaload, 1) := by decide +kernel
theorem d_SET_isOneCharacter_20 : decode b_SET_isOneCharacter 20 = .ok (.if_icmp .ne 7, 3) := by decide +kernel
theorem d_SET_isOneCharacter_23 : decode b_SET_isOneCharacter 23 = .ok (.iconst 1, 1) := by decide +kernel
theorem d_SET_isOneCharacter_24 : decode b_SET_isOneCharacter 24 = .ok (.goto 4, 3) := by decide +kernel
theorem d_SET_isOneCharacter_27 : decode b_SET_isOneCharacter 27 = .ok (.iconst 0, 1) := by decide +kernel
theorem d_SET_isOneCharacter_28 : decode b_SET_isOneCharacter 28 = .ok (.ireturn, 1) := by decide +kernel
theorem d_RDR_addCharacter_0 : decode b_RDR_addCharacter 0 = .ok (.aload_n 0, 1) := by decide +kernel
theorem d_RDR_addCharacter_1 : decode b_RDR_addCharacter 1 = .ok (.getfield 21, 3) := by decide +kernel
theorem d_RDR_addCharacter_4 : decode b_RDR_addCharacter 4 = .ok (.invokevirtual 263, 3) := by decide +kernel
theorem d_RDR_addCharacter_7 : decode b_RDR_addCharacter 7 = .ok (.aload_n 0, 1) := by decide +kernel
theorem d_RDR_addCharacter_8 : decode b_RDR_addCharacter 8 = .ok (.iconst 1, 1) := by decide +kernel
theorem d_RDR_addCharacter_9 : decode b_RDR_addCharacter 9 = .ok (.invokevirtual 133, 3) := by decide +kernel
theorem d_RDR_addCharacter_12 : decode b_RDR_addCharacter 12 = .ok (.ifCond .eq 15, 3) := by decide +kernel
theorem d_RDR_addCharacter_15 : decode b_RDR_addCharacter 15 = .ok (.aload_n 0, 1) := by decide +kernel
theorem d_RDR_addCharacter_16 : decode b_RDR_addCharacter 16 = .ok (.getfield 21, 3) := by decide +kernel
theorem d_RDR_addCharacter_19 : decode b_RDR_addCharacter 19 = .ok (.iload_n 1, 1) := by decide +kernel
theorem d_RDR_addCharacter_20 : decode b_RDR_addCharacter 20 = .ok (.iload_n 1, 1) := by decide +kernel
theorem d_RDR_addCharacter_21 : decode b_RDR_addCharacter 21 = .ok (.invokevirtual 293, 3) := by decide +kernel
theorem d_RDR_addCharacter_24 : decode b_RDR_addCharacter 24 = .ok (.goto 12, 3) := by decide +kernel
theorem d_RDR_addCharacter_27 : decode b_RDR_addCharacter 27 = .ok (.aload_n 0, 1) := by decide +kernel
theorem d_RDR_addCharacter_28 : decode b_RDR_addCharacter 28 = .ok (.getfield 21, 3) := by decide +kernel
theorem d_RDR_addCharacter_31 : decode b_RDR_addCharacter 31 = .ok (.iload_n 1, 1) := by decide +kernel
theorem d_RDR_addCharacter_32 : decode b_RDR_addCharacter 32 = .ok (.iload_n 1, 1) := by decide +kernel
theorem d_RDR_addCharacter_33 : decode b_RDR_addCharacter 33 = .ok (.invokevirtual 296, 3) := by decide +kernel
theorem d_RDR_addCharacter_36 : decode b_RDR_addCharacter 36 = .ok (.aload_n 0, 1) := by decide +kernel
theorem d_RDR_addCharacter_37 : decode b_RDR_addCharacter 37 = .ok (.getfield 21, 3) := by decide +kernel
theorem d_RDR_addCharacter_40 : decode b_RDR_addCharacter 40 = .ok (.invokevirtual 299, 3) := by decide +kernel
theorem d_RDR_addCharacter_43 : decode b_RDR_addCharacter 43 = .ok (.ifCond .eq 16, 3) := by decide +kernel
theorem d_RDR_addCharacter_46 : decode b_RDR_addCharacter 46 = .ok (.aload_n 0, 1) := by decide +kernel
theorem d_RDR_addCharacter_47 : decode b_RDR_addCharacter 47 = .ok (.getfield 44, 3) := by decide +kernel
theorem d_RDR_addCharacter_50 : decode b_RDR_addCharacter 50 = .ok (.iconst 0, 1) := by decide +kernel
theorem d_RDR_addCharacter_51 : decode b_RDR_addCharacter 51 = .ok (.iload_n 1, 1) := by decide +kernel
theorem d_RDR_addCharacter_52 : decode b_RDR_addCharacter 52 = .ok (.iconst 1, 1) := by decide +kernel
theorem d_RDR_addCharacter_53 : decode b_RDR_addCharacter 53 = .ok (.invokevirtual 184, 3) := by decide +kernel
theorem d_RDR_addCharacter_56 : decode b_RDR_addCharacter 56 = .ok (.goto 14, 3) := by decide +kernel
theorem d_RDR_addCharacter_59 : decode b_RDR_addCharacter 59 = .ok (.aload_n 0, 1) := by decide +kernel
theorem d_RDR_addCharacter_60 : decode b_RDR_addCharacter 60 = .ok (.getfield 44, 3) := by decide +kernel
theorem d_RDR_addCharacter_63 : decode b_RDR_addCharacter 63 = .ok (.aload_n 0, 1) := by decide +kernel
theorem d_RDR_addCharacter_64 : decode b_RDR_addCharacter 64 = .ok (.getfield 21, 3) := by decide +kernel
theorem d_RDR_addCharacter_67 : decode b_RDR_addCharacter 67 = .ok (.invokevirtual 231, 3) := by decide +kernel
theorem d_RDR_addCharacter_70 : decode b_RDR_addCharacter 70 = .ok (.return_, 1) := by decide +kernel
theorem d_RDR_addFixedSet_0 : decode b_RDR_addFixedSet 0 = .ok (.aload_n 0, 1) := by decide +kernel
theorem d_RDR_addFixedSet_1 : decode b_RDR_addFixedSet 1 = .ok (.getfield 21, 3) := by decide +kernel
theorem d_RDR_addFixedSet_4 : decode b_RDR_addFixedSet 4 = .ok (.invokevirtual 263, 3) := by decide +kernel
theorem d_RDR_addFixedSet_7 : decode b_RDR_addFixedSet 7 = .ok (.aload_n 0, 1) := by decide +kernel
theorem d_RDR_addFixedSet_8 : decode b_RDR_addFixedSet 8 = .ok (.getfield 21, 3) := by decide +kernel
theorem d_RDR_addFixedSet_11 : decode b_RDR_addFixedSet 11 = .ok (.aload_n 1, 1) := by decide +kernel
theorem d_RDR_addFixedSet_12 : decode b_RDR_addFixedSet 12 = .ok (.iload_n 2, 1) := by decide +kernel
theorem d_RDR_addFixedSet_13 : decode b_RDR_addFixedSet 13 = .ok (.invokevirtual 264, 3) := by decide +kernel
theorem d_RDR_addFixedSet_16 : decode b_RDR_addFixedSet 16 = .ok (.aload_n 0, 1) := by decide +kernel
theorem d_RDR_addFixedSet_17 : decode b_RDR_addFixedSet 17 = .ok (.getfield 21, 3) := by decide +kernel
theorem d_RDR_addFixedSet_20 : decode b_RDR_addFixedSet 20 = .ok (.iconst 0, 1) := by decide +kernel
theorem d_RDR_addFixedSet_21 : decode b_RDR_addFixedSet 21 = .ok (.invokevirtual 267, 3) := by decide +kernel
theorem d_RDR_addFixedSet_24 : decode b_RDR_addFixedSet 24 = .ok (.aload_n 0, 1) := by decide +kernel
theorem d_RDR_addFixedSet_25 : decode b_RDR_addFixedSet 25 = .ok (.getfield 44, 3) := by decide +kernel
theorem d_RDR_addFixedSet_28 : decode b_RDR_addFixedSet 28 = .ok (.aload_n 0, 1) := by decide +kernel
theorem d_RDR_addFixedSet_29 : decode b_RDR_addFixedSet 29 = .ok (.getfield 21, 3) := by decide +kernel
theorem d_RDR_addFixedSet_32 : decode b_RDR_addFixedSet 32 = .ok (.invokevirtual 231, 3) := by decide +kernel
theorem d_RDR_addFixedSet_35 : decode b_RDR_addFixedSet 35 = .ok (.return_, 1) := by decide +kernel
theorem d_RDR_readEscapePart_0 : decode b_RDR_readEscapePart 0 = .ok (.aload_n 0, 1) := by decide +kernel
theorem d_RDR_readEscapePart_1 : decode b_RDR_readEscapePart 1 = .ok (.getfield 57, 3) := by decide +kernel
theorem d_RDR_readEscapePart_4 : decode b_RDR_readEscapePart 4 = .ok (.aload_n 0, 1) := by decide +kernel
theorem d_RDR_readEscapePart_5 : decode b_RDR_readEscapePart 5 = .ok (.getfield 25, 3) := by decide +kernel
theorem d_RDR_readEscapePart_8 : decode b_RDR_readEscapePart 8 = .ok (.invokevirtual 235, 3) := by decide +kernel
theorem d_RDR_readEscapePart_11 : decode b_RDR_readEscapePart 11 = .ok (.istore_n 1, 1) := by decide +kernel
theorem d_RDR_readEscapePart_12 : decode b_RDR_readEscapePart 12 = .ok (.iload_n 1, 1) := by decide +kernel
theorem d_RDR_readEscapePart_13 : decode b_RDR_readEscapePart 13 = .ok (.ifCond .eq 16, 3) := by decide +kernel
theorem d_RDR_readEscapePart_16 : decode b_RDR_readEscapePart 16 = .ok (.aload_n 0, 1) := by decide +kernel
theorem d_RDR_readEscapePart_17 : decode b_RDR_readEscapePart 17 = .ok (.getfield 40, 3) := by decide +kernel
theorem d_RDR_readEscapePart_20 : decode b_RDR_readEscapePart 20 = .ok (.iload_n 1, 1) := by decide +kernel
theorem d_RDR_readEscapePart_21 : decode b_RDR_readEscapePart 21 = .ok (.aload_n 0, 1) := by decide +kernel
theorem d_RDR_readEscapePart_22 : decode b_RDR_readEscapePart 22 = .ok (.getfield 25, 3) := by decide +kernel
theorem d_RDR_readEscapePart_25 : decode b_RDR_readEscapePart 25 = .ok (.invokevirtual 113, 3) := by decide +kernel
theorem d_RDR_readEscapePart_28 : decode b_RDR_readEscapePart 28 = .ok (.return_, 1) := by decide +kernel
theorem d_RDR_readEscapePart_29 : decode b_RDR_readEscapePart 29 = .ok (.aload_n 0, 1) := by decide +kernel
theorem d_RDR_readEscapePart_30 : decode b_RDR_readEscapePart 30 = .ok (.getfield 57, 3) := by decide +kernel
theorem d_RDR_readEscapePart_33 : decode b_RDR_readEscapePart 33 = .ok (.getfield 238, 3) := by decide +kernel
theorem d_RDR_readEscapePart_36 : decode b_RDR_readEscapePart 36 = .ok (.lookupswitch 63 #[(0, 28), (1, 42)], 28) := by decide +kernel
theorem d_RDR_readEscapePart_64 : decode b_RDR_readEscapePart 64 = .ok (.aload_n 0, 1) := by decide +kernel
theorem d_RDR_readEscapePart_65 : decode b_RDR_readEscapePart 65 = .ok (.aload_n 0, 1) := by decide +kernel
theorem d_RDR_readEscapePart_66 : decode b_RDR_readEscapePart 66 = .ok (.getfield 57, 3) := by decide +kernel
theorem d_RDR_readEscapePart_69 : decode b_RDR_readEscapePart 69 = .ok (.getfield 241, 3) := by decide +kernel
theorem d_RDR_readEscapePart_72 : decode b_RDR_readEscapePart 72 = .ok (.invokevirtual 244, 3) := by decide +kernel
theorem d_RDR_readEscapePart_75 : decode b_RDR_readEscapePart 75 = .ok (.goto 46, 3) := by decide +kernel
theorem d_RDR_readEscapePart_78 : decode b_RDR_readEscapePart 78 = .ok (.aload_n 0, 1) := by decide +kernel
theorem d_RDR_readEscapePart_79 : decode b_RDR_readEscapePart 79 = .ok (.aload_n 0, 1) := by decide +kernel
theorem d_RDR_readEscapePart_80 : decode b_RDR_readEscapePart 80 = .ok (.getfield 57, 3) := by decide +kernel
theorem d_RDR_readEscapePart_83 : decode b_RDR_readEscapePart 83 = .ok (.getfield 247, 3) := by decide +kernel
theorem d_RDR_readEscapePart_86 : decode b_RDR_readEscapePart 86 = .ok (.aload_n 0, 1) := by decide +kernel
theorem d_RDR_readEscapePart_87 : decode b_RDR_readEscapePart 87 = .ok (.getfield 57, 3) := by decide +kernel
theorem d_RDR_readEscapePart_90 : decode b_RDR_readEscapePart 90 = .ok (.getfield 249, 3) := by decide +kernel
theorem d_RDR_readEscapePart_93 : decode b_RDR_readEscapePart 93 = .ok (.invokevirtual 252, 3) := by decide +kernel
theorem d_RDR_readEscapePart_96 : decode b_RDR_readEscapePart 96 = .ok (.goto 25, 3) := by decide +kernel
theorem d_RDR_readEscapePart_99 : decode b_RDR_readEscapePart 99 = .ok (.aload_n 0, 1) := by decide +kernel
theorem d_RDR_readEscapePart_100 : decode b_RDR_readEscapePart 100 = .ok (.getfield 44, 3) := by decide +kernel
theorem d_RDR_readEscapePart_103 : decode b_RDR_readEscapePart 103 = .ok (.aload_n 0, 1) := by decide +kernel
theorem d_RDR_readEscapePart_104 : decode b_RDR_readEscapePart 104 = .ok (.getfield 57, 3) := by decide +kernel
theorem d_RDR_readEscapePart_107 : decode b_RDR_readEscapePart 107 = .ok (.getfield 238, 3) := by decide +kernel
theorem d_RDR_readEscapePart_110 : decode b_RDR_readEscapePart 110 = .ok (.aload_n 0, 1) := by decide +kernel
theorem d_RDR_readEscapePart_111 : decode b_RDR_readEscapePart 111 = .ok (.getfield 57, 3) := by decide +kernel
theorem d_RDR_readEscapePart_114 : decode b_RDR_readEscapePart 114 = .ok (.getfield 241, 3) := by decide +kernel
theorem d_RDR_readEscapePart_117 : decode b_RDR_readEscapePart 117 = .ok (.iconst 1, 1) := by decide +kernel
theorem d_RDR_readEscapePart_118 : decode b_RDR_readEscapePart 118 = .ok (.invokevirtual 184, 3) := by decide +kernel
theorem d_RDR_readEscapePart_121 : decode b_RDR_readEscapePart 121 = .ok (.aload_n 0, 1) := by decide +kernel
theorem d_RDR_readEscapePart_122 : decode b_RDR_readEscapePart 122 = .ok (.aload_n 0, 1) := by decide +kernel
theorem d_RDR_readEscapePart_123 : decode b_RDR_readEscapePart 123 = .ok (.getfield 57, 3) := by decide +kernel
theorem d_RDR_readEscapePart_126 : decode b_RDR_readEscapePart 126 = .ok (.getfield 256, 3) := by decide +kernel
theorem d_RDR_readEscapePart_129 : decode b_RDR_readEscapePart 129 = .ok (.iconst 1, 1) := by decide +kernel
theorem d_RDR_readEscapePart_130 : decode b_RDR_readEscapePart 130 = .ok (.invokevirtual 191, 3) := by decide +kernel
theorem d_RDR_readEscapePart_133 : decode b_RDR_readEscapePart 133 = .ok (.return_, 1) := by decide +kernel
theorem d_RDR_readAny_0 : decode b_RDR_readAny 0 = .ok (.aload_n 0, 1) := by decide +kernel
theorem d_RDR_readAny_1 : decode b_RDR_readAny 1 = .ok (.aload_n 0, 1) := by decide +kernel
theorem d_RDR_readAny_2 : decode b_RDR_readAny 2 = .ok (.iconst 4, 1) := by decide +kernel
theorem d_RDR_readAny_3 : decode b_RDR_readAny 3 = .ok (.invokevirtual 133, 3) := by decide +kernel
theorem d_RDR_readAny_6 : decode b_RDR_readAny 6 = .ok (.ifCond .eq 9, 3) := by decide +kernel
theorem d_RDR_readAny_9 : decode b_RDR_readAny 9 = .ok (.getstatic 257, 3) := by decide +kernel
theorem d_RDR_readAny_12 : decode b_RDR_readAny 12 = .ok (.goto 6, 3) := by decide +kernel
theorem d_RDR_readAny_15 : decode b_RDR_readAny 15 = .ok (.getstatic 260, 3) := by decide +kernel
theorem d_RDR_readAny_18 : decode b_RDR_readAny 18 = .ok (.iconst 1, 1) := by decide +kernel
theorem d_RDR_readAny_19 : decode b_RDR_readAny 19 = .ok (.invokevirtual 252, 3) := by decide +kernel
theorem d_RDR_readAny_22 : decode b_RDR_readAny 22 = .ok (.aload_n 0, 1) := by decide +kernel
theorem d_RDR_readAny_23 : decode b_RDR_readAny 23 = .ok (.aload_n 0, 1) := by decide +kernel
theorem d_RDR_readAny_24 : decode b_RDR_readAny 24 = .ok (.getfield 25, 3) := by decide +kernel
theorem d_RDR_readAny_27 : decode b_RDR_readAny 27 = .ok (.iconst 1, 1) := by decide +kernel
theorem d_RDR_readAny_28 : decode b_RDR_readAny 28 = .ok (.iadd, 1) := by decide +kernel
theorem d_RDR_readAny_29 : decode b_RDR_readAny 29 = .ok (.iconst 1, 1) := by decide +kernel
theorem d_RDR_readAny_30 : decode b_RDR_readAny 30 = .ok (.invokevirtual 191, 3) := by decide +kernel
theorem d_RDR_readAny_33 : decode b_RDR_readAny 33 = .ok (.return_, 1) := by decide +kernel
theorem d_RDR_addAssertion_0 : decode b_RDR_addAssertion 0 = .ok (.aload_n 0, 1) := by decide +kernel
theorem d_RDR_addAssertion_1 : decode b_RDR_addAssertion 1 = .ok (.getfield 44, 3) := by decide +kernel
theorem d_RDR_addAssertion_4 : decode b_RDR_addAssertion 4 = .ok (.iconst 3, 1) := by decide +kernel
theorem d_RDR_addAssertion_5 : decode b_RDR_addAssertion 5 = .ok (.iload_n 1, 1) := by decide +kernel
theorem d_RDR_addAssertion_6 : decode b_RDR_addAssertion 6 = .ok (.iconst 1, 1) := by decide +kernel
theorem d_RDR_addAssertion_7 : decode b_RDR_addAssertion 7 = .ok (.invokevirtual 184, 3) := by decide +kernel
theorem d_RDR_addAssertion_10 : decode b_RDR_addAssertion 10 = .ok (.aload_n 0, 1) := by decide +kernel
theorem d_RDR_addAssertion_11 : decode b_RDR_addAssertion 11 = .ok (.aload_n 0, 1) := by decide +kernel
theorem d_RDR_addAssertion_12 : decode b_RDR_addAssertion 12 = .ok (.getfield 25, 3) := by decide +kernel
theorem d_RDR_addAssertion_15 : decode b_RDR_addAssertion 15 = .ok (.iconst 1, 1) := by decide +kernel
theorem d_RDR_addAssertion_16 : decode b_RDR_addAssertion 16 = .ok (.iadd, 1) := by decide +kernel
theorem d_RDR_addAssertion_17 : decode b_RDR_addAssertion 17 = .ok (.iconst 1, 1) := by decide +kernel
theorem d_RDR_addAssertion_18 : decode b_RDR_addAssertion 18 = .ok (.invokevirtual 191, 3) := by decide +kernel
theorem d_RDR_addAssertion_21 : decode b_RDR_addAssertion 21 = .ok (.return_, 1) := by decide +kernel
theorem d_REP_readNumber_0 : decode b_REP_readNumber 0 = .ok (.iconst 0, 1) := by decide +kernel
theorem d_REP_readNumber_1 : decode b_REP_readNumber 1 = .ok (.istore_n 1, 1) := by decide +kernel
theorem d_REP_readNumber_2 : decode b_REP_readNumber 2 = .ok (.aload_n 0, 1) := by decide +kernel
theorem d_REP_readNumber_3 : decode b_REP_readNumber 3 = .ok (.iconst 0, 1) := by decide +kernel
theorem d_REP_readNumber_4 : decode b_REP_readNumber 4 = .ok (.putfield 25, 3) := by decide +kernel
theorem d_REP_readNumber_7 : decode b_REP_readNumber 7 = .ok (.iload_n 1, 1) := by decide +kernel
theorem d_REP_readNumber_8 : decode b_REP_readNumber 8 = .ok (.iconst 3, 1) := by decide +kernel
theorem d_REP_readNumber_9 : decode b_REP_readNumber 9 = .ok (.if_icmp .ge 62, 3) := by decide +kernel
theorem d_REP_readNumber_12 : decode b_REP_readNumber 12 = .ok (.aload_n 0, 1) := by decide +kernel
theorem d_REP_readNumber_13 : decode b_REP_readNumber 13 = .ok (.getfield 28, 3) := by decide +kernel
theorem d_REP_readNumber_16 : decode b_REP_readNumber 16 = .ok (.aload_n 0, 1) := by decide +kernel
theorem d_REP_readNumber_17 : decode b_REP_readNumber 17 = .ok (.getfield 22, 3) := by decide +kernel
theorem d_REP_readNumber_20 : decode b_REP_readNumber 20 = .ok (.invokevirtual 32, 3) := by decide +kernel
theorem d_REP_readNumber_23 : decode b_REP_readNumber 23 = .ok (.invokestatic 45, 3) := by decide +kernel
theorem d_REP_readNumber_26 : decode b_REP_readNumber 26 = .ok (.ifCond .eq 45, 3) := by decide +kernel
theorem d_REP_readNumber_29 : decode b_REP_readNumber 29 = .ok (.aload_n 0, 1) := by decide +kernel
theorem d_REP_readNumber_30 : decode b_REP_readNumber 30 = .ok (.aload_n 0, 1) := by decide +kernel
theorem d_REP_readNumber_31 : decode b_REP_readNumber 31 = .ok (.getfield 25, 3) := by decide +kernel
theorem d_REP_readNumber_34 : decode b_REP_readNumber 34 = .ok (.bipush 10, 2) := by decide +kernel
theorem d_REP_readNumber_36 : decode b_REP_readNumber 36 = .ok (.imul, 1) := by decide +kernel
theorem d_REP_readNumber_37 : decode b_REP_readNumber 37 = .ok (.aload_n 0, 1) := by decide +kernel
theorem d_REP_readNumber_38 : decode b_REP_readNumber 38 = .ok (.getfield 28, 3) := by decide +kernel
theorem d_REP_readNumber_41 : decode b_REP_readNumber 41 = .ok (.aload_n 0, 1) := by decide +kernel
theorem d_REP_readNumber_42 : decode b_REP_readNumber 42 = .ok (.getfield 22, 3) := by decide +kernel
theorem d_REP_readNumber_45 : decode b_REP_readNumber 45 = .ok (.invokevirtual 32, 3) := by decide +kernel
theorem d_REP_readNumber_48 : decode b_REP_readNumber 48 = .ok (.iadd, 1) := by decide +kernel
theorem d_REP_readNumber_49 : decode b_REP_readNumber 49 = .ok (.bipush 48, 2) := by decide +kernel
theorem d_REP_readNumber_51 : decode b_REP_readNumber 51 = .ok (.isub, 1) := by decide +kernel
theorem d_REP_readNumber_52 : decode b_REP_readNumber 52 = .ok (.putfield 25, 3) := by decide +kernel
theorem d_REP_readNumber_55 : decode b_REP_readNumber 55 = .ok (.iinc 1 1, 3) := by decide +kernel
theorem d_REP_readNumber_58 : decode b_REP_readNumber 58 = .ok (.aload_n 0, 1) := by decide +kernel
theorem d_REP_readNumber_59 : decode b_REP_readNumber 59 = .ok (.dup, 1) := by decide +kernel
theorem d_REP_readNumber_60 : decode b_REP_readNumber 60 = .ok (.getfield 22, 3) := by decide +kernel
theorem d_REP_readNumber_63 : decode b_REP_readNumber 63 = .ok (.iconst 1, 1) := by decide +kernel
theorem d_REP_readNumber_64 : decode b_REP_readNumber 64 = .ok (.iadd, 1) := by decide +kernel
theorem d_REP_readNumber_65 : decode b_REP_readNumber 65 = .ok (.putfield 22, 3) := by decide +kernel
theorem d_REP_readNumber_68 : decode b_REP_readNumber 68 = .ok (.goto (-61), 3) := by decide +kernel
theorem d_REP_readNumber_71 : decode b_REP_readNumber 71 = .ok (.iload_n 1, 1) := by decide +kernel
theorem d_REP_readNumber_72 : decode b_REP_readNumber 72 = .ok (.ifCond .le 7, 3) := by decide +kernel
theorem d_REP_readNumber_75 : decode b_REP_readNumber 75 = .ok (.iconst 1, 1) := by decide +kernel
theorem d_REP_readNumber_76 : decode b_REP_readNumber 76 = .ok (.goto 4, 3) := by decide +kernel
theorem d_REP_readNumber_79 : decode b_REP_readNumber 79 = .ok (.iconst 0, 1) := by decide +kernel
theorem d_REP_readNumber_80 : decode b_REP_readNumber 80 = .ok (.ireturn, 1) := by decide +kernel
theorem d_REP_readBounds_0 : decode b_REP_readBounds 0 = .ok (.aload_n 0, 1) := by decide +kernel
theorem d_REP_readBounds_1 : decode b_REP_readBounds 1 = .ok (.invokevirtual 42, 3) := by decide +kernel
theorem d_REP_readBounds_4 : decode b_REP_readBounds 4 = .ok (.ifCond .ne 5, 3) := by decide +kernel
theorem d_REP_readBounds_7 : decode b_REP_readBounds 7 = .ok (.iconst 0, 1) := by decide +kernel
theorem d_REP_readBounds_8 : decode b_REP_readBounds 8 = .ok (.ireturn, 1) := by decide +kernel
theorem d_REP_readBounds_9 : decode b_REP_readBounds 9 = .ok (.aload_n 0, 1) := by decide +kernel
theorem d_REP_readBounds_10 : decode b_REP_readBounds 10 = .ok (.aload_n 0, 1) := by decide +kernel
theorem d_REP_readBounds_11 : decode b_REP_readBounds 11 = .ok (.getfield 25, 3) := by decide +kernel
theorem d_REP_readBounds_14 : decode b_REP_readBounds 14 = .ok (.putfield 9, 3) := by decide +kernel
theorem d_REP_readBounds_17 : decode b_REP_readBounds 17 = .ok (.aload_n 0, 1) := by decide +kernel
theorem d_REP_readBounds_18 : decode b_REP_readBounds 18 = .ok (.aload_n 0, 1) := by decide +kernel
theorem d_REP_readBounds_19 : decode b_REP_readBounds 19 = .ok (.getfield 25, 3) := by decide +kernel
theorem d_REP_readBounds_22 : decode b_REP_readBounds 22 = .ok (.putfield 15, 3) := by decide +kernel
theorem d_REP_readBounds_25 : decode b_REP_readBounds 25 = .ok (.aload_n 0, 1) := by decide +kernel
theorem d_REP_readBounds_26 : decode b_REP_readBounds 26 = .ok (.getfield 28, 3) := by decide +kernel
theorem d_REP_readBounds_29 : decode b_REP_readBounds 29 = .ok (.aload_n 0, 1) := by decide +kernel
theorem d_REP_readBounds_30 : decode b_REP_readBounds 30 = .ok (.getfield 22, 3) := by decide +kernel
theorem d_REP_readBounds_33 : decode b_REP_readBounds 33 = .ok (.invokevirtual 32, 3) := by decide +kernel
theorem d_REP_readBounds_36 : decode b_REP_readBounds 36 = .ok (.bipush 44, 2) := by decide +kernel
theorem d_REP_readBounds_38 : decode b_REP_readBounds 38 = .ok (.if_icmp .ne 32, 3) := by decide +kernel
theorem d_REP_readBounds_41 : decode b_REP_readBounds 41 = .ok (.aload_n 0, 1) := by decide +kernel
theorem d_REP_readBounds_42 : decode b_REP_readBounds 42 = .ok (.dup, 1) := by decide +kernel
theorem d_REP_readBounds_43 : decode b_REP_readBounds 43 = .ok (.getfield 22, 3) := by decide +kernel
theorem d_REP_readBounds_46 : decode b_REP_readBounds 46 = .ok (.iconst 1, 1) := by decide +kernel
theorem d_REP_readBounds_47 : decode b_REP_readBounds 47 = .ok (.iadd, 1) := by decide +kernel
theorem d_REP_readBounds_48 : decode b_REP_readBounds 48 = .ok (.putfield 22, 3) := by decide +kernel
theorem d_REP_readBounds_51 : decode b_REP_readBounds 51 = .ok (.aload_n 0, 1) := by decide +kernel
theorem d_REP_readBounds_52 : decode b_REP_readBounds 52 = .ok (.aload_n 0, 1) := by decide +kernel
theorem d_REP_readBounds_53 : decode b_REP_readBounds 53 = .ok (.invokevirtual 42, 3) := by decide +kernel
theorem d_REP_readBounds_56 : decode b_REP_readBounds 56 = .ok (.ifCond .eq 10, 3) := by decide +kernel
theorem d_REP_readBounds_59 : decode b_REP_readBounds 59 = .ok (.aload_n 0, 1) := by decide +kernel
theorem d_REP_readBounds_60 : decode b_REP_readBounds 60 = .ok (.getfield 25, 3) := by decide +kernel
theorem d_REP_readBounds_63 : decode b_REP_readBounds 63 = .ok (.goto 4, 3) := by decide +kernel
theorem d_REP_readBounds_66 : decode b_REP_readBounds 66 = .ok (.iconst (-1), 1) := by decide +kernel
theorem d_REP_readBounds_67 : decode b_REP_readBounds 67 = .ok (.putfield 15, 3) := by decide +kernel
theorem d_REP_readBounds_70 : decode b_REP_readBounds 70 = .ok (.aload_n 0, 1) := by decide +kernel
theorem d_REP_readBounds_71 : decode b_REP_readBounds 71 = .ok (.dup, 1) := by decide +kernel
theorem d_REP_readBounds_72 : decode b_REP_readBounds 72 = .ok (.getfield 22, 3) := by decide +kernel
theorem d_REP_readBounds_75 : decode b_REP_readBounds 75 = .ok (.iconst 1, 1) := by decide +kernel
theorem d_REP_readBounds_76 : decode b_REP_readBounds 76 = .ok (.iadd, 1) := by decide +kernel
theorem d_REP_readBounds_77 : decode b_REP_readBounds 77 = .ok (.putfield 22, 3) := by decide +kernel
theorem d_REP_readBounds_80 : decode b_REP_readBounds 80 = .ok (.aload_n 0, 1) := by decide +kernel
theorem d_REP_readBounds_81 : decode b_REP_readBounds 81 = .ok (.getfield 28, 3) := by decide +kernel
theorem d_REP_readBounds_84 : decode b_REP_readBounds 84 = .ok (.aload_n 0, 1) := by decide +kernel
theorem d_REP_readBounds_85 : decode b_REP_readBounds 85 = .ok (.getfield 22, 3) := by decide +kernel
theorem d_REP_readBounds_88 : decode b_REP_readBounds 88 = .ok (.iconst 1, 1) := by decide +kernel
theorem d_REP_readBounds_89 : decode b_REP_readBounds 89 = .ok (.isub, 1) := by decide +kernel
theorem d_REP_readBounds_90 : decode b_REP_readBounds 90 = .ok (.invokevirtual 32, 3) := by decide +kernel
theorem d_REP_readBounds_93 : decode b_REP_readBounds 93 = .ok (.bipush 125, 2) := by decide +kernel
theorem d_REP_readBounds_95 : decode b_REP_readBounds 95 = .ok (.if_icmp .ne 7, 3) := by decide +kernel
theorem d_REP_readBounds_98 : decode b_REP_readBounds 98 = .ok (.iconst 1, 1) := by decide +kernel
theorem d_REP_readBounds_99 : decode b_REP_readBounds 99 = .ok (.goto 4, 3) := by decide +kernel
theorem d_REP_readBounds_102 : decode b_REP_readBounds 102 = .ok (.iconst 0, 1) := by decide +kernel
theorem d_REP_readBounds_103 : decode b_REP_readBounds 103 = .ok (.ireturn, 1) := by decide +kernel
theorem d_REP_readRepeat_0 : decode b_REP_readRepeat 0 = .ok (.aload_n 0, 1) := by decide +kernel
theorem d_REP_readRepeat_1 : decode b_REP_readRepeat 1 = .ok (.getfield 28, 3) := by decide +kernel
theorem d_REP_readRepeat_4 : decode b_REP_readRepeat 4 = .ok (.iload_n 1, 1) := by decide +kernel
theorem d_REP_readRepeat_5 : decode b_REP_readRepeat 5 = .ok (.invokevirtual 32, 3) := by decide +kernel
theorem d_REP_readRepeat_8 : decode b_REP_readRepeat 8 = .ok (.istore_n 2, 1) := by decide +kernel
theorem d_REP_readRepeat_9 : decode b_REP_readRepeat 9 = .ok (.aload_n 0, 1) := by decide +kernel
theorem d_REP_readRepeat_10 : decode b_REP_readRepeat 10 = .ok (.iload_n 1, 1) := by decide +kernel
theorem d_REP_readRepeat_11 : decode b_REP_readRepeat 11 = .ok (.iconst 1, 1) := by decide +kernel
theorem d_REP_readRepeat_12 : decode b_REP_readRepeat 12 = .ok (.iadd, 1) := by decide +kernel
theorem d_REP_readRepeat_13 : decode b_REP_readRepeat 13 = .ok (.putfield 22, 3) := by decide +kernel
theorem d_REP_readRepeat_16 : decode b_REP_readRepeat 16 = .ok (.iload_n 2, 1) := by decide +kernel
theorem d_REP_readRepeat_17 : decode b_REP_readRepeat 17 = .ok (.bipush 123, 2) := by decide +kernel
theorem d_REP_readRepeat_19 : decode b_REP_readRepeat 19 = .ok (.if_icmp .ne 12, 3) := by decide +kernel
theorem d_REP_readRepeat_22 : decode b_REP_readRepeat 22 = .ok (.aload_n 0, 1) := by decide +kernel
theorem d_REP_readRepeat_23 : decode b_REP_readRepeat 23 = .ok (.invokevirtual 38, 3) := by decide +kernel
theorem d_REP_readRepeat_26 : decode b_REP_readRepeat 26 = .ok (.ifCond .ne 35, 3) := by decide +kernel
theorem d_REP_readRepeat_29 : decode b_REP_readRepeat 29 = .ok (.iconst 0, 1) := by decide +kernel
theorem d_REP_readRepeat_30 : decode b_REP_readRepeat 30 = .ok (.ireturn, 1) := by decide +kernel
theorem d_REP_readRepeat_31 : decode b_REP_readRepeat 31 = .ok (.aload_n 0, 1) := by decide +kernel
theorem d_REP_readRepeat_32 : decode b_REP_readRepeat 32 = .ok (.iload_n 2, 1) := by decide +kernel
theorem d_REP_readRepeat_33 : decode b_REP_readRepeat 33 = .ok (.bipush 43, 2) := by decide +kernel
theorem d_REP_readRepeat_35 : decode b_REP_readRepeat 35 = .ok (.if_icmp .ne 7, 3) := by decide +kernel
theorem d_REP_readRepeat_38 : decode b_REP_readRepeat 38 = .ok (.iconst 1, 1) := by decide +kernel
theorem d_REP_readRepeat_39 : decode b_REP_readRepeat 39 = .ok (.goto 4, 3) := by decide +kernel
theorem d_REP_readRepeat_42 : decode b_REP_readRepeat 42 = .ok (.iconst 0, 1) := by decide +kernel
theorem d_REP_readRepeat_43 : decode b_REP_readRepeat 43 = .ok (.putfield 9, 3) := by decide +kernel
theorem d_REP_readRepeat_46 : decode b_REP_readRepeat 46 = .ok (.aload_n 0, 1) := by decide +kernel
theorem d_REP_readRepeat_47 : decode b_REP_readRepeat 47 = .ok (.iload_n 2, 1) := by decide +kernel
theorem d_REP_readRepeat_48 : decode b_REP_readRepeat 48 = .ok (.bipush 63, 2) := by decide +kernel
theorem d_REP_readRepeat_50 : decode b_REP_readRepeat 50 = .ok (.if_icmp .ne 7, 3) := by decide +kernel
theorem d_REP_readRepeat_53 : decode b_REP_readRepeat 53 = .ok (.iconst 1, 1) := by decide +kernel
theorem d_REP_readRepeat_54 : decode b_REP_readRepeat 54 = .ok (.goto 4, 3) := by decide +kernel
theorem d_REP_readRepeat_57 : decode b_REP_readRepeat 57 = .ok (.iconst (-1), 1) := by decide +kernel
theorem d_REP_readRepeat_58 : decode b_REP_readRepeat 58 = .ok (.putfield 15, 3) := by decide +kernel
theorem d_REP_readRepeat_61 : decode b_REP_readRepeat 61 = .ok (.aload_n 0, 1) := by decide +kernel
theorem d_REP_readRepeat_62 : decode b_REP_readRepeat 62 = .ok (.aload_n 0, 1) := by decide +kernel
theorem d_REP_readRepeat_63 : decode b_REP_readRepeat 63 = .ok (.getfield 28, 3) := by decide +kernel
theorem d_REP_readRepeat_66 : decode b_REP_readRepeat 66 = .ok (.aload_n 0, 1) := by decide +kernel
theorem d_REP_readRepeat_67 : decode b_REP_readRepeat 67 = .ok (.getfield 22, 3) := by decide +kernel
theorem d_REP_readRepeat_70 : decode b_REP_readRepeat 70 = .ok (.invokevirtual 32, 3) := by decide +kernel
theorem d_REP_readRepeat_73 : decode b_REP_readRepeat 73 = .ok (.bipush 63, 2) := by decide +kernel
theorem d_REP_readRepeat_75 : decode b_REP_readRepeat 75 = .ok (.if_icmp .ne 7, 3) := by decide +kernel
theorem d_REP_readRepeat_78 : decode b_REP_readRepeat 78 = .ok (.iconst 1, 1) := by decide +kernel
theorem d_REP_readRepeat_79 : decode b_REP_readRepeat 79 = .ok (.goto 4, 3) := by decide +kernel
theorem d_REP_readRepeat_82 : decode b_REP_readRepeat 82 = .ok (.iconst 0, 1) := by decide +kernel
theorem d_REP_readRepeat_83 : decode b_REP_readRepeat 83 = .ok (.putfield 18, 3) := by decide +kernel
theorem d_REP_readRepeat_86 : decode b_REP_readRepeat 86 = .ok (.aload_n 0, 1) := by decide +kernel
theorem d_REP_readRepeat_87 : decode b_REP_readRepeat 87 = .ok (.getfield 18, 3) := by decide +kernel
theorem d_REP_readRepeat_90 : decode b_REP_readRepeat 90 = .ok (.ifCond .eq 13, 3) := by decide +kernel
theorem d_REP_readRepeat_93 : decode b_REP_readRepeat 93 = .ok (.aload_n 0, 1) := by decide +kernel
theorem d_REP_readRepeat_94 : decode b_REP_readRepeat 94 = .ok (.dup, 1) := by decide +kernel
theorem d_REP_readRepeat_95 : decode b_REP_readRepeat 95 = .ok (.getfield 22, 3) := by decide +kernel
theorem d_REP_readRepeat_98 : decode b_REP_readRepeat 98 = .ok (.iconst 1, 1) := by decide +kernel
theorem d_REP_readRepeat_99 : decode b_REP_readRepeat 99 = .ok (.iadd, 1) := by decide +kernel
theorem d_REP_readRepeat_100 : decode b_REP_readRepeat 100 = .ok (.putfield 22, 3) := by decide +kernel
theorem d_REP_readRepeat_103 : decode b_REP_readRepeat 103 = .ok (.iconst 1, 1) := by decide +kernel
theorem d_REP_readRepeat_104 : decode b_REP_readRepeat 104 = .ok (.ireturn, 1) := by decide +kernel
theorem d_REP_hasBadTimes_0 : decode b_REP_hasBadTimes 0 = .ok (.aload_n 0, 1) := by decide +kernel
theorem d_REP_hasBadTimes_1 : decode b_REP_hasBadTimes 1 = .ok (.getfield 9, 3) := by decide +kernel
theorem d_REP_hasBadTimes_4 : decode b_REP_hasBadTimes 4 = .ok (.bipush 100, 2) := by decide +kernel
theorem d_REP_hasBadTimes_6 : decode b_REP_hasBadTimes 6 = .ok (.if_icmp .gt 31, 3) := by decide +kernel
theorem d_REP_hasBadTimes_9 : decode b_REP_hasBadTimes 9 = .ok (.aload_n 0, 1) := by decide +kernel
theorem d_REP_hasBadTimes_10 : decode b_REP_hasBadTimes 10 = .ok (.getfield 15, 3) := by decide +kernel
theorem d_REP_hasBadTimes_13 : decode b_REP_hasBadTimes 13 = .ok (.bipush 100, 2) := by decide +kernel
theorem d_REP_hasBadTimes_15 : decode b_REP_hasBadTimes 15 = .ok (.if_icmp .gt 22, 3) := by decide +kernel
theorem d_REP_hasBadTimes_18 : decode b_REP_hasBadTimes 18 = .ok (.aload_n 0, 1) := by decide +kernel
theorem d_REP_hasBadTimes_19 : decode b_REP_hasBadTimes 19 = .ok (.getfield 15, 3) := by decide +kernel
theorem d_REP_hasBadTimes_22 : decode b_REP_hasBadTimes 22 = .ok (.iconst (-1), 1) := by decide +kernel
theorem d_REP_hasBadTimes_23 : decode b_REP_hasBadTimes 23 = .ok (.if_icmp .eq 18, 3) := by decide +kernel
theorem d_REP_hasBadTimes_26 : decode b_REP_hasBadTimes 26 = .ok (.aload_n 0, 1) := by decide +kernel
theorem d_REP_hasBadTimes_27 : decode b_REP_hasBadTimes 27 = .ok (.getfield 9, 3) := by decide +kernel
theorem d_REP_hasBadTimes_30 : decode b_REP_hasBadTimes 30 = .ok (.aload_n 0, 1) := by decide +kernel
theorem d_REP_hasBadTimes_31 : decode b_REP_hasBadTimes 31 = .ok (.getfield 15, 3) := by decide +kernel
theorem d_REP_hasBadTimes_34 : decode b_REP_hasBadTimes 34 = .ok (.if_icmp .le 7, 3) := by decide +kernel
theorem d_REP_hasBadTimes_37 : decode b_REP_hasBadTimes 37 = .ok (.iconst 1, 1) := by decide +kernel
theorem d_REP_hasBadTimes_38 : decode b_REP_hasBadTimes 38 = .ok (.goto 4, 3) := by decide +kernel
theorem d_REP_hasBadTimes_41 : decode b_REP_hasBadTimes 41 = .ok (.iconst 0, 1) := by decide +kernel
theorem d_REP_hasBadTimes_42 : decode b_REP_hasBadTimes 42 = .ok (.ireturn, 1) := by decide +kernel
theorem d_REP_sizeOver_0 : decode b_REP_sizeOver 0 = .ok (.aload_n 0, 1) := by decide +kernel
theorem d_REP_sizeOver_1 : decode b_REP_sizeOver 1 = .ok (.getfield 15, 3) := by decide +kernel
theorem d_REP_sizeOver_4 : decode b_REP_sizeOver 4 = .ok (.iconst (-1), 1) := by decide +kernel
theorem d_REP_sizeOver_5 : decode b_REP_sizeOver 5 = .ok (.if_icmp .eq 20, 3) := by decide +kernel
theorem d_REP_sizeOver_8 : decode b_REP_sizeOver 8 = .ok (.aload_n 0, 1) := by decide +kernel
theorem d_REP_sizeOver_9 : decode b_REP_sizeOver 9 = .ok (.getfield 15, 3) := by decide +kernel
theorem d_REP_sizeOver_12 : decode b_REP_sizeOver 12 = .ok (.iload_n 1, 1) := by decide +kernel
theorem d_REP_sizeOver_13 : decode b_REP_sizeOver 13 = .ok (.imul, 1) := by decide +kernel
theorem d_REP_sizeOver_14 : decode b_REP_sizeOver 14 = .ok (.aload_n 0, 1) := by decide +kernel
theorem d_REP_sizeOver_15 : decode b_REP_sizeOver 15 = .ok (.getfield 15, 3) := by decide +kernel
theorem d_REP_sizeOver_18 : decode b_REP_sizeOver 18 = .ok (.iadd, 1) := by decide +kernel
theorem d_REP_sizeOver_19 : decode b_REP_sizeOver 19 = .ok (.aload_n 0, 1) := by decide +kernel
theorem d_REP_sizeOver_20 : decode b_REP_sizeOver 20 = .ok (.getfield 9, 3) := by decide +kernel
theorem d_REP_sizeOver_23 : decode b_REP_sizeOver 23 = .ok (.isub, 1) := by decide +kernel
theorem d_REP_sizeOver_24 : decode b_REP_sizeOver 24 = .ok (.ireturn, 1) := by decide +kernel
theorem d_REP_sizeOver_25 : decode b_REP_sizeOver 25 = .ok (.aload_n 0, 1) := by decide +kernel
theorem d_REP_sizeOver_26 : decode b_REP_sizeOver 26 = .ok (.getfield 9, 3) := by decide +kernel
theorem d_REP_sizeOver_29 : decode b_REP_sizeOver 29 = .ok (.iload_n 1, 1) := by decide +kernel
theorem d_REP_sizeOver_30 : decode b_REP_sizeOver 30 = .ok (.imul, 1) := by decide +kernel
theorem d_REP_sizeOver_31 : decode b_REP_sizeOver 31 = .ok (.iload_n 1, 1) := by decide +kernel
theorem d_REP_sizeOver_32 : decode b_REP_sizeOver 32 = .ok (.iadd, 1) := by decide +kernel
theorem d_REP_sizeOver_33 : decode b_REP_sizeOver 33 = .ok (.iconst 1, 1) := by decide +kernel
theorem d_REP_sizeOver_34 : decode b_REP_sizeOver 34 = .ok (.iadd, 1) := by decide +kernel
theorem d_REP_sizeOver_35 : decode b_REP_sizeOver 35 = .ok (.ireturn, 1) := by decide +kernel
theorem d_RDR_addRepeat_0 : decode b_RDR_addRepeat 0 = .ok (.aload_n 0, 1) := by decide +kernel
theorem d_RDR_addRepeat_1 : decode b_RDR_addRepeat 1 = .ok (.getfield 32, 3) := by decide +kernel
theorem d_RDR_addRepeat_4 : decode b_RDR_addRepeat 4 = .ok (.ifCond .ne 17, 3) := by decide +kernel
theorem d_RDR_addRepeat_7 : decode b_RDR_addRepeat 7 = .ok (.aload_n 0, 1) := by decide +kernel
theorem d_RDR_addRepeat_8 : decode b_RDR_addRepeat 8 = .ok (.getfield 40, 3) := by decide +kernel
theorem d_RDR_addRepeat_11 : decode b_RDR_addRepeat 11 = .ok (.bipush 8, 2) := by decide +kernel
theorem d_RDR_addRepeat_13 : decode b_RDR_addRepeat 13 = .ok (.aload_n 0, 1) := by decide +kernel
theorem d_RDR_addRepeat_14 : decode b_RDR_addRepeat 14 = .ok (.getfield 25, 3) := by decide +kernel
theorem d_RDR_addRepeat_17 : decode b_RDR_addRepeat 17 = .ok (.invokevirtual 113, 3) := by decide +kernel
theorem d_RDR_addRepeat_20 : decode b_RDR_addRepeat 20 = .ok (.return_, 1) := by decide +kernel
theorem d_RDR_addRepeat_21 : decode b_RDR_addRepeat 21 = .ok (.aload_n 0, 1) := by decide +kernel
theorem d_RDR_addRepeat_22 : decode b_RDR_addRepeat 22 = .ok (.getfield 80, 3) := by decide +kernel
theorem d_RDR_addRepeat_25 : decode b_RDR_addRepeat 25 = .ok (.invokevirtual 271, 3) := by decide +kernel
theorem d_RDR_addRepeat_28 : decode b_RDR_addRepeat 28 = .ok (.ifCond .eq 17, 3) := by decide +kernel
theorem d_RDR_addRepeat_31 : decode b_RDR_addRepeat 31 = .ok (.aload_n 0, 1) := by decide +kernel
theorem d_RDR_addRepeat_32 : decode b_RDR_addRepeat 32 = .ok (.getfield 40, 3) := by decide +kernel
theorem d_RDR_addRepeat_35 : decode b_RDR_addRepeat 35 = .ok (.bipush 9, 2) := by decide +kernel
theorem d_RDR_addRepeat_37 : decode b_RDR_addRepeat 37 = .ok (.aload_n 0, 1) := by decide +kernel
theorem d_RDR_addRepeat_38 : decode b_RDR_addRepeat 38 = .ok (.getfield 25, 3) := by decide +kernel
theorem d_RDR_addRepeat_41 : decode b_RDR_addRepeat 41 = .ok (.invokevirtual 113, 3) := by decide +kernel
theorem d_RDR_addRepeat_44 : decode b_RDR_addRepeat 44 = .ok (.return_, 1) := by decide +kernel
theorem d_RDR_addRepeat_45 : decode b_RDR_addRepeat 45 = .ok (.aload_n 0, 1) := by decide +kernel
theorem d_RDR_addRepeat_46 : decode b_RDR_addRepeat 46 = .ok (.getfield 80, 3) := by decide +kernel
theorem d_RDR_addRepeat_49 : decode b_RDR_addRepeat 49 = .ok (.getfield 274, 3) := by decide +kernel
theorem d_RDR_addRepeat_52 : decode b_RDR_addRepeat 52 = .ok (.aload_n 0, 1) := by decide +kernel
theorem d_RDR_addRepeat_53 : decode b_RDR_addRepeat 53 = .ok (.bipush 8, 2) := by decide +kernel
theorem d_RDR_addRepeat_55 : decode b_RDR_addRepeat 55 = .ok (.invokevirtual 133, 3) := by decide +kernel
theorem d_RDR_addRepeat_58 : decode b_RDR_addRepeat 58 = .ok (.if_icmp .eq 8, 3) := by decide +kernel
theorem d_RDR_addRepeat_61 : decode b_RDR_addRepeat 61 = .ok (.bipush 8, 2) := by decide +kernel
theorem d_RDR_addRepeat_63 : decode b_RDR_addRepeat 63 = .ok (.goto 5, 3) := by decide +kernel
theorem d_RDR_addRepeat_66 : decode b_RDR_addRepeat 66 = .ok (.bipush 7, 2) := by decide +kernel
theorem d_RDR_addRepeat_68 : decode b_RDR_addRepeat 68 = .ok (.istore_n 1, 1) := by decide +kernel
theorem d_RDR_addRepeat_69 : decode b_RDR_addRepeat 69 = .ok (.aload_n 0, 1) := by decide +kernel
theorem d_RDR_addRepeat_70 : decode b_RDR_addRepeat 70 = .ok (.getfield 80, 3) := by decide +kernel
theorem d_RDR_addRepeat_73 : decode b_RDR_addRepeat 73 = .ok (.aload_n 0, 1) := by decide +kernel
theorem d_RDR_addRepeat_74 : decode b_RDR_addRepeat 74 = .ok (.getfield 44, 3) := by decide +kernel
theorem d_RDR_addRepeat_77 : decode b_RDR_addRepeat 77 = .ok (.iconst 1, 1) := by decide +kernel
theorem d_RDR_addRepeat_78 : decode b_RDR_addRepeat 78 = .ok (.invokevirtual 166, 3) := by decide +kernel
theorem d_RDR_addRepeat_81 : decode b_RDR_addRepeat 81 = .ok (.invokevirtual 277, 3) := by decide +kernel
theorem d_RDR_addRepeat_84 : decode b_RDR_addRepeat 84 = .ok (.istore_n 2, 1) := by decide +kernel
theorem d_RDR_addRepeat_85 : decode b_RDR_addRepeat 85 = .ok (.aload_n 0, 1) := by decide +kernel
theorem d_RDR_addRepeat_86 : decode b_RDR_addRepeat 86 = .ok (.getfield 44, 3) := by decide +kernel
theorem d_RDR_addRepeat_89 : decode b_RDR_addRepeat 89 = .ok (.iconst 1, 1) := by decide +kernel
theorem d_RDR_addRepeat_90 : decode b_RDR_addRepeat 90 = .ok (.iload_n 1, 1) := by decide +kernel
theorem d_RDR_addRepeat_91 : decode b_RDR_addRepeat 91 = .ok (.aload_n 0, 1) := by decide +kernel
theorem d_RDR_addRepeat_92 : decode b_RDR_addRepeat 92 = .ok (.getfield 80, 3) := by decide +kernel
theorem d_RDR_addRepeat_95 : decode b_RDR_addRepeat 95 = .ok (.getfield 280, 3) := by decide +kernel
theorem d_RDR_addRepeat_98 : decode b_RDR_addRepeat 98 = .ok (.aload_n 0, 1) := by decide +kernel
theorem d_RDR_addRepeat_99 : decode b_RDR_addRepeat 99 = .ok (.getfield 80, 3) := by decide +kernel
theorem d_RDR_addRepeat_102 : decode b_RDR_addRepeat 102 = .ok (.getfield 283, 3) := by decide +kernel
theorem d_RDR_addRepeat_105 : decode b_RDR_addRepeat 105 = .ok (.iload_n 2, 1) := by decide +kernel
theorem d_RDR_addRepeat_106 : decode b_RDR_addRepeat 106 = .ok (.invokevirtual 169, 3) := by decide +kernel
theorem d_RDR_addRepeat_109 : decode b_RDR_addRepeat 109 = .ok (.aload_n 0, 1) := by decide +kernel
theorem d_RDR_addRepeat_110 : decode b_RDR_addRepeat 110 = .ok (.iconst 0, 1) := by decide +kernel
theorem d_RDR_addRepeat_111 : decode b_RDR_addRepeat 111 = .ok (.putfield 32, 3) := by decide +kernel
theorem d_RDR_addRepeat_114 : decode b_RDR_addRepeat 114 = .ok (.aload_n 0, 1) := by decide +kernel
theorem d_RDR_addRepeat_115 : decode b_RDR_addRepeat 115 = .ok (.aload_n 0, 1) := by decide +kernel
theorem d_RDR_addRepeat_116 : decode b_RDR_addRepeat 116 = .ok (.getfield 80, 3) := by decide +kernel
theorem d_RDR_addRepeat_119 : decode b_RDR_addRepeat 119 = .ok (.getfield 286, 3) := by decide +kernel
theorem d_RDR_addRepeat_122 : decode b_RDR_addRepeat 122 = .ok (.putfield 25, 3) := by decide +kernel
theorem d_RDR_addRepeat_125 : decode b_RDR_addRepeat 125 = .ok (.return_, 1) := by decide +kernel
theorem d_RDR_readCharacter_0 : decode b_RDR_readCharacter 0 = .ok (.aload_n 0, 1) := by decide +kernel
theorem d_RDR_readCharacter_1 : decode b_RDR_readCharacter 1 = .ok (.getfield 36, 3) := by decide +kernel
theorem d_RDR_readCharacter_4 : decode b_RDR_readCharacter 4 = .ok (.aload_n 0, 1) := by decide +kernel
theorem d_RDR_readCharacter_5 : decode b_RDR_readCharacter 5 = .ok (.getfield 25, 3) := by decide +kernel
theorem d_RDR_readCharacter_8 : decode b_RDR_readCharacter 8 = .ok (.invokevirtual 287, 3) := by decide +kernel
theorem d_RDR_readCharacter_11 : decode b_RDR_readCharacter 11 = .ok (.istore_n 1, 1) := by decide +kernel
theorem d_RDR_readCharacter_12 : decode b_RDR_readCharacter 12 = .ok (.iload_n 1, 1) := by decide +kernel
theorem d_RDR_readCharacter_13 : decode b_RDR_readCharacter 13 = .ok (.iconst (-1), 1) := by decide +kernel
theorem d_RDR_readCharacter_14 : decode b_RDR_readCharacter 14 = .ok (.if_icmp .ne 16, 3) := by decide +kernel
theorem d_RDR_readCharacter_17 : decode b_RDR_readCharacter 17 = .ok (.aload_n 0, 1) := by decide +kernel
theorem d_RDR_readCharacter_18 : decode b_RDR_readCharacter 18 = .ok (.getfield 40, 3) := by decide +kernel
theorem d_RDR_readCharacter_21 : decode b_RDR_readCharacter 21 = .ok (.iconst 1, 1) := by decide +kernel
theorem d_RDR_readCharacter_22 : decode b_RDR_readCharacter 22 = .ok (.aload_n 0, 1) := by decide +kernel
theorem d_RDR_readCharacter_23 : decode b_RDR_readCharacter 23 = .ok (.getfield 25, 3) := by decide +kernel
theorem d_RDR_readCharacter_26 : decode b_RDR_readCharacter 26 = .ok (.invokevirtual 113, 3) := by decide +kernel
theorem d_RDR_readCharacter_29 : decode b_RDR_readCharacter 29 = .ok (.return_, 1) := by decide +kernel
theorem d_RDR_readCharacter_30 : decode b_RDR_readCharacter 30 = .ok (.aload_n 0, 1) := by decide +kernel
theorem d_RDR_readCharacter_31 : decode b_RDR_readCharacter 31 = .ok (.iload_n 1, 1) := by decide +kernel
theorem d_RDR_readCharacter_32 : decode b_RDR_readCharacter 32 = .ok (.invokevirtual 244, 3) := by decide +kernel
theorem d_RDR_readCharacter_35 : decode b_RDR_readCharacter 35 = .ok (.aload_n 0, 1) := by decide +kernel
theorem d_RDR_readCharacter_36 : decode b_RDR_readCharacter 36 = .ok (.aload_n 0, 1) := by decide +kernel
theorem d_RDR_readCharacter_37 : decode b_RDR_readCharacter 37 = .ok (.getfield 25, 3) := by decide +kernel
theorem d_RDR_readCharacter_40 : decode b_RDR_readCharacter 40 = .ok (.iload_n 1, 1) := by decide +kernel
theorem d_RDR_readCharacter_41 : decode b_RDR_readCharacter 41 = .ok (.invokestatic 290, 3) := by decide +kernel
theorem d_RDR_readCharacter_44 : decode b_RDR_readCharacter 44 = .ok (.iadd, 1) := by decide +kernel
theorem d_RDR_readCharacter_45 : decode b_RDR_readCharacter 45 = .ok (.iconst 1, 1) := by decide +kernel
theorem d_RDR_readCharacter_46 : decode b_RDR_readCharacter 46 = .ok (.invokevirtual 191, 3) := by decide +kernel
theorem d_RDR_readCharacter_49 : decode b_RDR_readCharacter 49 = .ok (.return_, 1) := by decide +kernel
theorem d_RDR_readNext_0 : decode b_RDR_readNext 0 = .ok (.aload_n 0, 1) := by decide +kernel
theorem d_RDR_readNext_1 : decode b_RDR_readNext 1 = .ok (.getfield 36, 3) := by decide +kernel
theorem d_RDR_readNext_4 : decode b_RDR_readNext 4 = .ok (.aload_n 0, 1) := by decide +kernel
theorem d_RDR_readNext_5 : decode b_RDR_readNext 5 = .ok (.getfield 25, 3) := by decide +kernel
theorem d_RDR_readNext_8 : decode b_RDR_readNext 8 = .ok (.invokevirtual 120, 3) := by decide +kernel
theorem d_RDR_readNext_11 : decode b_RDR_readNext 11 = .ok (.lookupswitch 241 #[(36, 193), (40, 122), (41, 129), (42, 213), (43, 213), (46, 166), (63, 213), (91, 136), (92, 159), (94, 173), (123, 213), (124, 105)], 105) := by decide +kernel
theorem d_RDR_readNext_116 : decode b_RDR_readNext 116 = .ok (.aload_n 0, 1) := by decide +kernel
theorem d_RDR_readNext_117 : decode b_RDR_readNext 117 = .ok (.invokevirtual 124, 3) := by decide +kernel
theorem d_RDR_readNext_120 : decode b_RDR_readNext 120 = .ok (.aload_n 0, 1) := by decide +kernel
theorem d_RDR_readNext_121 : decode b_RDR_readNext 121 = .ok (.dup, 1) := by decide +kernel
theorem d_RDR_readNext_122 : decode b_RDR_readNext 122 = .ok (.getfield 25, 3) := by decide +kernel
theorem d_RDR_readNext_125 : decode b_RDR_readNext 125 = .ok (.iconst 1, 1) := by decide +kernel
theorem d_RDR_readNext_126 : decode b_RDR_readNext 126 = .ok (.iadd, 1) := by decide +kernel
theorem d_RDR_readNext_127 : decode b_RDR_readNext 127 = .ok (.putfield 25, 3) := by decide +kernel
theorem d_RDR_readNext_130 : decode b_RDR_readNext 130 = .ok (.goto 126, 3) := by decide +kernel
theorem d_RDR_readNext_133 : decode b_RDR_readNext 133 = .ok (.aload_n 0, 1) := by decide +kernel
theorem d_RDR_readNext_134 : decode b_RDR_readNext 134 = .ok (.invokevirtual 127, 3) := by decide +kernel
theorem d_RDR_readNext_137 : decode b_RDR_readNext 137 = .ok (.goto 119, 3) := by decide +kernel
theorem d_RDR_readNext_140 : decode b_RDR_readNext 140 = .ok (.aload_n 0, 1) := by decide +kernel
theorem d_RDR_readNext_141 : decode b_RDR_readNext 141 = .ok (.invokevirtual 130, 3) := by decide +kernel
theorem d_RDR_readNext_144 : decode b_RDR_readNext 144 = .ok (.goto 112, 3) := by decide +kernel
theorem d_RDR_readNext_147 : decode b_RDR_readNext 147 = .ok (.aload_n 0, 1) := by decide +kernel
theorem d_RDR_readNext_148 : decode b_RDR_readNext 148 = .ok (.aload_n 0, 1) := by decide +kernel
theorem d_RDR_readNext_149 : decode b_RDR_readNext 149 = .ok (.getfield 66, 3) := by decide +kernel
theorem d_RDR_readNext_152 : decode b_RDR_readNext 152 = .ok (.aload_n 0, 1) := by decide +kernel
theorem d_RDR_readNext_153 : decode b_RDR_readNext 153 = .ok (.getfield 25, 3) := by decide +kernel
theorem d_RDR_readNext_156 : decode b_RDR_readNext 156 = .ok (.aload_n 0, 1) := by decide +kernel
theorem d_RDR_readNext_157 : decode b_RDR_readNext 157 = .ok (.iconst 1, 1) := by decide +kernel
theorem d_RDR_readNext_158 : decode b_RDR_readNext 158 = .ok (.invokevirtual 133, 3) := by decide +kernel
theorem d_RDR_readNext_161 : decode b_RDR_readNext 161 = .ok (.invokevirtual 137, 3) := by decide +kernel
theorem d_RDR_readNext_164 : decode b_RDR_readNext 164 = .ok (.invokevirtual 141, 3) := by decide +kernel
theorem d_RDR_readNext_167 : decode b_RDR_readNext 167 = .ok (.goto 89, 3) := by decide +kernel
theorem d_RDR_readNext_170 : decode b_RDR_readNext 170 = .ok (.aload_n 0, 1) := by decide +kernel
theorem d_RDR_readNext_171 : decode b_RDR_readNext 171 = .ok (.invokevirtual 145, 3) := by decide +kernel
theorem d_RDR_readNext_174 : decode b_RDR_readNext 174 = .ok (.goto 82, 3) := by decide +kernel
theorem d_RDR_readNext_177 : decode b_RDR_readNext 177 = .ok (.aload_n 0, 1) := by decide +kernel
theorem d_RDR_readNext_178 : decode b_RDR_readNext 178 = .ok (.invokevirtual 148, 3) := by decide +kernel
theorem d_RDR_readNext_181 : decode b_RDR_readNext 181 = .ok (.goto 75, 3) := by decide +kernel
theorem d_RDR_readNext_184 : decode b_RDR_readNext 184 = .ok (.aload_n 0, 1) := by decide +kernel
theorem d_RDR_readNext_185 : decode b_RDR_readNext 185 = .ok (.aload_n 0, 1) := by decide +kernel
theorem d_RDR_readNext_186 : decode b_RDR_readNext 186 = .ok (.iconst 2, 1) := by decide +kernel
theorem d_RDR_readNext_187 : decode b_RDR_readNext 187 = .ok (.invokevirtual 133, 3) := by decide +kernel
theorem d_RDR_readNext_190 : decode b_RDR_readNext 190 = .ok (.ifCond .eq 7, 3) := by decide +kernel
theorem d_RDR_readNext_193 : decode b_RDR_readNext 193 = .ok (.iconst 2, 1) := by decide +kernel
theorem d_RDR_readNext_194 : decode b_RDR_readNext 194 = .ok (.goto 4, 3) := by decide +kernel
theorem d_RDR_readNext_197 : decode b_RDR_readNext 197 = .ok (.iconst 0, 1) := by decide +kernel
theorem d_RDR_readNext_198 : decode b_RDR_readNext 198 = .ok (.invokevirtual 151, 3) := by decide +kernel
theorem d_RDR_readNext_201 : decode b_RDR_readNext 201 = .ok (.goto 55, 3) := by decide +kernel
theorem d_RDR_readNext_204 : decode b_RDR_readNext 204 = .ok (.aload_n 0, 1) := by decide +kernel
theorem d_RDR_readNext_205 : decode b_RDR_readNext 205 = .ok (.aload_n 0, 1) := by decide +kernel
theorem d_RDR_readNext_206 : decode b_RDR_readNext 206 = .ok (.iconst 2, 1) := by decide +kernel
theorem d_RDR_readNext_207 : decode b_RDR_readNext 207 = .ok (.invokevirtual 133, 3) := by decide +kernel
theorem d_RDR_readNext_210 : decode b_RDR_readNext 210 = .ok (.ifCond .eq 7, 3) := by decide +kernel
theorem d_RDR_readNext_213 : decode b_RDR_readNext 213 = .ok (.iconst 3, 1) := by decide +kernel
theorem d_RDR_readNext_214 : decode b_RDR_readNext 214 = .ok (.goto 4, 3) := by decide +kernel
theorem d_RDR_readNext_217 : decode b_RDR_readNext 217 = .ok (.iconst 1, 1) := by decide +kernel
theorem d_RDR_readNext_218 : decode b_RDR_readNext 218 = .ok (.invokevirtual 151, 3) := by decide +kernel
theorem d_RDR_readNext_221 : decode b_RDR_readNext 221 = .ok (.goto 35, 3) := by decide +kernel
theorem d_RDR_readNext_224 : decode b_RDR_readNext 224 = .ok (.aload_n 0, 1) := by decide +kernel
theorem d_RDR_readNext_225 : decode b_RDR_readNext 225 = .ok (.getfield 80, 3) := by decide +kernel
theorem d_RDR_readNext_228 : decode b_RDR_readNext 228 = .ok (.aload_n 0, 1) := by decide +kernel
theorem d_RDR_readNext_229 : decode b_RDR_readNext 229 = .ok (.getfield 25, 3) := by decide +kernel
theorem d_RDR_readNext_232 : decode b_RDR_readNext 232 = .ok (.invokevirtual 154, 3) := by decide +kernel
theorem d_RDR_readNext_235 : decode b_RDR_readNext 235 = .ok (.ifCond .eq 10, 3) := by decide +kernel
theorem d_RDR_readNext_238 : decode b_RDR_readNext 238 = .ok (.aload_n 0, 1) := by decide +kernel
theorem d_RDR_readNext_239 : decode b_RDR_readNext 239 = .ok (.invokevirtual 157, 3) := by decide +kernel
theorem d_RDR_readNext_242 : decode b_RDR_readNext 242 = .ok (.goto 14, 3) := by decide +kernel
theorem d_RDR_readNext_245 : decode b_RDR_readNext 245 = .ok (.aload_n 0, 1) := by decide +kernel
theorem d_RDR_readNext_246 : decode b_RDR_readNext 246 = .ok (.invokevirtual 160, 3) := by decide +kernel
theorem d_RDR_readNext_249 : decode b_RDR_readNext 249 = .ok (.goto 7, 3) := by decide +kernel
theorem d_RDR_readNext_252 : decode b_RDR_readNext 252 = .ok (.aload_n 0, 1) := by decide +kernel
theorem d_RDR_readNext_253 : decode b_RDR_readNext 253 = .ok (.invokevirtual 160, 3) := by decide +kernel
theorem d_RDR_readNext_256 : decode b_RDR_readNext 256 = .ok (.return_, 1) := by decide +kernel
theorem d_RDR_end_0 : decode b_RDR_end 0 = .ok (.aload_n 0, 1) := by decide +kernel
theorem d_RDR_end_1 : decode b_RDR_end 1 = .ok (.getfield 12, 3) := by decide +kernel
theorem d_RDR_end_4 : decode b_RDR_end 4 = .ok (.getfield 106, 3) := by decide +kernel
theorem d_RDR_end_7 : decode b_RDR_end 7 = .ok (.ifCond .le 26, 3) := by decide +kernel
theorem d_RDR_end_10 : decode b_RDR_end 10 = .ok (.aload_n 0, 1) := by decide +kernel
theorem d_RDR_end_11 : decode b_RDR_end 11 = .ok (.getfield 40, 3) := by decide +kernel
theorem d_RDR_end_14 : decode b_RDR_end 14 = .ok (.iconst 2, 1) := by decide +kernel
theorem d_RDR_end_15 : decode b_RDR_end 15 = .ok (.aload_n 0, 1) := by decide +kernel
theorem d_RDR_end_16 : decode b_RDR_end 16 = .ok (.getfield 12, 3) := by decide +kernel
theorem d_RDR_end_19 : decode b_RDR_end 19 = .ok (.getfield 109, 3) := by decide +kernel
theorem d_RDR_end_22 : decode b_RDR_end 22 = .ok (.aload_n 0, 1) := by decide +kernel
theorem d_RDR_end_23 : decode b_RDR_end 23 = .ok (.getfield 12, 3) := by decide +kernel
theorem d_RDR_end_26 : decode b_RDR_end 26 = .ok (.getfield 106, 3) := by decide +kernel
theorem d_RDR_end_29 : decode b_RDR_end 29 = .ok (.iaload, 1) := by decide +kernel
theorem d_RDR_end_30 : decode b_RDR_end 30 = .ok (.invokevirtual 113, 3) := by decide +kernel
theorem d_RDR_end_33 : decode b_RDR_end 33 = .ok (.aload_n 0, 1) := by decide +kernel
theorem d_RDR_end_34 : decode b_RDR_end 34 = .ok (.getfield 40, 3) := by decide +kernel
theorem d_RDR_end_37 : decode b_RDR_end 37 = .ok (.getfield 98, 3) := by decide +kernel
theorem d_RDR_end_40 : decode b_RDR_end 40 = .ok (.ifCond .ne 7, 3) := by decide +kernel
theorem d_RDR_end_43 : decode b_RDR_end 43 = .ok (.aload_n 0, 1) := by decide +kernel
theorem d_RDR_end_44 : decode b_RDR_end 44 = .ok (.invokevirtual 117, 3) := by decide +kernel
theorem d_RDR_end_47 : decode b_RDR_end 47 = .ok (.return_, 1) := by decide +kernel
theorem d_PAT_clear_0 : decode b_PAT_clear 0 = .ok (.aload_n 0, 1) := by decide +kernel
theorem d_PAT_clear_1 : decode b_PAT_clear 1 = .ok (.iconst 0, 1) := by decide +kernel
theorem d_PAT_clear_2 : decode b_PAT_clear 2 = .ok (.putfield 15, 3) := by decide +kernel
theorem d_PAT_clear_5 : decode b_PAT_clear 5 = .ok (.return_, 1) := by decide +kernel
theorem d_PN_read_0 : decode b_PN_read 0 = .ok (.iload_n 1, 1) := by decide +kernel
theorem d_PN_read_1 : decode b_PN_read 1 = .ok (.ifCond .lt 9, 3) := by decide +kernel
theorem d_PN_read_4 : decode b_PN_read 4 = .ok (.iload_n 1, 1) := by decide +kernel
theorem d_PN_read_5 : decode b_PN_read 5 = .ok (.bipush 15, 2) := by decide +kernel
theorem d_PN_read_7 : decode b_PN_read 7 = .ok (.if_icmp .le 13, 3) := by decide +kernel
theorem d_PN_read_10 : decode b_PN_read 10 = .ok (.new 50, 3) := by decide +kernel
theorem d_PN_read_13 : decode b_PN_read 13 = .ok (.dup, 1) := by decide +kernel
theorem d_PN_read_14 : decode b_PN_read 14 = .ok (.ldc 52, 2) := by decide +kernel
theorem d_PN_read_16 : decode b_PN_read 16 = .ok (.invokespecial 54, 3) := by decide +kernel
theorem d_PN_read_19 : decode b_PN_read 19 = .ok (.athrow, 1) := by decide +kernel
theorem d_PN_read_20 : decode b_PN_read 20 = .ok (.aload_n 0, 1) := by decide +kernel
theorem d_PN_read_21 : decode b_PN_read 21 = .ok (.getfield 42, 3) := by decide +kernel
theorem d_PN_read_24 : decode b_PN_read 24 = .ok (.iload_n 1, 1) := by decide +kernel
theorem d_PN_read_25 : decode b_PN_read 25 = .ok (.invokevirtual 57, 3) := by decide +kernel
theorem d_PN_read_28 : decode b_PN_read 28 = .ok (.iconst 0, 1) := by decide +kernel
theorem d_PN_read_29 : decode b_PN_read 29 = .ok (.istore_n 2, 1) := by decide +kernel
theorem d_PN_read_30 : decode b_PN_read 30 = .ok (.iload_n 2, 1) := by decide +kernel
theorem d_PN_read_31 : decode b_PN_read 31 = .ok (.sipush 400, 3) := by decide +kernel
theorem d_PN_read_34 : decode b_PN_read 34 = .ok (.if_icmp .ge 26, 3) := by decide +kernel
theorem d_PN_read_37 : decode b_PN_read 37 = .ok (.aload_n 0, 1) := by decide +kernel
theorem d_PN_read_38 : decode b_PN_read 38 = .ok (.getfield 42, 3) := by decide +kernel
theorem d_PN_read_41 : decode b_PN_read 41 = .ok (.invokevirtual 61, 3) := by decide +kernel
