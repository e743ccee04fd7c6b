theorem d_OPN_enter_15 : decode b_OPN_enter 15 = .ok (.iconst 1, 1) := by decide +kernel
theorem d_OPN_enter_16 : decode b_OPN_enter 16 = .ok (.iadd, 1) := by decide +kernel
theorem d_OPN_enter_17 : decode b_OPN_enter 17 = .ok (.putfield 27, 3) := by decide +kernel
theorem d_OPN_enter_20 : decode b_OPN_enter 20 = .ok (.aload_n 0, 1) := by decide +kernel
theorem d_OPN_enter_21 : decode b_OPN_enter 21 = .ok (.getfield 9, 3) := by decide +kernel
theorem d_OPN_enter_24 : decode b_OPN_enter 24 = .ok (.aload_n 0, 1) := by decide +kernel
theorem d_OPN_enter_25 : decode b_OPN_enter 25 = .ok (.getfield 27, 3) := by decide +kernel
theorem d_OPN_enter_28 : decode b_OPN_enter 28 = .ok (.iload_n 1, 1) := by decide +kernel
theorem d_OPN_enter_29 : decode b_OPN_enter 29 = .ok (.iastore, 1) := by decide +kernel
theorem d_OPN_enter_30 : decode b_OPN_enter 30 = .ok (.aload_n 0, 1) := by decide +kernel
theorem d_OPN_enter_31 : decode b_OPN_enter 31 = .ok (.getfield 15, 3) := by decide +kernel
theorem d_OPN_enter_34 : decode b_OPN_enter 34 = .ok (.aload_n 0, 1) := by decide +kernel
theorem d_OPN_enter_35 : decode b_OPN_enter 35 = .ok (.getfield 27, 3) := by decide +kernel
theorem d_OPN_enter_38 : decode b_OPN_enter 38 = .ok (.iload_n 2, 1) := by decide +kernel
theorem d_OPN_enter_39 : decode b_OPN_enter 39 = .ok (.iastore, 1) := by decide +kernel
theorem d_OPN_enter_40 : decode b_OPN_enter 40 = .ok (.aload_n 0, 1) := by decide +kernel
theorem d_OPN_enter_41 : decode b_OPN_enter 41 = .ok (.getfield 18, 3) := by decide +kernel
theorem d_OPN_enter_44 : decode b_OPN_enter 44 = .ok (.aload_n 0, 1) := by decide +kernel
theorem d_OPN_enter_45 : decode b_OPN_enter 45 = .ok (.getfield 27, 3) := by decide +kernel
theorem d_OPN_enter_48 : decode b_OPN_enter 48 = .ok (.iload_n 3, 1) := by decide +kernel
theorem d_OPN_enter_49 : decode b_OPN_enter 49 = .ok (.iastore, 1) := by decide +kernel
theorem d_OPN_enter_50 : decode b_OPN_enter 50 = .ok (.aload_n 0, 1) := by decide +kernel
theorem d_OPN_enter_51 : decode b_OPN_enter 51 = .ok (.getfield 21, 3) := by decide +kernel
theorem d_OPN_enter_54 : decode b_OPN_enter 54 = .ok (.aload_n 0, 1) := by decide +kernel
theorem d_OPN_enter_55 : decode b_OPN_enter 55 = .ok (.getfield 27, 3) := by decide +kernel
theorem d_OPN_enter_58 : decode b_OPN_enter 58 = .ok (.iconst 0, 1) := by decide +kernel
theorem d_OPN_enter_59 : decode b_OPN_enter 59 = .ok (.iastore, 1) := by decide +kernel
theorem d_OPN_enter_60 : decode b_OPN_enter 60 = .ok (.aload_n 0, 1) := by decide +kernel
theorem d_OPN_enter_61 : decode b_OPN_enter 61 = .ok (.getfield 24, 3) := by decide +kernel
theorem d_OPN_enter_64 : decode b_OPN_enter 64 = .ok (.aload_n 0, 1) := by decide +kernel
theorem d_OPN_enter_65 : decode b_OPN_enter 65 = .ok (.getfield 27, 3) := by decide +kernel
theorem d_OPN_enter_68 : decode b_OPN_enter 68 = .ok (.iconst 0, 1) := by decide +kernel
theorem d_OPN_enter_69 : decode b_OPN_enter 69 = .ok (.iastore, 1) := by decide +kernel
theorem d_OPN_enter_70 : decode b_OPN_enter 70 = .ok (.return_, 1) := by decide +kernel
theorem d_RDR_enterGroup_0 : decode b_RDR_enterGroup 0 = .ok (.iconst 0, 1) := by decide +kernel
theorem d_RDR_enterGroup_1 : decode b_RDR_enterGroup 1 = .ok (.istore_n 1, 1) := by decide +kernel
theorem d_RDR_enterGroup_2 : decode b_RDR_enterGroup 2 = .ok (.aload_n 0, 1) := by decide +kernel
theorem d_RDR_enterGroup_3 : decode b_RDR_enterGroup 3 = .ok (.getfield 73, 3) := by decide +kernel
theorem d_RDR_enterGroup_6 : decode b_RDR_enterGroup 6 = .ok (.getfield 205, 3) := by decide +kernel
theorem d_RDR_enterGroup_9 : decode b_RDR_enterGroup 9 = .ok (.ifCond .eq 29, 3) := by decide +kernel
theorem d_RDR_enterGroup_12 : decode b_RDR_enterGroup 12 = .ok (.aload_n 0, 1) := by decide +kernel
theorem d_RDR_enterGroup_13 : decode b_RDR_enterGroup 13 = .ok (.getfield 48, 3) := by decide +kernel
theorem d_RDR_enterGroup_16 : decode b_RDR_enterGroup 16 = .ok (.aload_n 0, 1) := by decide +kernel
theorem d_RDR_enterGroup_17 : decode b_RDR_enterGroup 17 = .ok (.getfield 36, 3) := by decide +kernel
theorem d_RDR_enterGroup_20 : decode b_RDR_enterGroup 20 = .ok (.aload_n 0, 1) := by decide +kernel
theorem d_RDR_enterGroup_21 : decode b_RDR_enterGroup 21 = .ok (.getfield 73, 3) := by decide +kernel
theorem d_RDR_enterGroup_24 : decode b_RDR_enterGroup 24 = .ok (.getfield 198, 3) := by decide +kernel
theorem d_RDR_enterGroup_27 : decode b_RDR_enterGroup 27 = .ok (.aload_n 0, 1) := by decide +kernel
theorem d_RDR_enterGroup_28 : decode b_RDR_enterGroup 28 = .ok (.getfield 73, 3) := by decide +kernel
theorem d_RDR_enterGroup_31 : decode b_RDR_enterGroup 31 = .ok (.getfield 195, 3) := by decide +kernel
theorem d_RDR_enterGroup_34 : decode b_RDR_enterGroup 34 = .ok (.invokevirtual 215, 3) := by decide +kernel
theorem d_RDR_enterGroup_37 : decode b_RDR_enterGroup 37 = .ok (.istore_n 1, 1) := by decide +kernel
theorem d_RDR_enterGroup_38 : decode b_RDR_enterGroup 38 = .ok (.aload_n 0, 1) := by decide +kernel
theorem d_RDR_enterGroup_39 : decode b_RDR_enterGroup 39 = .ok (.getfield 12, 3) := by decide +kernel
theorem d_RDR_enterGroup_42 : decode b_RDR_enterGroup 42 = .ok (.aload_n 0, 1) := by decide +kernel
theorem d_RDR_enterGroup_43 : decode b_RDR_enterGroup 43 = .ok (.getfield 25, 3) := by decide +kernel
theorem d_RDR_enterGroup_46 : decode b_RDR_enterGroup 46 = .ok (.iload_n 1, 1) := by decide +kernel
theorem d_RDR_enterGroup_47 : decode b_RDR_enterGroup 47 = .ok (.aload_n 0, 1) := by decide +kernel
theorem d_RDR_enterGroup_48 : decode b_RDR_enterGroup 48 = .ok (.getfield 29, 3) := by decide +kernel
theorem d_RDR_enterGroup_51 : decode b_RDR_enterGroup 51 = .ok (.invokevirtual 219, 3) := by decide +kernel
theorem d_RDR_enterGroup_54 : decode b_RDR_enterGroup 54 = .ok (.aload_n 0, 1) := by decide +kernel
theorem d_RDR_enterGroup_55 : decode b_RDR_enterGroup 55 = .ok (.aload_n 0, 1) := by decide +kernel
theorem d_RDR_enterGroup_56 : decode b_RDR_enterGroup 56 = .ok (.getfield 73, 3) := by decide +kernel
theorem d_RDR_enterGroup_59 : decode b_RDR_enterGroup 59 = .ok (.getfield 183, 3) := by decide +kernel
theorem d_RDR_enterGroup_62 : decode b_RDR_enterGroup 62 = .ok (.putfield 29, 3) := by decide +kernel
theorem d_RDR_enterGroup_65 : decode b_RDR_enterGroup 65 = .ok (.aload_n 0, 1) := by decide +kernel
theorem d_RDR_enterGroup_66 : decode b_RDR_enterGroup 66 = .ok (.iconst 0, 1) := by decide +kernel
theorem d_RDR_enterGroup_67 : decode b_RDR_enterGroup 67 = .ok (.putfield 32, 3) := by decide +kernel
theorem d_RDR_enterGroup_70 : decode b_RDR_enterGroup 70 = .ok (.aload_n 0, 1) := by decide +kernel
theorem d_RDR_enterGroup_71 : decode b_RDR_enterGroup 71 = .ok (.aload_n 0, 1) := by decide +kernel
theorem d_RDR_enterGroup_72 : decode b_RDR_enterGroup 72 = .ok (.getfield 73, 3) := by decide +kernel
theorem d_RDR_enterGroup_75 : decode b_RDR_enterGroup 75 = .ok (.getfield 188, 3) := by decide +kernel
theorem d_RDR_enterGroup_78 : decode b_RDR_enterGroup 78 = .ok (.putfield 25, 3) := by decide +kernel
theorem d_RDR_enterGroup_81 : decode b_RDR_enterGroup 81 = .ok (.return_, 1) := by decide +kernel
theorem d_RDR_openGroup_0 : decode b_RDR_openGroup 0 = .ok (.aload_n 0, 1) := by decide +kernel
theorem d_RDR_openGroup_1 : decode b_RDR_openGroup 1 = .ok (.getfield 73, 3) := by decide +kernel
theorem d_RDR_openGroup_4 : decode b_RDR_openGroup 4 = .ok (.aload_n 0, 1) := by decide +kernel
theorem d_RDR_openGroup_5 : decode b_RDR_openGroup 5 = .ok (.getfield 25, 3) := by decide +kernel
theorem d_RDR_openGroup_8 : decode b_RDR_openGroup 8 = .ok (.aload_n 0, 1) := by decide +kernel
theorem d_RDR_openGroup_9 : decode b_RDR_openGroup 9 = .ok (.getfield 29, 3) := by decide +kernel
theorem d_RDR_openGroup_12 : decode b_RDR_openGroup 12 = .ok (.invokevirtual 176, 3) := by decide +kernel
theorem d_RDR_openGroup_15 : decode b_RDR_openGroup 15 = .ok (.ifCond .ne 19, 3) := by decide +kernel
theorem d_RDR_openGroup_18 : decode b_RDR_openGroup 18 = .ok (.aload_n 0, 1) := by decide +kernel
theorem d_RDR_openGroup_19 : decode b_RDR_openGroup 19 = .ok (.getfield 40, 3) := by decide +kernel
theorem d_RDR_openGroup_22 : decode b_RDR_openGroup 22 = .ok (.bipush 10, 2) := by decide +kernel
theorem d_RDR_openGroup_24 : decode b_RDR_openGroup 24 = .ok (.aload_n 0, 1) := by decide +kernel
theorem d_RDR_openGroup_25 : decode b_RDR_openGroup 25 = .ok (.getfield 25, 3) := by decide +kernel
theorem d_RDR_openGroup_28 : decode b_RDR_openGroup 28 = .ok (.invokevirtual 113, 3) := by decide +kernel
theorem d_RDR_openGroup_31 : decode b_RDR_openGroup 31 = .ok (.goto 171, 3) := by decide +kernel
theorem d_RDR_openGroup_34 : decode b_RDR_openGroup 34 = .ok (.aload_n 0, 1) := by decide +kernel
theorem d_RDR_openGroup_35 : decode b_RDR_openGroup 35 = .ok (.getfield 73, 3) := by decide +kernel
theorem d_RDR_openGroup_38 : decode b_RDR_openGroup 38 = .ok (.getfield 180, 3) := by decide +kernel
theorem d_RDR_openGroup_41 : decode b_RDR_openGroup 41 = .ok (.ifCond .eq 39, 3) := by decide +kernel
theorem d_RDR_openGroup_44 : decode b_RDR_openGroup 44 = .ok (.aload_n 0, 1) := by decide +kernel
theorem d_RDR_openGroup_45 : decode b_RDR_openGroup 45 = .ok (.aload_n 0, 1) := by decide +kernel
theorem d_RDR_openGroup_46 : decode b_RDR_openGroup 46 = .ok (.getfield 73, 3) := by decide +kernel
theorem d_RDR_openGroup_49 : decode b_RDR_openGroup 49 = .ok (.getfield 183, 3) := by decide +kernel
theorem d_RDR_openGroup_52 : decode b_RDR_openGroup 52 = .ok (.putfield 29, 3) := by decide +kernel
theorem d_RDR_openGroup_55 : decode b_RDR_openGroup 55 = .ok (.aload_n 0, 1) := by decide +kernel
theorem d_RDR_openGroup_56 : decode b_RDR_openGroup 56 = .ok (.getfield 44, 3) := by decide +kernel
theorem d_RDR_openGroup_59 : decode b_RDR_openGroup 59 = .ok (.iconst 4, 1) := by decide +kernel
theorem d_RDR_openGroup_60 : decode b_RDR_openGroup 60 = .ok (.iconst 0, 1) := by decide +kernel
theorem d_RDR_openGroup_61 : decode b_RDR_openGroup 61 = .ok (.iconst 0, 1) := by decide +kernel
theorem d_RDR_openGroup_62 : decode b_RDR_openGroup 62 = .ok (.invokevirtual 184, 3) := by decide +kernel
theorem d_RDR_openGroup_65 : decode b_RDR_openGroup 65 = .ok (.aload_n 0, 1) := by decide +kernel
theorem d_RDR_openGroup_66 : decode b_RDR_openGroup 66 = .ok (.aload_n 0, 1) := by decide +kernel
theorem d_RDR_openGroup_67 : decode b_RDR_openGroup 67 = .ok (.getfield 73, 3) := by decide +kernel
theorem d_RDR_openGroup_70 : decode b_RDR_openGroup 70 = .ok (.getfield 188, 3) := by decide +kernel
theorem d_RDR_openGroup_73 : decode b_RDR_openGroup 73 = .ok (.iconst 0, 1) := by decide +kernel
theorem d_RDR_openGroup_74 : decode b_RDR_openGroup 74 = .ok (.invokevirtual 191, 3) := by decide +kernel
theorem d_RDR_openGroup_77 : decode b_RDR_openGroup 77 = .ok (.goto 125, 3) := by decide +kernel
theorem d_RDR_openGroup_80 : decode b_RDR_openGroup 80 = .ok (.aload_n 0, 1) := by decide +kernel
theorem d_RDR_openGroup_81 : decode b_RDR_openGroup 81 = .ok (.getfield 73, 3) := by decide +kernel
theorem d_RDR_openGroup_84 : decode b_RDR_openGroup 84 = .ok (.getfield 195, 3) := by decide +kernel
theorem d_RDR_openGroup_87 : decode b_RDR_openGroup 87 = .ok (.ifCond .le 47, 3) := by decide +kernel
theorem d_RDR_openGroup_90 : decode b_RDR_openGroup 90 = .ok (.aload_n 0, 1) := by decide +kernel
theorem d_RDR_openGroup_91 : decode b_RDR_openGroup 91 = .ok (.getfield 48, 3) := by decide +kernel
theorem d_RDR_openGroup_94 : decode b_RDR_openGroup 94 = .ok (.aload_n 0, 1) := by decide +kernel
theorem d_RDR_openGroup_95 : decode b_RDR_openGroup 95 = .ok (.getfield 36, 3) := by decide +kernel
theorem d_RDR_openGroup_98 : decode b_RDR_openGroup 98 = .ok (.aload_n 0, 1) := by decide +kernel
theorem d_RDR_openGroup_99 : decode b_RDR_openGroup 99 = .ok (.getfield 73, 3) := by decide +kernel
theorem d_RDR_openGroup_102 : decode b_RDR_openGroup 102 = .ok (.getfield 198, 3) := by decide +kernel
theorem d_RDR_openGroup_105 : decode b_RDR_openGroup 105 = .ok (.aload_n 0, 1) := by decide +kernel
theorem d_RDR_openGroup_106 : decode b_RDR_openGroup 106 = .ok (.getfield 73, 3) := by decide +kernel
theorem d_RDR_openGroup_109 : decode b_RDR_openGroup 109 = .ok (.getfield 195, 3) := by decide +kernel
theorem d_RDR_openGroup_112 : decode b_RDR_openGroup 112 = .ok (.invokevirtual 201, 3) := by decide +kernel
theorem d_RDR_openGroup_115 : decode b_RDR_openGroup 115 = .ok (.ifCond .eq 19, 3) := by decide +kernel
theorem d_RDR_openGroup_118 : decode b_RDR_openGroup 118 = .ok (.aload_n 0, 1) := by decide +kernel
theorem d_RDR_openGroup_119 : decode b_RDR_openGroup 119 = .ok (.getfield 40, 3) := by decide +kernel
theorem d_RDR_openGroup_122 : decode b_RDR_openGroup 122 = .ok (.bipush 11, 2) := by decide +kernel
theorem d_RDR_openGroup_124 : decode b_RDR_openGroup 124 = .ok (.aload_n 0, 1) := by decide +kernel
theorem d_RDR_openGroup_125 : decode b_RDR_openGroup 125 = .ok (.getfield 25, 3) := by decide +kernel
theorem d_RDR_openGroup_128 : decode b_RDR_openGroup 128 = .ok (.invokevirtual 113, 3) := by decide +kernel
theorem d_RDR_openGroup_131 : decode b_RDR_openGroup 131 = .ok (.goto 71, 3) := by decide +kernel
theorem d_RDR_openGroup_134 : decode b_RDR_openGroup 134 = .ok (.aload_n 0, 1) := by decide +kernel
theorem d_RDR_openGroup_135 : decode b_RDR_openGroup 135 = .ok (.getfield 12, 3) := by decide +kernel
theorem d_RDR_openGroup_138 : decode b_RDR_openGroup 138 = .ok (.getfield 106, 3) := by decide +kernel
theorem d_RDR_openGroup_141 : decode b_RDR_openGroup 141 = .ok (.bipush 30, 2) := by decide +kernel
theorem d_RDR_openGroup_143 : decode b_RDR_openGroup 143 = .ok (.if_icmp .lt 19, 3) := by decide +kernel
theorem d_RDR_openGroup_146 : decode b_RDR_openGroup 146 = .ok (.aload_n 0, 1) := by decide +kernel
theorem d_RDR_openGroup_147 : decode b_RDR_openGroup 147 = .ok (.getfield 40, 3) := by decide +kernel
theorem d_RDR_openGroup_150 : decode b_RDR_openGroup 150 = .ok (.bipush 12, 2) := by decide +kernel
theorem d_RDR_openGroup_152 : decode b_RDR_openGroup 152 = .ok (.aload_n 0, 1) := by decide +kernel
theorem d_RDR_openGroup_153 : decode b_RDR_openGroup 153 = .ok (.getfield 25, 3) := by decide +kernel
theorem d_RDR_openGroup_156 : decode b_RDR_openGroup 156 = .ok (.invokevirtual 113, 3) := by decide +kernel
theorem d_RDR_openGroup_159 : decode b_RDR_openGroup 159 = .ok (.goto 43, 3) := by decide +kernel
theorem d_RDR_openGroup_162 : decode b_RDR_openGroup 162 = .ok (.aload_n 0, 1) := by decide +kernel
theorem d_RDR_openGroup_163 : decode b_RDR_openGroup 163 = .ok (.getfield 73, 3) := by decide +kernel
theorem d_RDR_openGroup_166 : decode b_RDR_openGroup 166 = .ok (.getfield 205, 3) := by decide +kernel
theorem d_RDR_openGroup_169 : decode b_RDR_openGroup 169 = .ok (.ifCond .eq 29, 3) := by decide +kernel
theorem d_RDR_openGroup_172 : decode b_RDR_openGroup 172 = .ok (.aload_n 0, 1) := by decide +kernel
theorem d_RDR_openGroup_173 : decode b_RDR_openGroup 173 = .ok (.getfield 48, 3) := by decide +kernel
theorem d_RDR_openGroup_176 : decode b_RDR_openGroup 176 = .ok (.invokevirtual 208, 3) := by decide +kernel
theorem d_RDR_openGroup_179 : decode b_RDR_openGroup 179 = .ok (.ifCond .eq 19, 3) := by decide +kernel
theorem d_RDR_openGroup_182 : decode b_RDR_openGroup 182 = .ok (.aload_n 0, 1) := by decide +kernel
theorem d_RDR_openGroup_183 : decode b_RDR_openGroup 183 = .ok (.getfield 40, 3) := by decide +kernel
theorem d_RDR_openGroup_186 : decode b_RDR_openGroup 186 = .ok (.bipush 13, 2) := by decide +kernel
theorem d_RDR_openGroup_188 : decode b_RDR_openGroup 188 = .ok (.aload_n 0, 1) := by decide +kernel
theorem d_RDR_openGroup_189 : decode b_RDR_openGroup 189 = .ok (.getfield 25, 3) := by decide +kernel
theorem d_RDR_openGroup_192 : decode b_RDR_openGroup 192 = .ok (.invokevirtual 113, 3) := by decide +kernel
theorem d_RDR_openGroup_195 : decode b_RDR_openGroup 195 = .ok (.goto 7, 3) := by decide +kernel
theorem d_RDR_openGroup_198 : decode b_RDR_openGroup 198 = .ok (.aload_n 0, 1) := by decide +kernel
theorem d_RDR_openGroup_199 : decode b_RDR_openGroup 199 = .ok (.invokevirtual 212, 3) := by decide +kernel
theorem d_RDR_openGroup_202 : decode b_RDR_openGroup 202 = .ok (.return_, 1) := by decide +kernel
theorem d_RDR_endAlternatives_0 : decode b_RDR_endAlternatives 0 = .ok (.aload_n 0, 1) := by decide +kernel
theorem d_RDR_endAlternatives_1 : decode b_RDR_endAlternatives 1 = .ok (.invokevirtual 124, 3) := by decide +kernel
theorem d_RDR_endAlternatives_4 : decode b_RDR_endAlternatives 4 = .ok (.aload_n 0, 1) := by decide +kernel
theorem d_RDR_endAlternatives_5 : decode b_RDR_endAlternatives 5 = .ok (.getfield 12, 3) := by decide +kernel
theorem d_RDR_endAlternatives_8 : decode b_RDR_endAlternatives 8 = .ok (.getfield 173, 3) := by decide +kernel
theorem d_RDR_endAlternatives_11 : decode b_RDR_endAlternatives 11 = .ok (.aload_n 0, 1) := by decide +kernel
theorem d_RDR_endAlternatives_12 : decode b_RDR_endAlternatives 12 = .ok (.getfield 12, 3) := by decide +kernel
theorem d_RDR_endAlternatives_15 : decode b_RDR_endAlternatives 15 = .ok (.getfield 106, 3) := by decide +kernel
theorem d_RDR_endAlternatives_18 : decode b_RDR_endAlternatives 18 = .ok (.iaload, 1) := by decide +kernel
theorem d_RDR_endAlternatives_19 : decode b_RDR_endAlternatives 19 = .ok (.istore_n 1, 1) := by decide +kernel
theorem d_RDR_endAlternatives_20 : decode b_RDR_endAlternatives 20 = .ok (.iload_n 1, 1) := by decide +kernel
theorem d_RDR_endAlternatives_21 : decode b_RDR_endAlternatives 21 = .ok (.iconst 1, 1) := by decide +kernel
theorem d_RDR_endAlternatives_22 : decode b_RDR_endAlternatives 22 = .ok (.if_icmp .le 26, 3) := by decide +kernel
theorem d_RDR_endAlternatives_25 : decode b_RDR_endAlternatives 25 = .ok (.aload_n 0, 1) := by decide +kernel
theorem d_RDR_endAlternatives_26 : decode b_RDR_endAlternatives 26 = .ok (.getfield 44, 3) := by decide +kernel
theorem d_RDR_endAlternatives_29 : decode b_RDR_endAlternatives 29 = .ok (.iload_n 1, 1) := by decide +kernel
theorem d_RDR_endAlternatives_30 : decode b_RDR_endAlternatives 30 = .ok (.iconst 5, 1) := by decide +kernel
theorem d_RDR_endAlternatives_31 : decode b_RDR_endAlternatives 31 = .ok (.iload_n 1, 1) := by decide +kernel
theorem d_RDR_endAlternatives_32 : decode b_RDR_endAlternatives 32 = .ok (.iconst (-1), 1) := by decide +kernel
theorem d_RDR_endAlternatives_33 : decode b_RDR_endAlternatives 33 = .ok (.aload_n 0, 1) := by decide +kernel
theorem d_RDR_endAlternatives_34 : decode b_RDR_endAlternatives 34 = .ok (.getfield 44, 3) := by decide +kernel
theorem d_RDR_endAlternatives_37 : decode b_RDR_endAlternatives 37 = .ok (.iload_n 1, 1) := by decide +kernel
theorem d_RDR_endAlternatives_38 : decode b_RDR_endAlternatives 38 = .ok (.invokevirtual 166, 3) := by decide +kernel
theorem d_RDR_endAlternatives_41 : decode b_RDR_endAlternatives 41 = .ok (.iload_n 1, 1) := by decide +kernel
theorem d_RDR_endAlternatives_42 : decode b_RDR_endAlternatives 42 = .ok (.iadd, 1) := by decide +kernel
theorem d_RDR_endAlternatives_43 : decode b_RDR_endAlternatives 43 = .ok (.iconst 1, 1) := by decide +kernel
theorem d_RDR_endAlternatives_44 : decode b_RDR_endAlternatives 44 = .ok (.isub, 1) := by decide +kernel
theorem d_RDR_endAlternatives_45 : decode b_RDR_endAlternatives 45 = .ok (.invokevirtual 169, 3) := by decide +kernel
theorem d_RDR_endAlternatives_48 : decode b_RDR_endAlternatives 48 = .ok (.return_, 1) := by decide +kernel
theorem d_OPN_leave_0 : decode b_OPN_leave 0 = .ok (.aload_n 0, 1) := by decide +kernel
theorem d_OPN_leave_1 : decode b_OPN_leave 1 = .ok (.getfield 27, 3) := by decide +kernel
theorem d_OPN_leave_4 : decode b_OPN_leave 4 = .ok (.ifCond .le 13, 3) := by decide +kernel
theorem d_OPN_leave_7 : decode b_OPN_leave 7 = .ok (.aload_n 0, 1) := by decide +kernel
theorem d_OPN_leave_8 : decode b_OPN_leave 8 = .ok (.dup, 1) := by decide +kernel
theorem d_OPN_leave_9 : decode b_OPN_leave 9 = .ok (.getfield 27, 3) := by decide +kernel
theorem d_OPN_leave_12 : decode b_OPN_leave 12 = .ok (.iconst 1, 1) := by decide +kernel
theorem d_OPN_leave_13 : decode b_OPN_leave 13 = .ok (.isub, 1) := by decide +kernel
theorem d_OPN_leave_14 : decode b_OPN_leave 14 = .ok (.putfield 27, 3) := by decide +kernel
theorem d_OPN_leave_17 : decode b_OPN_leave 17 = .ok (.return_, 1) := by decide +kernel
theorem d_RDR_closeGroup_0 : decode b_RDR_closeGroup 0 = .ok (.aload_n 0, 1) := by decide +kernel
theorem d_RDR_closeGroup_1 : decode b_RDR_closeGroup 1 = .ok (.getfield 12, 3) := by decide +kernel
theorem d_RDR_closeGroup_4 : decode b_RDR_closeGroup 4 = .ok (.getfield 106, 3) := by decide +kernel
theorem d_RDR_closeGroup_7 : decode b_RDR_closeGroup 7 = .ok (.ifCond .ne 16, 3) := by decide +kernel
theorem d_RDR_closeGroup_10 : decode b_RDR_closeGroup 10 = .ok (.aload_n 0, 1) := by decide +kernel
theorem d_RDR_closeGroup_11 : decode b_RDR_closeGroup 11 = .ok (.getfield 40, 3) := by decide +kernel
theorem d_RDR_closeGroup_14 : decode b_RDR_closeGroup 14 = .ok (.iconst 3, 1) := by decide +kernel
theorem d_RDR_closeGroup_15 : decode b_RDR_closeGroup 15 = .ok (.aload_n 0, 1) := by decide +kernel
theorem d_RDR_closeGroup_16 : decode b_RDR_closeGroup 16 = .ok (.getfield 25, 3) := by decide +kernel
theorem d_RDR_closeGroup_19 : decode b_RDR_closeGroup 19 = .ok (.invokevirtual 113, 3) := by decide +kernel
theorem d_RDR_closeGroup_22 : decode b_RDR_closeGroup 22 = .ok (.return_, 1) := by decide +kernel
theorem d_RDR_closeGroup_23 : decode b_RDR_closeGroup 23 = .ok (.aload_n 0, 1) := by decide +kernel
theorem d_RDR_closeGroup_24 : decode b_RDR_closeGroup 24 = .ok (.invokevirtual 117, 3) := by decide +kernel
theorem d_RDR_closeGroup_27 : decode b_RDR_closeGroup 27 = .ok (.aload_n 0, 1) := by decide +kernel
theorem d_RDR_closeGroup_28 : decode b_RDR_closeGroup 28 = .ok (.getfield 12, 3) := by decide +kernel
theorem d_RDR_closeGroup_31 : decode b_RDR_closeGroup 31 = .ok (.getfield 222, 3) := by decide +kernel
theorem d_RDR_closeGroup_34 : decode b_RDR_closeGroup 34 = .ok (.aload_n 0, 1) := by decide +kernel
theorem d_RDR_closeGroup_35 : decode b_RDR_closeGroup 35 = .ok (.getfield 12, 3) := by decide +kernel
theorem d_RDR_closeGroup_38 : decode b_RDR_closeGroup 38 = .ok (.getfield 106, 3) := by decide +kernel
theorem d_RDR_closeGroup_41 : decode b_RDR_closeGroup 41 = .ok (.iaload, 1) := by decide +kernel
theorem d_RDR_closeGroup_42 : decode b_RDR_closeGroup 42 = .ok (.istore_n 1, 1) := by decide +kernel
theorem d_RDR_closeGroup_43 : decode b_RDR_closeGroup 43 = .ok (.aload_n 0, 1) := by decide +kernel
theorem d_RDR_closeGroup_44 : decode b_RDR_closeGroup 44 = .ok (.getfield 44, 3) := by decide +kernel
theorem d_RDR_closeGroup_47 : decode b_RDR_closeGroup 47 = .ok (.iconst 1, 1) := by decide +kernel
theorem d_RDR_closeGroup_48 : decode b_RDR_closeGroup 48 = .ok (.invokevirtual 166, 3) := by decide +kernel
theorem d_RDR_closeGroup_51 : decode b_RDR_closeGroup 51 = .ok (.iload_n 1, 1) := by decide +kernel
theorem d_RDR_closeGroup_52 : decode b_RDR_closeGroup 52 = .ok (.ifCond .le 7, 3) := by decide +kernel
theorem d_RDR_closeGroup_55 : decode b_RDR_closeGroup 55 = .ok (.iconst 2, 1) := by decide +kernel
theorem d_RDR_closeGroup_56 : decode b_RDR_closeGroup 56 = .ok (.goto 4, 3) := by decide +kernel
theorem d_RDR_closeGroup_59 : decode b_RDR_closeGroup 59 = .ok (.iconst 0, 1) := by decide +kernel
theorem d_RDR_closeGroup_60 : decode b_RDR_closeGroup 60 = .ok (.iadd, 1) := by decide +kernel
theorem d_RDR_closeGroup_61 : decode b_RDR_closeGroup 61 = .ok (.istore_n 2, 1) := by decide +kernel
theorem d_RDR_closeGroup_62 : decode b_RDR_closeGroup 62 = .ok (.aload_n 0, 1) := by decide +kernel
theorem d_RDR_closeGroup_63 : decode b_RDR_closeGroup 63 = .ok (.getfield 44, 3) := by decide +kernel
theorem d_RDR_closeGroup_66 : decode b_RDR_closeGroup 66 = .ok (.iconst 1, 1) := by decide +kernel
theorem d_RDR_closeGroup_67 : decode b_RDR_closeGroup 67 = .ok (.bipush 6, 2) := by decide +kernel
theorem d_RDR_closeGroup_69 : decode b_RDR_closeGroup 69 = .ok (.iload_n 1, 1) := by decide +kernel
theorem d_RDR_closeGroup_70 : decode b_RDR_closeGroup 70 = .ok (.iconst (-1), 1) := by decide +kernel
theorem d_RDR_closeGroup_71 : decode b_RDR_closeGroup 71 = .ok (.iload_n 2, 1) := by decide +kernel
theorem d_RDR_closeGroup_72 : decode b_RDR_closeGroup 72 = .ok (.invokevirtual 169, 3) := by decide +kernel
theorem d_RDR_closeGroup_75 : decode b_RDR_closeGroup 75 = .ok (.aload_n 0, 1) := by decide +kernel
theorem d_RDR_closeGroup_76 : decode b_RDR_closeGroup 76 = .ok (.aload_n 0, 1) := by decide +kernel
theorem d_RDR_closeGroup_77 : decode b_RDR_closeGroup 77 = .ok (.getfield 12, 3) := by decide +kernel
theorem d_RDR_closeGroup_80 : decode b_RDR_closeGroup 80 = .ok (.getfield 225, 3) := by decide +kernel
theorem d_RDR_closeGroup_83 : decode b_RDR_closeGroup 83 = .ok (.aload_n 0, 1) := by decide +kernel
theorem d_RDR_closeGroup_84 : decode b_RDR_closeGroup 84 = .ok (.getfield 12, 3) := by decide +kernel
theorem d_RDR_closeGroup_87 : decode b_RDR_closeGroup 87 = .ok (.getfield 106, 3) := by decide +kernel
theorem d_RDR_closeGroup_90 : decode b_RDR_closeGroup 90 = .ok (.iaload, 1) := by decide +kernel
theorem d_RDR_closeGroup_91 : decode b_RDR_closeGroup 91 = .ok (.putfield 29, 3) := by decide +kernel
theorem d_RDR_closeGroup_94 : decode b_RDR_closeGroup 94 = .ok (.aload_n 0, 1) := by decide +kernel
theorem d_RDR_closeGroup_95 : decode b_RDR_closeGroup 95 = .ok (.getfield 12, 3) := by decide +kernel
theorem d_RDR_closeGroup_98 : decode b_RDR_closeGroup 98 = .ok (.invokevirtual 228, 3) := by decide +kernel
theorem d_RDR_closeGroup_101 : decode b_RDR_closeGroup 101 = .ok (.aload_n 0, 1) := by decide +kernel
theorem d_RDR_closeGroup_102 : decode b_RDR_closeGroup 102 = .ok (.aload_n 0, 1) := by decide +kernel
theorem d_RDR_closeGroup_103 : decode b_RDR_closeGroup 103 = .ok (.getfield 25, 3) := by decide +kernel
theorem d_RDR_closeGroup_106 : decode b_RDR_closeGroup 106 = .ok (.iconst 1, 1) := by decide +kernel
theorem d_RDR_closeGroup_107 : decode b_RDR_closeGroup 107 = .ok (.iadd, 1) := by decide +kernel
theorem d_RDR_closeGroup_108 : decode b_RDR_closeGroup 108 = .ok (.iconst 1, 1) := by decide +kernel
theorem d_RDR_closeGroup_109 : decode b_RDR_closeGroup 109 = .ok (.invokevirtual 191, 3) := by decide +kernel
theorem d_RDR_closeGroup_112 : decode b_RDR_closeGroup 112 = .ok (.return_, 1) := by decide +kernel
theorem d_RDR_isOn_0 : decode b_RDR_isOn 0 = .ok (.aload_n 0, 1) := by decide +kernel
theorem d_RDR_isOn_1 : decode b_RDR_isOn 1 = .ok (.getfield 29, 3) := by decide +kernel
theorem d_RDR_isOn_4 : decode b_RDR_isOn 4 = .ok (.iload_n 1, 1) := by decide +kernel
theorem d_RDR_isOn_5 : decode b_RDR_isOn 5 = .ok (.iand, 1) := by decide +kernel
theorem d_RDR_isOn_6 : decode b_RDR_isOn 6 = .ok (.ifCond .eq 7, 3) := by decide +kernel
theorem d_RDR_isOn_9 : decode b_RDR_isOn 9 = .ok (.iconst 1, 1) := by decide +kernel
theorem d_RDR_isOn_10 : decode b_RDR_isOn 10 = .ok (.goto 4, 3) := by decide +kernel
theorem d_RDR_isOn_13 : decode b_RDR_isOn 13 = .ok (.iconst 0, 1) := by decide +kernel
theorem d_RDR_isOn_14 : decode b_RDR_isOn 14 = .ok (.ireturn, 1) := by decide +kernel
theorem d_SET_clear_0 : decode b_SET_clear 0 = .ok (.aload_n 0, 1) := by decide +kernel
theorem d_SET_clear_1 : decode b_SET_clear 1 = .ok (.iconst 0, 1) := by decide +kernel
theorem d_SET_clear_2 : decode b_SET_clear 2 = .ok (.putfield 18, 3) := by decide +kernel
theorem d_SET_clear_5 : decode b_SET_clear 5 = .ok (.return_, 1) := by decide +kernel
theorem d_SET_turnRound_0 : decode b_SET_turnRound 0 = .ok (.iconst 0, 1) := by decide +kernel
theorem d_SET_turnRound_1 : decode b_SET_turnRound 1 = .ok (.istore_n 1, 1) := by decide +kernel
theorem d_SET_turnRound_2 : decode b_SET_turnRound 2 = .ok (.iconst 0, 1) := by decide +kernel
theorem d_SET_turnRound_3 : decode b_SET_turnRound 3 = .ok (.istore_n 2, 1) := by decide +kernel
theorem d_SET_turnRound_4 : decode b_SET_turnRound 4 = .ok (.iconst 0, 1) := by decide +kernel
theorem d_SET_turnRound_5 : decode b_SET_turnRound 5 = .ok (.istore_n 3, 1) := by decide +kernel
theorem d_SET_turnRound_6 : decode b_SET_turnRound 6 = .ok (.iload_n 3, 1) := by decide +kernel
theorem d_SET_turnRound_7 : decode b_SET_turnRound 7 = .ok (.aload_n 0, 1) := by decide +kernel
theorem d_SET_turnRound_8 : decode b_SET_turnRound 8 = .ok (.getfield 18, 3) := by decide +kernel
theorem d_SET_turnRound_11 : decode b_SET_turnRound 11 = .ok (.if_icmp .ge 56, 3) := by decide +kernel
theorem d_SET_turnRound_14 : decode b_SET_turnRound 14 = .ok (.aload_n 0, 1) := by decide +kernel
theorem d_SET_turnRound_15 : decode b_SET_turnRound 15 = .ok (.getfield 11, 3) := by decide +kernel
theorem d_SET_turnRound_18 : decode b_SET_turnRound 18 = .ok (.iload_n 3, 1) := by decide +kernel
theorem d_SET_turnRound_19 : decode b_SET_turnRound 19 = .ok (.iaload, 1) := by decide +kernel
theorem d_SET_turnRound_20 : decode b_SET_turnRound 20 = .ok (.istore 4, 2) := by decide +kernel
theorem d_SET_turnRound_22 : decode b_SET_turnRound 22 = .ok (.aload_n 0, 1) := by decide +kernel
theorem d_SET_turnRound_23 : decode b_SET_turnRound 23 = .ok (.getfield 15, 3) := by decide +kernel
theorem d_SET_turnRound_26 : decode b_SET_turnRound 26 = .ok (.iload_n 3, 1) := by decide +kernel
theorem d_SET_turnRound_27 : decode b_SET_turnRound 27 = .ok (.iaload, 1) := by decide +kernel
theorem d_SET_turnRound_28 : decode b_SET_turnRound 28 = .ok (.istore 5, 2) := by decide +kernel
theorem d_SET_turnRound_30 : decode b_SET_turnRound 30 = .ok (.iload_n 1, 1) := by decide +kernel
theorem d_SET_turnRound_31 : decode b_SET_turnRound 31 = .ok (.iload 4, 2) := by decide +kernel
theorem d_SET_turnRound_33 : decode b_SET_turnRound 33 = .ok (.if_icmp .ge 23, 3) := by decide +kernel
theorem d_SET_turnRound_36 : decode b_SET_turnRound 36 = .ok (.aload_n 0, 1) := by decide +kernel
theorem d_SET_turnRound_37 : decode b_SET_turnRound 37 = .ok (.getfield 11, 3) := by decide +kernel
theorem d_SET_turnRound_40 : decode b_SET_turnRound 40 = .ok (.iload_n 2, 1) := by decide +kernel
theorem d_SET_turnRound_41 : decode b_SET_turnRound 41 = .ok (.iload_n 1, 1) := by decide +kernel
theorem d_SET_turnRound_42 : decode b_SET_turnRound 42 = .ok (.iastore, 1) := by decide +kernel
theorem d_SET_turnRound_43 : decode b_SET_turnRound 43 = .ok (.aload_n 0, 1) := by decide +kernel
theorem d_SET_turnRound_44 : decode b_SET_turnRound 44 = .ok (.getfield 15, 3) := by decide +kernel
theorem d_SET_turnRound_47 : decode b_SET_turnRound 47 = .ok (.iload_n 2, 1) := by decide +kernel
theorem d_SET_turnRound_48 : decode b_SET_turnRound 48 = .ok (.iload 4, 2) := by decide +kernel
theorem d_SET_turnRound_50 : decode b_SET_turnRound 50 = .ok (.iconst 1, 1) := by decide +kernel
theorem d_SET_turnRound_51 : decode b_SET_turnRound 51 = .ok (.isub, 1) := by decide +kernel
theorem d_SET_turnRound_52 : decode b_SET_turnRound 52 = .ok (.iastore, 1) := by decide +kernel
theorem d_SET_turnRound_53 : decode b_SET_turnRound 53 = .ok (.iinc 2 1, 3) := by decide +kernel
theorem d_SET_turnRound_56 : decode b_SET_turnRound 56 = .ok (.iload 5, 2) := by decide +kernel
theorem d_SET_turnRound_58 : decode b_SET_turnRound 58 = .ok (.iconst 1, 1) := by decide +kernel
theorem d_SET_turnRound_59 : decode b_SET_turnRound 59 = .ok (.iadd, 1) := by decide +kernel
theorem d_SET_turnRound_60 : decode b_SET_turnRound 60 = .ok (.istore_n 1, 1) := by decide +kernel
theorem d_SET_turnRound_61 : decode b_SET_turnRound 61 = .ok (.iinc 3 1, 3) := by decide +kernel
theorem d_SET_turnRound_64 : decode b_SET_turnRound 64 = .ok (.goto (-58), 3) := by decide +kernel
theorem d_SET_turnRound_67 : decode b_SET_turnRound 67 = .ok (.iload_n 1, 1) := by decide +kernel
theorem d_SET_turnRound_68 : decode b_SET_turnRound 68 = .ok (.ldc 51, 2) := by decide +kernel
theorem d_SET_turnRound_70 : decode b_SET_turnRound 70 = .ok (.if_icmp .gt 28, 3) := by decide +kernel
theorem d_SET_turnRound_73 : decode b_SET_turnRound 73 = .ok (.iload_n 2, 1) := by decide +kernel
theorem d_SET_turnRound_74 : decode b_SET_turnRound 74 = .ok (.sipush 1024, 3) := by decide +kernel
theorem d_SET_turnRound_77 : decode b_SET_turnRound 77 = .ok (.if_icmp .ge 21, 3) := by decide +kernel
theorem d_SET_turnRound_80 : decode b_SET_turnRound 80 = .ok (.aload_n 0, 1) := by decide +kernel
theorem d_SET_turnRound_81 : decode b_SET_turnRound 81 = .ok (.getfield 11, 3) := by decide +kernel
theorem d_SET_turnRound_84 : decode b_SET_turnRound 84 = .ok (.iload_n 2, 1) := by decide +kernel
theorem d_SET_turnRound_85 : decode b_SET_turnRound 85 = .ok (.iload_n 1, 1) := by decide +kernel
theorem d_SET_turnRound_86 : decode b_SET_turnRound 86 = .ok (.iastore, 1) := by decide +kernel
theorem d_SET_turnRound_87 : decode b_SET_turnRound 87 = .ok (.aload_n 0, 1) := by decide +kernel
theorem d_SET_turnRound_88 : decode b_SET_turnRound 88 = .ok (.getfield 15, 3) := by decide +kernel
theorem d_SET_turnRound_91 : decode b_SET_turnRound 91 = .ok (.iload_n 2, 1) := by decide +kernel
theorem d_SET_turnRound_92 : decode b_SET_turnRound 92 = .ok (.ldc 51, 2) := by decide +kernel
theorem d_SET_turnRound_94 : decode b_SET_turnRound 94 = .ok (.iastore, 1) := by decide +kernel
theorem d_SET_turnRound_95 : decode b_SET_turnRound 95 = .ok (.iinc 2 1, 3) := by decide +kernel
theorem d_SET_turnRound_98 : decode b_SET_turnRound 98 = .ok (.aload_n 0, 1) := by decide +kernel
theorem d_SET_turnRound_99 : decode b_SET_turnRound 99 = .ok (.iload_n 2, 1) := by decide +kernel
theorem d_SET_turnRound_100 : decode b_SET_turnRound 100 = .ok (.putfield 18, 3) := by decide +kernel
theorem d_SET_turnRound_103 : decode b_SET_turnRound 103 = .ok (.return_, 1) := by decide +kernel
theorem d_SET_add_0 : decode b_SET_add 0 = .ok (.iload_n 1, 1) := by decide +kernel
theorem d_SET_add_1 : decode b_SET_add 1 = .ok (.iload_n 2, 1) := by decide +kernel
theorem d_SET_add_2 : decode b_SET_add 2 = .ok (.if_icmp .le 4, 3) := by decide +kernel
theorem d_SET_add_5 : decode b_SET_add 5 = .ok (.return_, 1) := by decide +kernel
theorem d_SET_add_6 : decode b_SET_add 6 = .ok (.iconst 0, 1) := by decide +kernel
theorem d_SET_add_7 : decode b_SET_add 7 = .ok (.istore_n 3, 1) := by decide +kernel
theorem d_SET_add_8 : decode b_SET_add 8 = .ok (.iload_n 3, 1) := by decide +kernel
theorem d_SET_add_9 : decode b_SET_add 9 = .ok (.aload_n 0, 1) := by decide +kernel
theorem d_SET_add_10 : decode b_SET_add 10 = .ok (.getfield 18, 3) := by decide +kernel
theorem d_SET_add_13 : decode b_SET_add 13 = .ok (.if_icmp .ge 21, 3) := by decide +kernel
theorem d_SET_add_16 : decode b_SET_add 16 = .ok (.aload_n 0, 1) := by decide +kernel
theorem d_SET_add_17 : decode b_SET_add 17 = .ok (.getfield 15, 3) := by decide +kernel
theorem d_SET_add_20 : decode b_SET_add 20 = .ok (.iload_n 3, 1) := by decide +kernel
theorem d_SET_add_21 : decode b_SET_add 21 = .ok (.iaload, 1) := by decide +kernel
theorem d_SET_add_22 : decode b_SET_add 22 = .ok (.iload_n 1, 1) := by decide +kernel
theorem d_SET_add_23 : decode b_SET_add 23 = .ok (.iconst 1, 1) := by decide +kernel
theorem d_SET_add_24 : decode b_SET_add 24 = .ok (.isub, 1) := by decide +kernel
theorem d_SET_add_25 : decode b_SET_add 25 = .ok (.if_icmp .ge 9, 3) := by decide +kernel
theorem d_SET_add_28 : decode b_SET_add 28 = .ok (.iinc 3 1, 3) := by decide +kernel
theorem d_SET_add_31 : decode b_SET_add 31 = .ok (.goto (-23), 3) := by decide +kernel
theorem d_SET_add_34 : decode b_SET_add 34 = .ok (.iload_n 3, 1) := by decide +kernel
theorem d_SET_add_35 : decode b_SET_add 35 = .ok (.istore 4, 2) := by decide +kernel
theorem d_SET_add_37 : decode b_SET_add 37 = .ok (.iload 4, 2) := by decide +kernel
theorem d_SET_add_39 : decode b_SET_add 39 = .ok (.aload_n 0, 1) := by decide +kernel
theorem d_SET_add_40 : decode b_SET_add 40 = .ok (.getfield 18, 3) := by decide +kernel
theorem d_SET_add_43 : decode b_SET_add 43 = .ok (.if_icmp .ge 22, 3) := by decide +kernel
theorem d_SET_add_46 : decode b_SET_add 46 = .ok (.aload_n 0, 1) := by decide +kernel
theorem d_SET_add_47 : decode b_SET_add 47 = .ok (.getfield 11, 3) := by decide +kernel
theorem d_SET_add_50 : decode b_SET_add 50 = .ok (.iload 4, 2) := by decide +kernel
theorem d_SET_add_52 : decode b_SET_add 52 = .ok (.iaload, 1) := by decide +kernel
theorem d_SET_add_53 : decode b_SET_add 53 = .ok (.iload_n 2, 1) := by decide +kernel
theorem d_SET_add_54 : decode b_SET_add 54 = .ok (.iconst 1, 1) := by decide +kernel
theorem d_SET_add_55 : decode b_SET_add 55 = .ok (.iadd, 1) := by decide +kernel
theorem d_SET_add_56 : decode b_SET_add 56 = .ok (.if_icmp .gt 9, 3) := by decide +kernel
theorem d_SET_add_59 : decode b_SET_add 59 = .ok (.iinc 4 1, 3) := by decide +kernel
theorem d_SET_add_62 : decode b_SET_add 62 = .ok (.goto (-25), 3) := by decide +kernel
theorem d_SET_add_65 : decode b_SET_add 65 = .ok (.aload_n 0, 1) := by decide +kernel
theorem d_SET_add_66 : decode b_SET_add 66 = .ok (.getfield 18, 3) := by decide +kernel
theorem d_SET_add_69 : decode b_SET_add 69 = .ok (.iload 4, 2) := by decide +kernel
theorem d_SET_add_71 : decode b_SET_add 71 = .ok (.isub, 1) := by decide +kernel
theorem d_SET_add_72 : decode b_SET_add 72 = .ok (.istore 5, 2) := by decide +kernel
theorem d_SET_add_74 : decode b_SET_add 74 = .ok (.iload_n 3, 1) := by decide +kernel
theorem d_SET_add_75 : decode b_SET_add 75 = .ok (.iconst 1, 1) := by decide +kernel
theorem d_SET_add_76 : decode b_SET_add 76 = .ok (.iadd, 1) := by decide +kernel
theorem d_SET_add_77 : decode b_SET_add 77 = .ok (.iload 5, 2) := by decide +kernel
theorem d_SET_add_79 : decode b_SET_add 79 = .ok (.iadd, 1) := by decide +kernel
theorem d_SET_add_80 : decode b_SET_add 80 = .ok (.sipush 1024, 3) := by decide +kernel
theorem d_SET_add_83 : decode b_SET_add 83 = .ok (.if_icmp .le 4, 3) := by decide +kernel
theorem d_SET_add_86 : decode b_SET_add 86 = .ok (.return_, 1) := by decide +kernel
theorem d_SET_add_87 : decode b_SET_add 87 = .ok (.iload_n 3, 1) := by decide +kernel
theorem d_SET_add_88 : decode b_SET_add 88 = .ok (.iload 4, 2) := by decide +kernel
theorem d_SET_add_90 : decode b_SET_add 90 = .ok (.if_icmp .ge 22, 3) := by decide +kernel
theorem d_SET_add_93 : decode b_SET_add 93 = .ok (.aload_n 0, 1) := by decide +kernel
theorem d_SET_add_94 : decode b_SET_add 94 = .ok (.getfield 11, 3) := by decide +kernel
theorem d_SET_add_97 : decode b_SET_add 97 = .ok (.iload_n 3, 1) := by decide +kernel
theorem d_SET_add_98 : decode b_SET_add 98 = .ok (.iaload, 1) := by decide +kernel
theorem d_SET_add_99 : decode b_SET_add 99 = .ok (.iload_n 1, 1) := by decide +kernel
theorem d_SET_add_100 : decode b_SET_add 100 = .ok (.if_icmp .ge 12, 3) := by decide +kernel
theorem d_SET_add_103 : decode b_SET_add 103 = .ok (.aload_n 0, 1) := by decide +kernel
theorem d_SET_add_104 : decode b_SET_add 104 = .ok (.getfield 11, 3) := by decide +kernel
theorem d_SET_add_107 : decode b_SET_add 107 = .ok (.iload_n 3, 1) := by decide +kernel
theorem d_SET_add_108 : decode b_SET_add 108 = .ok (.iaload, 1) := by decide +kernel
theorem d_SET_add_109 : decode b_SET_add 109 = .ok (.goto 4, 3) := by decide +kernel
theorem d_SET_add_112 : decode b_SET_add 112 = .ok (.iload_n 1, 1) := by decide +kernel
theorem d_SET_add_113 : decode b_SET_add 113 = .ok (.istore 6, 2) := by decide +kernel
theorem d_SET_add_115 : decode b_SET_add 115 = .ok (.iload_n 3, 1) := by decide +kernel
theorem d_SET_add_116 : decode b_SET_add 116 = .ok (.iload 4, 2) := by decide +kernel
theorem d_SET_add_118 : decode b_SET_add 118 = .ok (.if_icmp .ge 28, 3) := by decide +kernel
theorem d_SET_add_121 : decode b_SET_add 121 = .ok (.aload_n 0, 1) := by decide +kernel
theorem d_SET_add_122 : decode b_SET_add 122 = .ok (.getfield 15, 3) := by decide +kernel
theorem d_SET_add_125 : decode b_SET_add 125 = .ok (.iload 4, 2) := by decide +kernel
theorem d_SET_add_127 : decode b_SET_add 127 = .ok (.iconst 1, 1) := by decide +kernel
theorem d_SET_add_128 : decode b_SET_add 128 = .ok (.isub, 1) := by decide +kernel
theorem d_SET_add_129 : decode b_SET_add 129 = .ok (.iaload, 1) := by decide +kernel
theorem d_SET_add_130 : decode b_SET_add 130 = .ok (.iload_n 2, 1) := by decide +kernel
theorem d_SET_add_131 : decode b_SET_add 131 = .ok (.if_icmp .le 15, 3) := by decide +kernel
theorem d_SET_add_134 : decode b_SET_add 134 = .ok (.aload_n 0, 1) := by decide +kernel
theorem d_SET_add_135 : decode b_SET_add 135 = .ok (.getfield 15, 3) := by decide +kernel
theorem d_SET_add_138 : decode b_SET_add 138 = .ok (.iload 4, 2) := by decide +kernel
theorem d_SET_add_140 : decode b_SET_add 140 = .ok (.iconst 1, 1) := by decide +kernel
theorem d_SET_add_141 : decode b_SET_add 141 = .ok (.isub, 1) := by decide +kernel
theorem d_SET_add_142 : decode b_SET_add 142 = .ok (.iaload, 1) := by decide +kernel
theorem d_SET_add_143 : decode b_SET_add 143 = .ok (.goto 4, 3) := by decide +kernel
theorem d_SET_add_146 : decode b_SET_add 146 = .ok (.iload_n 2, 1) := by decide +kernel
theorem d_SET_add_147 : decode b_SET_add 147 = .ok (.istore 7, 2) := by decide +kernel
theorem d_SET_add_149 : decode b_SET_add 149 = .ok (.aload_n 0, 1) := by decide +kernel
theorem d_SET_add_150 : decode b_SET_add 150 = .ok (.getfield 11, 3) := by decide +kernel
theorem d_SET_add_153 : decode b_SET_add 153 = .ok (.iload 4, 2) := by decide +kernel
theorem d_SET_add_155 : decode b_SET_add 155 = .ok (.aload_n 0, 1) := by decide +kernel
theorem d_SET_add_156 : decode b_SET_add 156 = .ok (.getfield 11, 3) := by decide +kernel
theorem d_SET_add_159 : decode b_SET_add 159 = .ok (.iload_n 3, 1) := by decide +kernel
theorem d_SET_add_160 : decode b_SET_add 160 = .ok (.iconst 1, 1) := by decide +kernel
theorem d_SET_add_161 : decode b_SET_add 161 = .ok (.iadd, 1) := by decide +kernel
theorem d_SET_add_162 : decode b_SET_add 162 = .ok (.iload 5, 2) := by decide +kernel
theorem d_SET_add_164 : decode b_SET_add 164 = .ok (.invokestatic 22, 3) := by decide +kernel
theorem d_SET_add_167 : decode b_SET_add 167 = .ok (.aload_n 0, 1) := by decide +kernel
theorem d_SET_add_168 : decode b_SET_add 168 = .ok (.getfield 15, 3) := by decide +kernel
theorem d_SET_add_171 : decode b_SET_add 171 = .ok (.iload 4, 2) := by decide +kernel
theorem d_SET_add_173 : decode b_SET_add 173 = .ok (.aload_n 0, 1) := by decide +kernel
theorem d_SET_add_174 : decode b_SET_add 174 = .ok (.getfield 15, 3) := by decide +kernel
theorem d_SET_add_177 : decode b_SET_add 177 = .ok (.iload_n 3, 1) := by decide +kernel
theorem d_SET_add_178 : decode b_SET_add 178 = .ok (.iconst 1, 1) := by decide +kernel
theorem d_SET_add_179 : decode b_SET_add 179 = .ok (.iadd, 1) := by decide +kernel
theorem d_SET_add_180 : decode b_SET_add 180 = .ok (.iload 5, 2) := by decide +kernel
theorem d_SET_add_182 : decode b_SET_add 182 = .ok (.invokestatic 22, 3) := by decide +kernel
theorem d_SET_add_185 : decode b_SET_add 185 = .ok (.aload_n 0, 1) := by decide +kernel
theorem d_SET_add_186 : decode b_SET_add 186 = .ok (.getfield 11, 3) := by decide +kernel
theorem d_SET_add_189 : decode b_SET_add 189 = .ok (.iload_n 3, 1) := by decide +kernel
theorem d_SET_add_190 : decode b_SET_add 190 = .ok (.iload 6, 2) := by decide +kernel
theorem d_SET_add_192 : decode b_SET_add 192 = .ok (.iastore, 1) := by decide +kernel
theorem d_SET_add_193 : decode b_SET_add 193 = .ok (.aload_n 0, 1) := by decide +kernel
theorem d_SET_add_194 : decode b_SET_add 194 = .ok (.getfield 15, 3) := by decide +kernel
theorem d_SET_add_197 : decode b_SET_add 197 = .ok (.iload_n 3, 1) := by decide +kernel
theorem d_SET_add_198 : decode b_SET_add 198 = .ok (.iload 7, 2) := by decide +kernel
theorem d_SET_add_200 : decode b_SET_add 200 = .ok (.iastore, 1) := by decide +kernel
theorem d_SET_add_201 : decode b_SET_add 201 = .ok (.aload_n 0, 1) := by decide +kernel
theorem d_SET_add_202 : decode b_SET_add 202 = .ok (.iload_n 3, 1) := by decide +kernel
theorem d_SET_add_203 : decode b_SET_add 203 = .ok (.iconst 1, 1) := by decide +kernel
theorem d_SET_add_204 : decode b_SET_add 204 = .ok (.iadd, 1) := by decide +kernel
theorem d_SET_add_205 : decode b_SET_add 205 = .ok (.iload 5, 2) := by decide +kernel
theorem d_SET_add_207 : decode b_SET_add 207 = .ok (.iadd, 1) := by decide +kernel
theorem d_SET_add_208 : decode b_SET_add 208 = .ok (.putfield 18, 3) := by decide +kernel
theorem d_SET_add_211 : decode b_SET_add 211 = .ok (.return_, 1) := by decide +kernel
theorem d_SET_finish_0 : decode b_SET_finish 0 = .ok (.iload_n 1, 1) := by decide +kernel
theorem d_SET_finish_1 : decode b_SET_finish 1 = .ok (.ifCond .ne 7, 3) := by decide +kernel
theorem d_SET_finish_4 : decode b_SET_finish 4 = .ok (.aload_n 0, 1) := by decide +kernel
theorem d_SET_finish_5 : decode b_SET_finish 5 = .ok (.invokevirtual 52, 3) := by decide +kernel
theorem d_SET_finish_8 : decode b_SET_finish 8 = .ok (.aload_n 0, 1) := by decide +kernel
theorem d_SET_finish_9 : decode b_SET_finish 9 = .ok (.ldc 55, 2) := by decide +kernel
theorem d_SET_finish_11 : decode b_SET_finish 11 = .ok (.ldc 56, 2) := by decide +kernel
theorem d_SET_finish_13 : decode b_SET_finish 13 = .ok (.invokevirtual 28, 3) := by decide +kernel
theorem d_SET_finish_16 : decode b_SET_finish 16 = .ok (.aload_n 0, 1) := by decide +kernel
theorem d_SET_finish_17 : decode b_SET_finish 17 = .ok (.invokevirtual 52, 3) := by decide +kernel
theorem d_SET_finish_20 : decode b_SET_finish 20 = .ok (.return_, 1) := by decide +kernel
theorem d_ESC_setOf_0 : decode b_ESC_setOf 0 = .ok (.iload_n 0, 1) := by decide +kernel
theorem d_ESC_setOf_1 : decode b_ESC_setOf 1 = .ok (.lookupswitch 71 #[(68, 59), (83, 63), (87, 67), (100, 59), (115, 63), (119, 67)], 59) := by decide +kernel
theorem d_ESC_setOf_60 : decode b_ESC_setOf 60 = .ok (.getstatic 40, 3) := by decide +kernel
theorem d_ESC_setOf_63 : decode b_ESC_setOf 63 = .ok (.areturn, 1) := by decide +kernel
theorem d_ESC_setOf_64 : decode b_ESC_setOf 64 = .ok (.getstatic 43, 3) := by decide +kernel
theorem d_ESC_setOf_67 : decode b_ESC_setOf 67 = .ok (.areturn, 1) := by decide +kernel
theorem d_ESC_setOf_68 : decode b_ESC_setOf 68 = .ok (.getstatic 46, 3) := by decide +kernel
theorem d_ESC_setOf_71 : decode b_ESC_setOf 71 = .ok (.areturn, 1) := by decide +kernel
theorem d_ESC_setOf_72 : decode b_ESC_setOf 72 = .ok (.getstatic 18, 3) := by decide +kernel
theorem d_ESC_setOf_75 : decode b_ESC_setOf 75 = .ok (.areturn, 1) := by decide +kernel
theorem d_ESC_isSetLetter_0 : decode b_ESC_isSetLetter 0 = .ok (.iload_n 0, 1) := by decide +kernel
theorem d_ESC_isSetLetter_1 : decode b_ESC_isSetLetter 1 = .ok (.bipush 112, 2) := by decide +kernel
theorem d_ESC_isSetLetter_3 : decode b_ESC_isSetLetter 3 = .ok (.if_icmp .eq 17, 3) := by decide +kernel
theorem d_ESC_isSetLetter_6 : decode b_ESC_isSetLetter 6 = .ok (.iload_n 0, 1) := by decide +kernel
theorem d_ESC_isSetLetter_7 : decode b_ESC_isSetLetter 7 = .ok (.bipush 80, 2) := by decide +kernel
theorem d_ESC_isSetLetter_9 : decode b_ESC_isSetLetter 9 = .ok (.if_icmp .eq 11, 3) := by decide +kernel
theorem d_ESC_isSetLetter_12 : decode b_ESC_isSetLetter 12 = .ok (.iload_n 0, 1) := by decide +kernel
theorem d_ESC_isSetLetter_13 : decode b_ESC_isSetLetter 13 = .ok (.invokestatic 36, 3) := by decide +kernel
theorem d_ESC_isSetLetter_16 : decode b_ESC_isSetLetter 16 = .ok (.arraylength, 1) := by decide +kernel
theorem d_ESC_isSetLetter_17 : decode b_ESC_isSetLetter 17 = .ok (.ifCond .le 7, 3) := by decide +kernel
theorem d_ESC_isSetLetter_20 : decode b_ESC_isSetLetter 20 = .ok (.iconst 1, 1) := by decide +kernel
theorem d_ESC_isSetLetter_21 : decode b_ESC_isSetLetter 21 = .ok (.goto 4, 3) := by decide +kernel
theorem d_ESC_isSetLetter_24 : decode b_ESC_isSetLetter 24 = .ok (.iconst 0, 1) := by decide +kernel
theorem d_ESC_isSetLetter_25 : decode b_ESC_isSetLetter 25 = .ok (.ireturn, 1) := by decide +kernel
theorem d_CLS_isSetItem_0 : decode b_CLS_isSetItem 0 = .ok (.aload_n 0, 1) := by decide +kernel
theorem d_CLS_isSetItem_1 : decode b_CLS_isSetItem 1 = .ok (.getfield 15, 3) := by decide +kernel
theorem d_CLS_isSetItem_4 : decode b_CLS_isSetItem 4 = .ok (.iload_n 1, 1) := by decide +kernel
theorem d_CLS_isSetItem_5 : decode b_CLS_isSetItem 5 = .ok (.iconst 1, 1) := by decide +kernel
theorem d_CLS_isSetItem_6 : decode b_CLS_isSetItem 6 = .ok (.iadd, 1) := by decide +kernel
theorem d_CLS_isSetItem_7 : decode b_CLS_isSetItem 7 = .ok (.invokevirtual 31, 3) := by decide +kernel
theorem d_CLS_isSetItem_10 : decode b_CLS_isSetItem 10 = .ok (.istore_n 2, 1) := by decide +kernel
theorem d_CLS_isSetItem_11 : decode b_CLS_isSetItem 11 = .ok (.aload_n 0, 1) := by decide +kernel
theorem d_CLS_isSetItem_12 : decode b_CLS_isSetItem 12 = .ok (.getfield 15, 3) := by decide +kernel
theorem d_CLS_isSetItem_15 : decode b_CLS_isSetItem 15 = .ok (.iload_n 1, 1) := by decide +kernel
theorem d_CLS_isSetItem_16 : decode b_CLS_isSetItem 16 = .ok (.invokevirtual 31, 3) := by decide +kernel
theorem d_CLS_isSetItem_19 : decode b_CLS_isSetItem 19 = .ok (.lookupswitch 42 #[(91, 25), (92, 37)], 25) := by decide +kernel
theorem d_CLS_isSetItem_44 : decode b_CLS_isSetItem 44 = .ok (.iload_n 2, 1) := by decide +kernel
theorem d_CLS_isSetItem_45 : decode b_CLS_isSetItem 45 = .ok (.bipush 58, 2) := by decide +kernel
theorem d_CLS_isSetItem_47 : decode b_CLS_isSetItem 47 = .ok (.if_icmp .ne 7, 3) := by decide +kernel
theorem d_CLS_isSetItem_50 : decode b_CLS_isSetItem 50 = .ok (.iconst 1, 1) := by decide +kernel
theorem d_CLS_isSetItem_51 : decode b_CLS_isSetItem 51 = .ok (.goto 4, 3) := by decide +kernel
theorem d_CLS_isSetItem_54 : decode b_CLS_isSetItem 54 = .ok (.iconst 0, 1) := by decide +kernel
theorem d_CLS_isSetItem_55 : decode b_CLS_isSetItem 55 = .ok (.ireturn, 1) := by decide +kernel
theorem d_CLS_isSetItem_56 : decode b_CLS_isSetItem 56 = .ok (.iload_n 2, 1) := by decide +kernel
theorem d_CLS_isSetItem_57 : decode b_CLS_isSetItem 57 = .ok (.invokestatic 64, 3) := by decide +kernel
theorem d_CLS_isSetItem_60 : decode b_CLS_isSetItem 60 = .ok (.ireturn, 1) := by decide +kernel
theorem d_CLS_isSetItem_61 : decode b_CLS_isSetItem 61 = .ok (.iconst 0, 1) := by decide +kernel
theorem d_CLS_isSetItem_62 : decode b_CLS_isSetItem 62 = .ok (.ireturn, 1) := by decide +kernel
theorem d_ESC_found_0 : decode b_ESC_found 0 = .ok (.aload_n 0, 1) := by decide +kernel
theorem d_ESC_found_1 : decode b_ESC_found 1 = .ok (.iload_n 1, 1) := by decide +kernel
theorem d_ESC_found_2 : decode b_ESC_found 2 = .ok (.putfield 9, 3) := by decide +kernel
theorem d_ESC_found_5 : decode b_ESC_found 5 = .ok (.aload_n 0, 1) := by decide +kernel
theorem d_ESC_found_6 : decode b_ESC_found 6 = .ok (.iload_n 2, 1) := by decide +kernel
theorem d_ESC_found_7 : decode b_ESC_found 7 = .ok (.putfield 15, 3) := by decide +kernel
theorem d_ESC_found_10 : decode b_ESC_found 10 = .ok (.iconst 0, 1) := by decide +kernel
theorem d_ESC_found_11 : decode b_ESC_found 11 = .ok (.ireturn, 1) := by decide +kernel
theorem d_PN_hexadecimal_0 : decode b_PN_hexadecimal 0 = .ok (.iload_n 0, 1) := by decide +kernel
theorem d_PN_hexadecimal_1 : decode b_PN_hexadecimal 1 = .ok (.bipush 48, 2) := by decide +kernel
theorem d_PN_hexadecimal_3 : decode b_PN_hexadecimal 3 = .ok (.if_icmp .lt 14, 3) := by decide +kernel
theorem d_PN_hexadecimal_6 : decode b_PN_hexadecimal 6 = .ok (.iload_n 0, 1) := by decide +kernel
theorem d_PN_hexadecimal_7 : decode b_PN_hexadecimal 7 = .ok (.bipush 57, 2) := by decide +kernel
theorem d_PN_hexadecimal_9 : decode b_PN_hexadecimal 9 = .ok (.if_icmp .gt 8, 3) := by decide +kernel
theorem d_PN_hexadecimal_12 : decode b_PN_hexadecimal 12 = .ok (.iload_n 0, 1) := by decide +kernel
theorem d_PN_hexadecimal_13 : decode b_PN_hexadecimal 13 = .ok (.bipush 48, 2) := by decide +kernel
theorem d_PN_hexadecimal_15 : decode b_PN_hexadecimal 15 = .ok (.isub, 1) := by decide +kernel
theorem d_PN_hexadecimal_16 : decode b_PN_hexadecimal 16 = .ok (.ireturn, 1) := by decide +kernel
theorem d_PN_hexadecimal_17 : decode b_PN_hexadecimal 17 = .ok (.iload_n 0, 1) := by decide +kernel
theorem d_PN_hexadecimal_18 : decode b_PN_hexadecimal 18 = .ok (.bipush 65, 2) := by decide +kernel
theorem d_PN_hexadecimal_20 : decode b_PN_hexadecimal 20 = .ok (.if_icmp .lt 17, 3) := by decide +kernel
theorem d_PN_hexadecimal_23 : decode b_PN_hexadecimal 23 = .ok (.iload_n 0, 1) := by decide +kernel
theorem d_PN_hexadecimal_24 : decode b_PN_hexadecimal 24 = .ok (.bipush 70, 2) := by decide +kernel
theorem d_PN_hexadecimal_26 : decode b_PN_hexadecimal 26 = .ok (.if_icmp .gt 11, 3) := by decide +kernel
theorem d_PN_hexadecimal_29 : decode b_PN_hexadecimal 29 = .ok (.iload_n 0, 1) := by decide +kernel
theorem d_PN_hexadecimal_30 : decode b_PN_hexadecimal 30 = .ok (.bipush 65, 2) := by decide +kernel
theorem d_PN_hexadecimal_32 : decode b_PN_hexadecimal 32 = .ok (.isub, 1) := by decide +kernel
theorem d_PN_hexadecimal_33 : decode b_PN_hexadecimal 33 = .ok (.bipush 10, 2) := by decide +kernel
theorem d_PN_hexadecimal_35 : decode b_PN_hexadecimal 35 = .ok (.iadd, 1) := by decide +kernel
theorem d_PN_hexadecimal_36 : decode b_PN_hexadecimal 36 = .ok (.ireturn, 1) := by decide +kernel
theorem d_PN_hexadecimal_37 : decode b_PN_hexadecimal 37 = .ok (.iload_n 0, 1) := by decide +kernel
theorem d_PN_hexadecimal_38 : decode b_PN_hexadecimal 38 = .ok (.bipush 97, 2) := by decide +kernel
theorem d_PN_hexadecimal_40 : decode b_PN_hexadecimal 40 = .ok (.if_icmp .lt 19, 3) := by decide +kernel
theorem d_PN_hexadecimal_43 : decode b_PN_hexadecimal 43 = .ok (.iload_n 0, 1) := by decide +kernel
theorem d_PN_hexadecimal_44 : decode b_PN_hexadecimal 44 = .ok (.bipush 102, 2) := by decide +kernel
theorem d_PN_hexadecimal_46 : decode b_PN_hexadecimal 46 = .ok (.if_icmp .gt 13, 3) := by decide +kernel
theorem d_PN_hexadecimal_49 : decode b_PN_hexadecimal 49 = .ok (.iload_n 0, 1) := by decide +kernel
theorem d_PN_hexadecimal_50 : decode b_PN_hexadecimal 50 = .ok (.bipush 97, 2) := by decide +kernel
theorem d_PN_hexadecimal_52 : decode b_PN_hexadecimal 52 = .ok (.isub, 1) := by decide +kernel
theorem d_PN_hexadecimal_53 : decode b_PN_hexadecimal 53 = .ok (.bipush 10, 2) := by decide +kernel
theorem d_PN_hexadecimal_55 : decode b_PN_hexadecimal 55 = .ok (.iadd, 1) := by decide +kernel
theorem d_PN_hexadecimal_56 : decode b_PN_hexadecimal 56 = .ok (.goto 4, 3) := by decide +kernel
theorem d_PN_hexadecimal_59 : decode b_PN_hexadecimal 59 = .ok (.iconst (-1), 1) := by decide +kernel
theorem d_PN_hexadecimal_60 : decode b_PN_hexadecimal 60 = .ok (.ireturn, 1) := by decide +kernel
theorem d_PN_isCharacter_0 : decode b_PN_isCharacter 0 = .ok (.iload_n 0, 1) := by decide +kernel
theorem d_PN_isCharacter_1 : decode b_PN_isCharacter 1 = .ok (.ifCond .lt 25, 3) := by decide +kernel
theorem d_PN_isCharacter_4 : decode b_PN_isCharacter 4 = .ok (.iload_n 0, 1) := by decide +kernel
theorem d_PN_isCharacter_5 : decode b_PN_isCharacter 5 = .ok (.ldc 105, 2) := by decide +kernel
theorem d_PN_isCharacter_7 : decode b_PN_isCharacter 7 = .ok (.if_icmp .gt 19, 3) := by decide +kernel
theorem d_PN_isCharacter_10 : decode b_PN_isCharacter 10 = .ok (.iload_n 0, 1) := by decide +kernel
theorem d_PN_isCharacter_11 : decode b_PN_isCharacter 11 = .ok (.ldc 106, 2) := by decide +kernel
theorem d_PN_isCharacter_13 : decode b_PN_isCharacter 13 = .ok (.if_icmp .lt 9, 3) := by decide +kernel
theorem d_PN_isCharacter_16 : decode b_PN_isCharacter 16 = .ok (.iload_n 0, 1) := by decide +kernel
theorem d_PN_isCharacter_17 : decode b_PN_isCharacter 17 = .ok (.ldc 107, 2) := by decide +kernel
theorem d_PN_isCharacter_19 : decode b_PN_isCharacter 19 = .ok (.if_icmp .le 7, 3) := by decide +kernel
theorem d_PN_isCharacter_22 : decode b_PN_isCharacter 22 = .ok (.iconst 1, 1) := by decide +kernel
theorem d_PN_isCharacter_23 : decode b_PN_isCharacter 23 = .ok (.goto 4, 3) := by decide +kernel
theorem d_PN_isCharacter_26 : decode b_PN_isCharacter 26 = .ok (.iconst 0, 1) := by decide +kernel
theorem d_PN_isCharacter_27 : decode b_PN_isCharacter 27 = .ok (.ireturn, 1) := by decide +kernel
theorem d_ESC_readNumbered_0 : decode b_ESC_readNumbered 0 = .ok (.aload_n 0, 1) := by decide +kernel
theorem d_ESC_readNumbered_1 : decode b_ESC_readNumbered 1 = .ok (.getfield 32, 3) := by decide +kernel
theorem d_ESC_readNumbered_4 : decode b_ESC_readNumbered 4 = .ok (.iload_n 1, 1) := by decide +kernel
theorem d_ESC_readNumbered_5 : decode b_ESC_readNumbered 5 = .ok (.iconst 2, 1) := by decide +kernel
theorem d_ESC_readNumbered_6 : decode b_ESC_readNumbered 6 = .ok (.iadd, 1) := by decide +kernel
theorem d_ESC_readNumbered_7 : decode b_ESC_readNumbered 7 = .ok (.invokevirtual 61, 3) := by decide +kernel
theorem d_ESC_readNumbered_10 : decode b_ESC_readNumbered 10 = .ok (.bipush 123, 2) := by decide +kernel
theorem d_ESC_readNumbered_12 : decode b_ESC_readNumbered 12 = .ok (.if_icmp .ne 7, 3) := by decide +kernel
theorem d_ESC_readNumbered_15 : decode b_ESC_readNumbered 15 = .ok (.iconst 1, 1) := by decide +kernel
theorem d_ESC_readNumbered_16 : decode b_ESC_readNumbered 16 = .ok (.goto 4, 3) := by decide +kernel
theorem d_ESC_readNumbered_19 : decode b_ESC_readNumbered 19 = .ok (.iconst 0, 1) := by decide +kernel
theorem d_ESC_readNumbered_20 : decode b_ESC_readNumbered 20 = .ok (.istore_n 2, 1) := by decide +kernel
theorem d_ESC_readNumbered_21 : decode b_ESC_readNumbered 21 = .ok (.iload_n 2, 1) := by decide +kernel
theorem d_ESC_readNumbered_22 : decode b_ESC_readNumbered 22 = .ok (.ifCond .eq 9, 3) := by decide +kernel
theorem d_ESC_readNumbered_25 : decode b_ESC_readNumbered 25 = .ok (.iload_n 1, 1) := by decide +kernel
theorem d_ESC_readNumbered_26 : decode b_ESC_readNumbered 26 = .ok (.iconst 3, 1) := by decide +kernel
theorem d_ESC_readNumbered_27 : decode b_ESC_readNumbered 27 = .ok (.iadd, 1) := by decide +kernel
theorem d_ESC_readNumbered_28 : decode b_ESC_readNumbered 28 = .ok (.goto 6, 3) := by decide +kernel
theorem d_ESC_readNumbered_31 : decode b_ESC_readNumbered 31 = .ok (.iload_n 1, 1) := by decide +kernel
theorem d_ESC_readNumbered_32 : decode b_ESC_readNumbered 32 = .ok (.iconst 2, 1) := by decide +kernel
theorem d_ESC_readNumbered_33 : decode b_ESC_readNumbered 33 = .ok (.iadd, 1) := by decide +kernel
theorem d_ESC_readNumbered_34 : decode b_ESC_readNumbered 34 = .ok (.istore_n 3, 1) := by decide +kernel
theorem d_ESC_readNumbered_35 : decode b_ESC_readNumbered 35 = .ok (.iload_n 2, 1) := by decide +kernel
theorem d_ESC_readNumbered_36 : decode b_ESC_readNumbered 36 = .ok (.ifCond .eq 8, 3) := by decide +kernel
theorem d_ESC_readNumbered_39 : decode b_ESC_readNumbered 39 = .ok (.bipush 6, 2) := by decide +kernel
theorem d_ESC_readNumbered_41 : decode b_ESC_readNumbered 41 = .ok (.goto 4, 3) := by decide +kernel
theorem d_ESC_readNumbered_44 : decode b_ESC_readNumbered 44 = .ok (.iconst 2, 1) := by decide +kernel
theorem d_ESC_readNumbered_45 : decode b_ESC_readNumbered 45 = .ok (.istore 4, 2) := by decide +kernel
theorem d_ESC_readNumbered_47 : decode b_ESC_readNumbered 47 = .ok (.iconst 0, 1) := by decide +kernel
theorem d_ESC_readNumbered_48 : decode b_ESC_readNumbered 48 = .ok (.istore 5, 2) := by decide +kernel
theorem d_ESC_readNumbered_50 : decode b_ESC_readNumbered 50 = .ok (.iconst 0, 1) := by decide +kernel
theorem d_ESC_readNumbered_51 : decode b_ESC_readNumbered 51 = .ok (.istore 6, 2) := by decide +kernel
theorem d_ESC_readNumbered_53 : decode b_ESC_readNumbered 53 = .ok (.iload 5, 2) := by decide +kernel
theorem d_ESC_readNumbered_55 : decode b_ESC_readNumbered 55 = .ok (.iload 4, 2) := by decide +kernel
theorem d_ESC_readNumbered_57 : decode b_ESC_readNumbered 57 = .ok (.if_icmp .ge 48, 3) := by decide +kernel
theorem d_ESC_readNumbered_60 : decode b_ESC_readNumbered 60 = .ok (.aload_n 0, 1) := by decide +kernel
theorem d_ESC_readNumbered_61 : decode b_ESC_readNumbered 61 = .ok (.getfield 32, 3) := by decide +kernel
theorem d_ESC_readNumbered_64 : decode b_ESC_readNumbered 64 = .ok (.iload_n 3, 1) := by decide +kernel
theorem d_ESC_readNumbered_65 : decode b_ESC_readNumbered 65 = .ok (.iload 5, 2) := by decide +kernel
theorem d_ESC_readNumbered_67 : decode b_ESC_readNumbered 67 = .ok (.iadd, 1) := by decide +kernel
theorem d_ESC_readNumbered_68 : decode b_ESC_readNumbered 68 = .ok (.invokevirtual 61, 3) := by decide +kernel
theorem d_ESC_readNumbered_71 : decode b_ESC_readNumbered 71 = .ok (.invokestatic 86, 3) := by decide +kernel
theorem d_ESC_readNumbered_74 : decode b_ESC_readNumbered 74 = .ok (.ifCond .lt 31, 3) := by decide +kernel
theorem d_ESC_readNumbered_77 : decode b_ESC_readNumbered 77 = .ok (.iload 6, 2) := by decide +kernel
theorem d_ESC_readNumbered_79 : decode b_ESC_readNumbered 79 = .ok (.bipush 16, 2) := by decide +kernel
theorem d_ESC_readNumbered_81 : decode b_ESC_readNumbered 81 = .ok (.imul, 1) := by decide +kernel
theorem d_ESC_readNumbered_82 : decode b_ESC_readNumbered 82 = .ok (.aload_n 0, 1) := by decide +kernel
theorem d_ESC_readNumbered_83 : decode b_ESC_readNumbered 83 = .ok (.getfield 32, 3) := by decide +kernel
theorem d_ESC_readNumbered_86 : decode b_ESC_readNumbered 86 = .ok (.iload_n 3, 1) := by decide +kernel
theorem d_ESC_readNumbered_87 : decode b_ESC_readNumbered 87 = .ok (.iload 5, 2) := by decide +kernel
theorem d_ESC_readNumbered_89 : decode b_ESC_readNumbered 89 = .ok (.iadd, 1) := by decide +kernel
theorem d_ESC_readNumbered_90 : decode b_ESC_readNumbered 90 = .ok (.invokevirtual 61, 3) := by decide +kernel
theorem d_ESC_readNumbered_93 : decode b_ESC_readNumbered 93 = .ok (.invokestatic 86, 3) := by decide +kernel
theorem d_ESC_readNumbered_96 : decode b_ESC_readNumbered 96 = .ok (.iadd, 1) := by decide +kernel
theorem d_ESC_readNumbered_97 : decode b_ESC_readNumbered 97 = .ok (.istore 6, 2) := by decide +kernel
theorem d_ESC_readNumbered_99 : decode b_ESC_readNumbered 99 = .ok (.iinc 5 1, 3) := by decide +kernel
theorem d_ESC_readNumbered_102 : decode b_ESC_readNumbered 102 = .ok (.goto (-49), 3) := by decide +kernel
theorem d_ESC_readNumbered_105 : decode b_ESC_readNumbered 105 = .ok (.iload_n 2, 1) := by decide +kernel
theorem d_ESC_readNumbered_106 : decode b_ESC_readNumbered 106 = .ok (.ifCond .eq 32, 3) := by decide +kernel
theorem d_ESC_readNumbered_109 : decode b_ESC_readNumbered 109 = .ok (.iload 5, 2) := by decide +kernel
theorem d_ESC_readNumbered_111 : decode b_ESC_readNumbered 111 = .ok (.ifCond .le 23, 3) := by decide +kernel
theorem d_ESC_readNumbered_114 : decode b_ESC_readNumbered 114 = .ok (.aload_n 0, 1) := by decide +kernel
theorem d_ESC_readNumbered_115 : decode b_ESC_readNumbered 115 = .ok (.getfield 32, 3) := by decide +kernel
theorem d_ESC_readNumbered_118 : decode b_ESC_readNumbered 118 = .ok (.iload_n 3, 1) := by decide +kernel
theorem d_ESC_readNumbered_119 : decode b_ESC_readNumbered 119 = .ok (.iload 5, 2) := by decide +kernel
theorem d_ESC_readNumbered_121 : decode b_ESC_readNumbered 121 = .ok (.iadd, 1) := by decide +kernel
theorem d_ESC_readNumbered_122 : decode b_ESC_readNumbered 122 = .ok (.invokevirtual 61, 3) := by decide +kernel
theorem d_ESC_readNumbered_125 : decode b_ESC_readNumbered 125 = .ok (.bipush 125, 2) := by decide +kernel
theorem d_ESC_readNumbered_127 : decode b_ESC_readNumbered 127 = .ok (.if_icmp .ne 7, 3) := by decide +kernel
theorem d_ESC_readNumbered_130 : decode b_ESC_readNumbered 130 = .ok (.iconst 1, 1) := by decide +kernel
theorem d_ESC_readNumbered_131 : decode b_ESC_readNumbered 131 = .ok (.goto 18, 3) := by decide +kernel
theorem d_ESC_readNumbered_134 : decode b_ESC_readNumbered 134 = .ok (.iconst 0, 1) := by decide +kernel
theorem d_ESC_readNumbered_135 : decode b_ESC_readNumbered 135 = .ok (.goto 14, 3) := by decide +kernel
theorem d_ESC_readNumbered_138 : decode b_ESC_readNumbered 138 = .ok (.iload 5, 2) := by decide +kernel
theorem d_ESC_readNumbered_140 : decode b_ESC_readNumbered 140 = .ok (.iconst 2, 1) := by decide +kernel
theorem d_ESC_readNumbered_141 : decode b_ESC_readNumbered 141 = .ok (.if_icmp .ne 7, 3) := by decide +kernel
theorem d_ESC_readNumbered_144 : decode b_ESC_readNumbered 144 = .ok (.iconst 1, 1) := by decide +kernel
theorem d_ESC_readNumbered_145 : decode b_ESC_readNumbered 145 = .ok (.goto 4, 3) := by decide +kernel
theorem d_ESC_readNumbered_148 : decode b_ESC_readNumbered 148 = .ok (.iconst 0, 1) := by decide +kernel
theorem d_ESC_readNumbered_149 : decode b_ESC_readNumbered 149 = .ok (.istore 7, 2) := by decide +kernel
theorem d_ESC_readNumbered_151 : decode b_ESC_readNumbered 151 = .ok (.iload 7, 2) := by decide +kernel
theorem d_ESC_readNumbered_153 : decode b_ESC_readNumbered 153 = .ok (.ifCond .eq 11, 3) := by decide +kernel
theorem d_ESC_readNumbered_156 : decode b_ESC_readNumbered 156 = .ok (.iload 6, 2) := by decide +kernel
theorem d_ESC_readNumbered_158 : decode b_ESC_readNumbered 158 = .ok (.invokestatic 89, 3) := by decide +kernel
theorem d_ESC_readNumbered_161 : decode b_ESC_readNumbered 161 = .ok (.ifCond .ne 5, 3) := by decide +kernel
theorem d_ESC_readNumbered_164 : decode b_ESC_readNumbered 164 = .ok (.iconst 5, 1) := by decide +kernel
theorem d_ESC_readNumbered_165 : decode b_ESC_readNumbered 165 = .ok (.ireturn, 1) := by decide +kernel
theorem d_ESC_readNumbered_166 : decode b_ESC_readNumbered 166 = .ok (.aload_n 0, 1) := by decide +kernel
theorem d_ESC_readNumbered_167 : decode b_ESC_readNumbered 167 = .ok (.iload_n 3, 1) := by decide +kernel
theorem d_ESC_readNumbered_168 : decode b_ESC_readNumbered 168 = .ok (.iload 5, 2) := by decide +kernel
theorem d_ESC_readNumbered_170 : decode b_ESC_readNumbered 170 = .ok (.iadd, 1) := by decide +kernel
theorem d_ESC_readNumbered_171 : decode b_ESC_readNumbered 171 = .ok (.iload_n 2, 1) := by decide +kernel
theorem d_ESC_readNumbered_172 : decode b_ESC_readNumbered 172 = .ok (.ifCond .eq 7, 3) := by decide +kernel
theorem d_ESC_readNumbered_175 : decode b_ESC_readNumbered 175 = .ok (.iconst 1, 1) := by decide +kernel
theorem d_ESC_readNumbered_176 : decode b_ESC_readNumbered 176 = .ok (.goto 4, 3) := by decide +kernel
theorem d_ESC_readNumbered_179 : decode b_ESC_readNumbered 179 = .ok (.iconst 0, 1) := by decide +kernel
theorem d_ESC_readNumbered_180 : decode b_ESC_readNumbered 180 = .ok (.iadd, 1) := by decide +kernel
theorem d_ESC_readNumbered_181 : decode b_ESC_readNumbered 181 = .ok (.putfield 29, 3) := by decide +kernel
theorem d_ESC_readNumbered_184 : decode b_ESC_readNumbered 184 = .ok (.aload_n 0, 1) := by decide +kernel
theorem d_ESC_readNumbered_185 : decode b_ESC_readNumbered 185 = .ok (.iconst 0, 1) := by decide +kernel
theorem d_ESC_readNumbered_186 : decode b_ESC_readNumbered 186 = .ok (.iload 6, 2) := by decide +kernel
theorem d_ESC_readNumbered_188 : decode b_ESC_readNumbered 188 = .ok (.invokevirtual 67, 3) := by decide +kernel
theorem d_ESC_readNumbered_191 : decode b_ESC_readNumbered 191 = .ok (.ireturn, 1) := by decide +kernel
theorem d_ESC_foundSet_0 : decode b_ESC_foundSet 0 = .ok (.aload_n 0, 1) := by decide +kernel
theorem d_ESC_foundSet_1 : decode b_ESC_foundSet 1 = .ok (.iconst 1, 1) := by decide +kernel
theorem d_ESC_foundSet_2 : decode b_ESC_foundSet 2 = .ok (.putfield 9, 3) := by decide +kernel
theorem d_ESC_foundSet_5 : decode b_ESC_foundSet 5 = .ok (.aload_n 0, 1) := by decide +kernel
theorem d_ESC_foundSet_6 : decode b_ESC_foundSet 6 = .ok (.iconst (-1), 1) := by decide +kernel
theorem d_ESC_foundSet_7 : decode b_ESC_foundSet 7 = .ok (.putfield 15, 3) := by decide +kernel
theorem d_ESC_foundSet_10 : decode b_ESC_foundSet 10 = .ok (.aload_n 0, 1) := by decide +kernel
theorem d_ESC_foundSet_11 : decode b_ESC_foundSet 11 = .ok (.aload_n 1, 1) := by decide +kernel
theorem d_ESC_foundSet_12 : decode b_ESC_foundSet 12 = .ok (.putfield 22, 3) := by decide +kernel
theorem d_ESC_foundSet_15 : decode b_ESC_foundSet 15 = .ok (.aload_n 0, 1) := by decide +kernel
theorem d_ESC_foundSet_16 : decode b_ESC_foundSet 16 = .ok (.iload_n 2, 1) := by decide +kernel
theorem d_ESC_foundSet_17 : decode b_ESC_foundSet 17 = .ok (.putfield 25, 3) := by decide +kernel
theorem d_ESC_foundSet_20 : decode b_ESC_foundSet 20 = .ok (.iconst 0, 1) := by decide +kernel
theorem d_ESC_foundSet_21 : decode b_ESC_foundSet 21 = .ok (.ireturn, 1) := by decide +kernel
theorem d_ESC_propertyOf_0 : decode b_ESC_propertyOf 0 = .ok (.iload_n 0, 1) := by decide +kernel
theorem d_ESC_propertyOf_1 : decode b_ESC_propertyOf 1 = .ok (.lookupswitch 59 #[(71, 51), (76, 43), (78, 47), (89, 55)], 43) := by decide +kernel
theorem d_ESC_propertyOf_44 : decode b_ESC_propertyOf 44 = .ok (.getstatic 49, 3) := by decide +kernel
