theorem d_MOD_escaped_11 : decode b_MOD_escaped 11 = .ok (.iadd, 1) := by decide +kernel
theorem d_MOD_escaped_12 : decode b_MOD_escaped 12 = .ok (.putfield 187, 3) := by decide +kernel
theorem d_MOD_escaped_15 : decode b_MOD_escaped 15 = .ok (.iload_n 2, 1) := by decide +kernel
theorem d_MOD_escaped_16 : decode b_MOD_escaped 16 = .ok (.tableswitch 138 97 120 #[112, 138, 138, 138, 138, 115, 138, 138, 138, 138, 138, 138, 138, 118, 138, 138, 138, 121, 138, 124, 138, 127, 138, 130], 112) := by decide +kernel
theorem d_MOD_escaped_128 : decode b_MOD_escaped 128 = .ok (.bipush 7, 2) := by decide +kernel
theorem d_MOD_escaped_130 : decode b_MOD_escaped 130 = .ok (.ireturn, 1) := by decide +kernel
theorem d_MOD_escaped_131 : decode b_MOD_escaped 131 = .ok (.bipush 12, 2) := by decide +kernel
theorem d_MOD_escaped_133 : decode b_MOD_escaped 133 = .ok (.ireturn, 1) := by decide +kernel
theorem d_MOD_escaped_134 : decode b_MOD_escaped 134 = .ok (.bipush 10, 2) := by decide +kernel
theorem d_MOD_escaped_136 : decode b_MOD_escaped 136 = .ok (.ireturn, 1) := by decide +kernel
theorem d_MOD_escaped_137 : decode b_MOD_escaped 137 = .ok (.bipush 13, 2) := by decide +kernel
theorem d_MOD_escaped_139 : decode b_MOD_escaped 139 = .ok (.ireturn, 1) := by decide +kernel
theorem d_MOD_escaped_140 : decode b_MOD_escaped 140 = .ok (.bipush 9, 2) := by decide +kernel
theorem d_MOD_escaped_142 : decode b_MOD_escaped 142 = .ok (.ireturn, 1) := by decide +kernel
theorem d_MOD_escaped_143 : decode b_MOD_escaped 143 = .ok (.bipush 11, 2) := by decide +kernel
theorem d_MOD_escaped_145 : decode b_MOD_escaped 145 = .ok (.ireturn, 1) := by decide +kernel
theorem d_MOD_escaped_146 : decode b_MOD_escaped 146 = .ok (.aload_n 0, 1) := by decide +kernel
theorem d_MOD_escaped_147 : decode b_MOD_escaped 147 = .ok (.iload_n 1, 1) := by decide +kernel
theorem d_MOD_escaped_148 : decode b_MOD_escaped 148 = .ok (.iconst 2, 1) := by decide +kernel
theorem d_MOD_escaped_149 : decode b_MOD_escaped 149 = .ok (.iadd, 1) := by decide +kernel
theorem d_MOD_escaped_150 : decode b_MOD_escaped 150 = .ok (.invokevirtual 197, 3) := by decide +kernel
theorem d_MOD_escaped_153 : decode b_MOD_escaped 153 = .ok (.ireturn, 1) := by decide +kernel
theorem d_MOD_escaped_154 : decode b_MOD_escaped 154 = .ok (.iload_n 2, 1) := by decide +kernel
theorem d_MOD_escaped_155 : decode b_MOD_escaped 155 = .ok (.ifCond .lt 29, 3) := by decide +kernel
theorem d_MOD_escaped_158 : decode b_MOD_escaped 158 = .ok (.iload_n 2, 1) := by decide +kernel
theorem d_MOD_escaped_159 : decode b_MOD_escaped 159 = .ok (.bipush 127, 2) := by decide +kernel
theorem d_MOD_escaped_161 : decode b_MOD_escaped 161 = .ok (.if_icmp .gt 23, 3) := by decide +kernel
theorem d_MOD_escaped_164 : decode b_MOD_escaped 164 = .ok (.iload_n 2, 1) := by decide +kernel
theorem d_MOD_escaped_165 : decode b_MOD_escaped 165 = .ok (.invokestatic 200, 3) := by decide +kernel
theorem d_MOD_escaped_168 : decode b_MOD_escaped 168 = .ok (.ifCond .ne 16, 3) := by decide +kernel
theorem d_MOD_escaped_171 : decode b_MOD_escaped 171 = .ok (.iload_n 2, 1) := by decide +kernel
theorem d_MOD_escaped_172 : decode b_MOD_escaped 172 = .ok (.invokestatic 179, 3) := by decide +kernel
theorem d_MOD_escaped_175 : decode b_MOD_escaped 175 = .ok (.ifCond .ne 9, 3) := by decide +kernel
theorem d_MOD_escaped_178 : decode b_MOD_escaped 178 = .ok (.iload_n 2, 1) := by decide +kernel
theorem d_MOD_escaped_179 : decode b_MOD_escaped 179 = .ok (.bipush 95, 2) := by decide +kernel
theorem d_MOD_escaped_181 : decode b_MOD_escaped 181 = .ok (.if_icmp .ne 7, 3) := by decide +kernel
theorem d_MOD_escaped_184 : decode b_MOD_escaped 184 = .ok (.iconst (-1), 1) := by decide +kernel
theorem d_MOD_escaped_185 : decode b_MOD_escaped 185 = .ok (.goto 4, 3) := by decide +kernel
theorem d_MOD_escaped_188 : decode b_MOD_escaped 188 = .ok (.iload_n 2, 1) := by decide +kernel
theorem d_MOD_escaped_189 : decode b_MOD_escaped 189 = .ok (.ireturn, 1) := by decide +kernel
theorem d_MOD_fill_0 : decode b_MOD_fill 0 = .ok (.aload_n 0, 1) := by decide +kernel
theorem d_MOD_fill_1 : decode b_MOD_fill 1 = .ok (.iconst 1, 1) := by decide +kernel
theorem d_MOD_fill_2 : decode b_MOD_fill 2 = .ok (.invokevirtual 103, 3) := by decide +kernel
theorem d_MOD_fill_5 : decode b_MOD_fill 5 = .ok (.iload_n 2, 1) := by decide +kernel
theorem d_MOD_fill_6 : decode b_MOD_fill 6 = .ok (.istore 4, 2) := by decide +kernel
theorem d_MOD_fill_8 : decode b_MOD_fill 8 = .ok (.iload 4, 2) := by decide +kernel
theorem d_MOD_fill_10 : decode b_MOD_fill 10 = .ok (.iload_n 3, 1) := by decide +kernel
theorem d_MOD_fill_11 : decode b_MOD_fill 11 = .ok (.if_icmp .ge 24, 3) := by decide +kernel
theorem d_MOD_fill_14 : decode b_MOD_fill 14 = .ok (.aload_n 0, 1) := by decide +kernel
theorem d_MOD_fill_15 : decode b_MOD_fill 15 = .ok (.iconst 1, 1) := by decide +kernel
theorem d_MOD_fill_16 : decode b_MOD_fill 16 = .ok (.aload_n 1, 1) := by decide +kernel
theorem d_MOD_fill_17 : decode b_MOD_fill 17 = .ok (.iload 4, 2) := by decide +kernel
theorem d_MOD_fill_19 : decode b_MOD_fill 19 = .ok (.iaload, 1) := by decide +kernel
theorem d_MOD_fill_20 : decode b_MOD_fill 20 = .ok (.aload_n 1, 1) := by decide +kernel
theorem d_MOD_fill_21 : decode b_MOD_fill 21 = .ok (.iload 4, 2) := by decide +kernel
theorem d_MOD_fill_23 : decode b_MOD_fill 23 = .ok (.iconst 1, 1) := by decide +kernel
theorem d_MOD_fill_24 : decode b_MOD_fill 24 = .ok (.iadd, 1) := by decide +kernel
theorem d_MOD_fill_25 : decode b_MOD_fill 25 = .ok (.iaload, 1) := by decide +kernel
theorem d_MOD_fill_26 : decode b_MOD_fill 26 = .ok (.invokevirtual 98, 3) := by decide +kernel
theorem d_MOD_fill_29 : decode b_MOD_fill 29 = .ok (.iinc 4 2, 3) := by decide +kernel
theorem d_MOD_fill_32 : decode b_MOD_fill 32 = .ok (.goto (-24), 3) := by decide +kernel
theorem d_MOD_fill_35 : decode b_MOD_fill 35 = .ok (.return_, 1) := by decide +kernel
theorem d_MOD_largeAt_0 : decode b_MOD_largeAt 0 = .ok (.aload_n 0, 1) := by decide +kernel
theorem d_MOD_largeAt_1 : decode b_MOD_largeAt 1 = .ok (.iload_n 1, 1) := by decide +kernel
theorem d_MOD_largeAt_2 : decode b_MOD_largeAt 2 = .ok (.invokevirtual 183, 3) := by decide +kernel
theorem d_MOD_largeAt_5 : decode b_MOD_largeAt 5 = .ok (.istore_n 2, 1) := by decide +kernel
theorem d_MOD_largeAt_6 : decode b_MOD_largeAt 6 = .ok (.aload_n 0, 1) := by decide +kernel
theorem d_MOD_largeAt_7 : decode b_MOD_largeAt 7 = .ok (.iload_n 1, 1) := by decide +kernel
theorem d_MOD_largeAt_8 : decode b_MOD_largeAt 8 = .ok (.iconst 1, 1) := by decide +kernel
theorem d_MOD_largeAt_9 : decode b_MOD_largeAt 9 = .ok (.iadd, 1) := by decide +kernel
theorem d_MOD_largeAt_10 : decode b_MOD_largeAt 10 = .ok (.putfield 187, 3) := by decide +kernel
theorem d_MOD_largeAt_13 : decode b_MOD_largeAt 13 = .ok (.iload_n 2, 1) := by decide +kernel
theorem d_MOD_largeAt_14 : decode b_MOD_largeAt 14 = .ok (.iconst (-1), 1) := by decide +kernel
theorem d_MOD_largeAt_15 : decode b_MOD_largeAt 15 = .ok (.if_icmp .ne 6, 3) := by decide +kernel
theorem d_MOD_largeAt_18 : decode b_MOD_largeAt 18 = .ok (.bipush (-5), 2) := by decide +kernel
theorem d_MOD_largeAt_20 : decode b_MOD_largeAt 20 = .ok (.ireturn, 1) := by decide +kernel
theorem d_MOD_largeAt_21 : decode b_MOD_largeAt 21 = .ok (.iload_n 2, 1) := by decide +kernel
theorem d_MOD_largeAt_22 : decode b_MOD_largeAt 22 = .ok (.bipush 76, 2) := by decide +kernel
theorem d_MOD_largeAt_24 : decode b_MOD_largeAt 24 = .ok (.if_icmp .ne 17, 3) := by decide +kernel
theorem d_MOD_largeAt_27 : decode b_MOD_largeAt 27 = .ok (.aload_n 0, 1) := by decide +kernel
theorem d_MOD_largeAt_28 : decode b_MOD_largeAt 28 = .ok (.aload_n 0, 1) := by decide +kernel
theorem d_MOD_largeAt_29 : decode b_MOD_largeAt 29 = .ok (.getfield 86, 3) := by decide +kernel
theorem d_MOD_largeAt_32 : decode b_MOD_largeAt 32 = .ok (.iconst 0, 1) := by decide +kernel
theorem d_MOD_largeAt_33 : decode b_MOD_largeAt 33 = .ok (.bipush 20, 2) := by decide +kernel
theorem d_MOD_largeAt_35 : decode b_MOD_largeAt 35 = .ok (.invokevirtual 209, 3) := by decide +kernel
theorem d_MOD_largeAt_38 : decode b_MOD_largeAt 38 = .ok (.goto 69, 3) := by decide +kernel
theorem d_MOD_largeAt_41 : decode b_MOD_largeAt 41 = .ok (.iload_n 2, 1) := by decide +kernel
theorem d_MOD_largeAt_42 : decode b_MOD_largeAt 42 = .ok (.bipush 78, 2) := by decide +kernel
theorem d_MOD_largeAt_44 : decode b_MOD_largeAt 44 = .ok (.if_icmp .ne 18, 3) := by decide +kernel
theorem d_MOD_largeAt_47 : decode b_MOD_largeAt 47 = .ok (.aload_n 0, 1) := by decide +kernel
theorem d_MOD_largeAt_48 : decode b_MOD_largeAt 48 = .ok (.aload_n 0, 1) := by decide +kernel
theorem d_MOD_largeAt_49 : decode b_MOD_largeAt 49 = .ok (.getfield 86, 3) := by decide +kernel
theorem d_MOD_largeAt_52 : decode b_MOD_largeAt 52 = .ok (.bipush 20, 2) := by decide +kernel
theorem d_MOD_largeAt_54 : decode b_MOD_largeAt 54 = .ok (.bipush 28, 2) := by decide +kernel
theorem d_MOD_largeAt_56 : decode b_MOD_largeAt 56 = .ok (.invokevirtual 209, 3) := by decide +kernel
theorem d_MOD_largeAt_59 : decode b_MOD_largeAt 59 = .ok (.goto 48, 3) := by decide +kernel
theorem d_MOD_largeAt_62 : decode b_MOD_largeAt 62 = .ok (.iload_n 2, 1) := by decide +kernel
theorem d_MOD_largeAt_63 : decode b_MOD_largeAt 63 = .ok (.bipush 71, 2) := by decide +kernel
theorem d_MOD_largeAt_65 : decode b_MOD_largeAt 65 = .ok (.if_icmp .ne 18, 3) := by decide +kernel
theorem d_MOD_largeAt_68 : decode b_MOD_largeAt 68 = .ok (.aload_n 0, 1) := by decide +kernel
theorem d_MOD_largeAt_69 : decode b_MOD_largeAt 69 = .ok (.aload_n 0, 1) := by decide +kernel
theorem d_MOD_largeAt_70 : decode b_MOD_largeAt 70 = .ok (.getfield 86, 3) := by decide +kernel
theorem d_MOD_largeAt_73 : decode b_MOD_largeAt 73 = .ok (.bipush 16, 2) := by decide +kernel
theorem d_MOD_largeAt_75 : decode b_MOD_largeAt 75 = .ok (.bipush 18, 2) := by decide +kernel
theorem d_MOD_largeAt_77 : decode b_MOD_largeAt 77 = .ok (.invokevirtual 209, 3) := by decide +kernel
theorem d_MOD_largeAt_80 : decode b_MOD_largeAt 80 = .ok (.goto 27, 3) := by decide +kernel
theorem d_MOD_largeAt_83 : decode b_MOD_largeAt 83 = .ok (.iload_n 2, 1) := by decide +kernel
theorem d_MOD_largeAt_84 : decode b_MOD_largeAt 84 = .ok (.bipush 89, 2) := by decide +kernel
theorem d_MOD_largeAt_86 : decode b_MOD_largeAt 86 = .ok (.if_icmp .ne 18, 3) := by decide +kernel
theorem d_MOD_largeAt_89 : decode b_MOD_largeAt 89 = .ok (.aload_n 0, 1) := by decide +kernel
theorem d_MOD_largeAt_90 : decode b_MOD_largeAt 90 = .ok (.aload_n 0, 1) := by decide +kernel
theorem d_MOD_largeAt_91 : decode b_MOD_largeAt 91 = .ok (.getfield 86, 3) := by decide +kernel
theorem d_MOD_largeAt_94 : decode b_MOD_largeAt 94 = .ok (.bipush 18, 2) := by decide +kernel
theorem d_MOD_largeAt_96 : decode b_MOD_largeAt 96 = .ok (.bipush 20, 2) := by decide +kernel
theorem d_MOD_largeAt_98 : decode b_MOD_largeAt 98 = .ok (.invokevirtual 209, 3) := by decide +kernel
theorem d_MOD_largeAt_101 : decode b_MOD_largeAt 101 = .ok (.goto 6, 3) := by decide +kernel
theorem d_MOD_largeAt_104 : decode b_MOD_largeAt 104 = .ok (.bipush (-7), 2) := by decide +kernel
theorem d_MOD_largeAt_106 : decode b_MOD_largeAt 106 = .ok (.ireturn, 1) := by decide +kernel
theorem d_MOD_largeAt_107 : decode b_MOD_largeAt 107 = .ok (.iconst 1, 1) := by decide +kernel
theorem d_MOD_largeAt_108 : decode b_MOD_largeAt 108 = .ok (.ireturn, 1) := by decide +kernel
theorem d_MOD_setAt_0 : decode b_MOD_setAt 0 = .ok (.aload_n 0, 1) := by decide +kernel
theorem d_MOD_setAt_1 : decode b_MOD_setAt 1 = .ok (.iload_n 1, 1) := by decide +kernel
theorem d_MOD_setAt_2 : decode b_MOD_setAt 2 = .ok (.iconst 1, 1) := by decide +kernel
theorem d_MOD_setAt_3 : decode b_MOD_setAt 3 = .ok (.iadd, 1) := by decide +kernel
theorem d_MOD_setAt_4 : decode b_MOD_setAt 4 = .ok (.invokevirtual 183, 3) := by decide +kernel
theorem d_MOD_setAt_7 : decode b_MOD_setAt 7 = .ok (.istore_n 2, 1) := by decide +kernel
theorem d_MOD_setAt_8 : decode b_MOD_setAt 8 = .ok (.iload_n 2, 1) := by decide +kernel
theorem d_MOD_setAt_9 : decode b_MOD_setAt 9 = .ok (.bipush 32, 2) := by decide +kernel
theorem d_MOD_setAt_11 : decode b_MOD_setAt 11 = .ok (.ior, 1) := by decide +kernel
theorem d_MOD_setAt_12 : decode b_MOD_setAt 12 = .ok (.istore_n 3, 1) := by decide +kernel
theorem d_MOD_setAt_13 : decode b_MOD_setAt 13 = .ok (.aload_n 0, 1) := by decide +kernel
theorem d_MOD_setAt_14 : decode b_MOD_setAt 14 = .ok (.iload_n 2, 1) := by decide +kernel
theorem d_MOD_setAt_15 : decode b_MOD_setAt 15 = .ok (.bipush 97, 2) := by decide +kernel
theorem d_MOD_setAt_17 : decode b_MOD_setAt 17 = .ok (.if_icmp .ge 7, 3) := by decide +kernel
theorem d_MOD_setAt_20 : decode b_MOD_setAt 20 = .ok (.iconst 1, 1) := by decide +kernel
theorem d_MOD_setAt_21 : decode b_MOD_setAt 21 = .ok (.goto 4, 3) := by decide +kernel
theorem d_MOD_setAt_24 : decode b_MOD_setAt 24 = .ok (.iconst 0, 1) := by decide +kernel
theorem d_MOD_setAt_25 : decode b_MOD_setAt 25 = .ok (.putfield 206, 3) := by decide +kernel
theorem d_MOD_setAt_28 : decode b_MOD_setAt 28 = .ok (.aload_n 0, 1) := by decide +kernel
theorem d_MOD_setAt_29 : decode b_MOD_setAt 29 = .ok (.iload_n 1, 1) := by decide +kernel
theorem d_MOD_setAt_30 : decode b_MOD_setAt 30 = .ok (.iconst 2, 1) := by decide +kernel
theorem d_MOD_setAt_31 : decode b_MOD_setAt 31 = .ok (.iadd, 1) := by decide +kernel
theorem d_MOD_setAt_32 : decode b_MOD_setAt 32 = .ok (.putfield 187, 3) := by decide +kernel
theorem d_MOD_setAt_35 : decode b_MOD_setAt 35 = .ok (.iload_n 2, 1) := by decide +kernel
theorem d_MOD_setAt_36 : decode b_MOD_setAt 36 = .ok (.bipush 100, 2) := by decide +kernel
theorem d_MOD_setAt_38 : decode b_MOD_setAt 38 = .ok (.if_icmp .eq 9, 3) := by decide +kernel
theorem d_MOD_setAt_41 : decode b_MOD_setAt 41 = .ok (.iload_n 2, 1) := by decide +kernel
theorem d_MOD_setAt_42 : decode b_MOD_setAt 42 = .ok (.bipush 68, 2) := by decide +kernel
theorem d_MOD_setAt_44 : decode b_MOD_setAt 44 = .ok (.if_icmp .ne 16, 3) := by decide +kernel
theorem d_MOD_setAt_47 : decode b_MOD_setAt 47 = .ok (.aload_n 0, 1) := by decide +kernel
theorem d_MOD_setAt_48 : decode b_MOD_setAt 48 = .ok (.aload_n 0, 1) := by decide +kernel
theorem d_MOD_setAt_49 : decode b_MOD_setAt 49 = .ok (.getfield 83, 3) := by decide +kernel
theorem d_MOD_setAt_52 : decode b_MOD_setAt 52 = .ok (.iconst 0, 1) := by decide +kernel
theorem d_MOD_setAt_53 : decode b_MOD_setAt 53 = .ok (.iconst 2, 1) := by decide +kernel
theorem d_MOD_setAt_54 : decode b_MOD_setAt 54 = .ok (.invokevirtual 209, 3) := by decide +kernel
theorem d_MOD_setAt_57 : decode b_MOD_setAt 57 = .ok (.goto 112, 3) := by decide +kernel
theorem d_MOD_setAt_60 : decode b_MOD_setAt 60 = .ok (.iload_n 2, 1) := by decide +kernel
theorem d_MOD_setAt_61 : decode b_MOD_setAt 61 = .ok (.bipush 115, 2) := by decide +kernel
theorem d_MOD_setAt_63 : decode b_MOD_setAt 63 = .ok (.if_icmp .eq 9, 3) := by decide +kernel
theorem d_MOD_setAt_66 : decode b_MOD_setAt 66 = .ok (.iload_n 2, 1) := by decide +kernel
theorem d_MOD_setAt_67 : decode b_MOD_setAt 67 = .ok (.bipush 83, 2) := by decide +kernel
theorem d_MOD_setAt_69 : decode b_MOD_setAt 69 = .ok (.if_icmp .ne 17, 3) := by decide +kernel
theorem d_MOD_setAt_72 : decode b_MOD_setAt 72 = .ok (.aload_n 0, 1) := by decide +kernel
theorem d_MOD_setAt_73 : decode b_MOD_setAt 73 = .ok (.aload_n 0, 1) := by decide +kernel
theorem d_MOD_setAt_74 : decode b_MOD_setAt 74 = .ok (.getfield 83, 3) := by decide +kernel
theorem d_MOD_setAt_77 : decode b_MOD_setAt 77 = .ok (.iconst 2, 1) := by decide +kernel
theorem d_MOD_setAt_78 : decode b_MOD_setAt 78 = .ok (.bipush 8, 2) := by decide +kernel
theorem d_MOD_setAt_80 : decode b_MOD_setAt 80 = .ok (.invokevirtual 209, 3) := by decide +kernel
theorem d_MOD_setAt_83 : decode b_MOD_setAt 83 = .ok (.goto 86, 3) := by decide +kernel
theorem d_MOD_setAt_86 : decode b_MOD_setAt 86 = .ok (.iload_n 2, 1) := by decide +kernel
theorem d_MOD_setAt_87 : decode b_MOD_setAt 87 = .ok (.bipush 119, 2) := by decide +kernel
theorem d_MOD_setAt_89 : decode b_MOD_setAt 89 = .ok (.if_icmp .eq 9, 3) := by decide +kernel
theorem d_MOD_setAt_92 : decode b_MOD_setAt 92 = .ok (.iload_n 2, 1) := by decide +kernel
theorem d_MOD_setAt_93 : decode b_MOD_setAt 93 = .ok (.bipush 87, 2) := by decide +kernel
theorem d_MOD_setAt_95 : decode b_MOD_setAt 95 = .ok (.if_icmp .ne 18, 3) := by decide +kernel
theorem d_MOD_setAt_98 : decode b_MOD_setAt 98 = .ok (.aload_n 0, 1) := by decide +kernel
theorem d_MOD_setAt_99 : decode b_MOD_setAt 99 = .ok (.aload_n 0, 1) := by decide +kernel
theorem d_MOD_setAt_100 : decode b_MOD_setAt 100 = .ok (.getfield 83, 3) := by decide +kernel
theorem d_MOD_setAt_103 : decode b_MOD_setAt 103 = .ok (.bipush 8, 2) := by decide +kernel
theorem d_MOD_setAt_105 : decode b_MOD_setAt 105 = .ok (.bipush 16, 2) := by decide +kernel
theorem d_MOD_setAt_107 : decode b_MOD_setAt 107 = .ok (.invokevirtual 209, 3) := by decide +kernel
theorem d_MOD_setAt_110 : decode b_MOD_setAt 110 = .ok (.goto 59, 3) := by decide +kernel
theorem d_MOD_setAt_113 : decode b_MOD_setAt 113 = .ok (.iload_n 2, 1) := by decide +kernel
theorem d_MOD_setAt_114 : decode b_MOD_setAt 114 = .ok (.bipush 112, 2) := by decide +kernel
theorem d_MOD_setAt_116 : decode b_MOD_setAt 116 = .ok (.if_icmp .eq 9, 3) := by decide +kernel
theorem d_MOD_setAt_119 : decode b_MOD_setAt 119 = .ok (.iload_n 2, 1) := by decide +kernel
theorem d_MOD_setAt_120 : decode b_MOD_setAt 120 = .ok (.bipush 80, 2) := by decide +kernel
theorem d_MOD_setAt_122 : decode b_MOD_setAt 122 = .ok (.if_icmp .ne 11, 3) := by decide +kernel
theorem d_MOD_setAt_125 : decode b_MOD_setAt 125 = .ok (.aload_n 0, 1) := by decide +kernel
theorem d_MOD_setAt_126 : decode b_MOD_setAt 126 = .ok (.iload_n 1, 1) := by decide +kernel
theorem d_MOD_setAt_127 : decode b_MOD_setAt 127 = .ok (.iconst 2, 1) := by decide +kernel
theorem d_MOD_setAt_128 : decode b_MOD_setAt 128 = .ok (.iadd, 1) := by decide +kernel
theorem d_MOD_setAt_129 : decode b_MOD_setAt 129 = .ok (.invokevirtual 213, 3) := by decide +kernel
theorem d_MOD_setAt_132 : decode b_MOD_setAt 132 = .ok (.ireturn, 1) := by decide +kernel
theorem d_MOD_setAt_133 : decode b_MOD_setAt 133 = .ok (.iload_n 2, 1) := by decide +kernel
theorem d_MOD_setAt_134 : decode b_MOD_setAt 134 = .ok (.iconst (-1), 1) := by decide +kernel
theorem d_MOD_setAt_135 : decode b_MOD_setAt 135 = .ok (.if_icmp .eq 27, 3) := by decide +kernel
theorem d_MOD_setAt_138 : decode b_MOD_setAt 138 = .ok (.iload_n 2, 1) := by decide +kernel
theorem d_MOD_setAt_139 : decode b_MOD_setAt 139 = .ok (.bipush 65, 2) := by decide +kernel
theorem d_MOD_setAt_141 : decode b_MOD_setAt 141 = .ok (.if_icmp .eq 21, 3) := by decide +kernel
theorem d_MOD_setAt_144 : decode b_MOD_setAt 144 = .ok (.iload_n 2, 1) := by decide +kernel
theorem d_MOD_setAt_145 : decode b_MOD_setAt 145 = .ok (.bipush 122, 2) := by decide +kernel
theorem d_MOD_setAt_147 : decode b_MOD_setAt 147 = .ok (.if_icmp .eq 15, 3) := by decide +kernel
theorem d_MOD_setAt_150 : decode b_MOD_setAt 150 = .ok (.iload_n 3, 1) := by decide +kernel
theorem d_MOD_setAt_151 : decode b_MOD_setAt 151 = .ok (.bipush 98, 2) := by decide +kernel
theorem d_MOD_setAt_153 : decode b_MOD_setAt 153 = .ok (.if_icmp .eq 9, 3) := by decide +kernel
theorem d_MOD_setAt_156 : decode b_MOD_setAt 156 = .ok (.iload_n 2, 1) := by decide +kernel
theorem d_MOD_setAt_157 : decode b_MOD_setAt 157 = .ok (.bipush 67, 2) := by decide +kernel
theorem d_MOD_setAt_159 : decode b_MOD_setAt 159 = .ok (.if_icmp .ne 8, 3) := by decide +kernel
theorem d_MOD_setAt_162 : decode b_MOD_setAt 162 = .ok (.bipush (-5), 2) := by decide +kernel
theorem d_MOD_setAt_164 : decode b_MOD_setAt 164 = .ok (.goto 4, 3) := by decide +kernel
theorem d_MOD_setAt_167 : decode b_MOD_setAt 167 = .ok (.iconst 0, 1) := by decide +kernel
theorem d_MOD_setAt_168 : decode b_MOD_setAt 168 = .ok (.ireturn, 1) := by decide +kernel
theorem d_MOD_setAt_169 : decode b_MOD_setAt 169 = .ok (.iconst 1, 1) := by decide +kernel
theorem d_MOD_setAt_170 : decode b_MOD_setAt 170 = .ok (.ireturn, 1) := by decide +kernel
theorem d_MOD_escapeOfCharacters_0 : decode b_MOD_escapeOfCharacters 0 = .ok (.aload_n 0, 1) := by decide +kernel
theorem d_MOD_escapeOfCharacters_1 : decode b_MOD_escapeOfCharacters 1 = .ok (.iload_n 1, 1) := by decide +kernel
theorem d_MOD_escapeOfCharacters_2 : decode b_MOD_escapeOfCharacters 2 = .ok (.invokevirtual 225, 3) := by decide +kernel
theorem d_MOD_escapeOfCharacters_5 : decode b_MOD_escapeOfCharacters 5 = .ok (.istore_n 2, 1) := by decide +kernel
theorem d_MOD_escapeOfCharacters_6 : decode b_MOD_escapeOfCharacters 6 = .ok (.iload_n 2, 1) := by decide +kernel
theorem d_MOD_escapeOfCharacters_7 : decode b_MOD_escapeOfCharacters 7 = .ok (.ifCond .ge 11, 3) := by decide +kernel
theorem d_MOD_escapeOfCharacters_10 : decode b_MOD_escapeOfCharacters 10 = .ok (.aload_n 0, 1) := by decide +kernel
theorem d_MOD_escapeOfCharacters_11 : decode b_MOD_escapeOfCharacters 11 = .ok (.iload_n 2, 1) := by decide +kernel
theorem d_MOD_escapeOfCharacters_12 : decode b_MOD_escapeOfCharacters 12 = .ok (.ineg, 1) := by decide +kernel
theorem d_MOD_escapeOfCharacters_13 : decode b_MOD_escapeOfCharacters 13 = .ok (.iload_n 1, 1) := by decide +kernel
theorem d_MOD_escapeOfCharacters_14 : decode b_MOD_escapeOfCharacters 14 = .ok (.invokevirtual 228, 3) := by decide +kernel
theorem d_MOD_escapeOfCharacters_17 : decode b_MOD_escapeOfCharacters 17 = .ok (.return_, 1) := by decide +kernel
theorem d_MOD_escapeOfCharacters_18 : decode b_MOD_escapeOfCharacters 18 = .ok (.iload_n 2, 1) := by decide +kernel
theorem d_MOD_escapeOfCharacters_19 : decode b_MOD_escapeOfCharacters 19 = .ok (.iconst 1, 1) := by decide +kernel
theorem d_MOD_escapeOfCharacters_20 : decode b_MOD_escapeOfCharacters 20 = .ok (.if_icmp .ne 29, 3) := by decide +kernel
theorem d_MOD_escapeOfCharacters_23 : decode b_MOD_escapeOfCharacters 23 = .ok (.aload_n 0, 1) := by decide +kernel
theorem d_MOD_escapeOfCharacters_24 : decode b_MOD_escapeOfCharacters 24 = .ok (.aload_n 0, 1) := by decide +kernel
theorem d_MOD_escapeOfCharacters_25 : decode b_MOD_escapeOfCharacters 25 = .ok (.getfield 187, 3) := by decide +kernel
theorem d_MOD_escapeOfCharacters_28 : decode b_MOD_escapeOfCharacters 28 = .ok (.putfield 216, 3) := by decide +kernel
theorem d_MOD_escapeOfCharacters_31 : decode b_MOD_escapeOfCharacters 31 = .ok (.aload_n 0, 1) := by decide +kernel
theorem d_MOD_escapeOfCharacters_32 : decode b_MOD_escapeOfCharacters 32 = .ok (.iconst 0, 1) := by decide +kernel
theorem d_MOD_escapeOfCharacters_33 : decode b_MOD_escapeOfCharacters 33 = .ok (.invokevirtual 103, 3) := by decide +kernel
theorem d_MOD_escapeOfCharacters_36 : decode b_MOD_escapeOfCharacters 36 = .ok (.aload_n 0, 1) := by decide +kernel
theorem d_MOD_escapeOfCharacters_37 : decode b_MOD_escapeOfCharacters 37 = .ok (.aload_n 0, 1) := by decide +kernel
theorem d_MOD_escapeOfCharacters_38 : decode b_MOD_escapeOfCharacters 38 = .ok (.getfield 206, 3) := by decide +kernel
theorem d_MOD_escapeOfCharacters_41 : decode b_MOD_escapeOfCharacters 41 = .ok (.invokevirtual 107, 3) := by decide +kernel
theorem d_MOD_escapeOfCharacters_44 : decode b_MOD_escapeOfCharacters 44 = .ok (.aload_n 0, 1) := by decide +kernel
theorem d_MOD_escapeOfCharacters_45 : decode b_MOD_escapeOfCharacters 45 = .ok (.invokevirtual 167, 3) := by decide +kernel
theorem d_MOD_escapeOfCharacters_48 : decode b_MOD_escapeOfCharacters 48 = .ok (.return_, 1) := by decide +kernel
theorem d_MOD_escapeOfCharacters_49 : decode b_MOD_escapeOfCharacters 49 = .ok (.aload_n 0, 1) := by decide +kernel
theorem d_MOD_escapeOfCharacters_50 : decode b_MOD_escapeOfCharacters 50 = .ok (.iload_n 1, 1) := by decide +kernel
theorem d_MOD_escapeOfCharacters_51 : decode b_MOD_escapeOfCharacters 51 = .ok (.invokevirtual 231, 3) := by decide +kernel
theorem d_MOD_escapeOfCharacters_54 : decode b_MOD_escapeOfCharacters 54 = .ok (.istore_n 3, 1) := by decide +kernel
theorem d_MOD_escapeOfCharacters_55 : decode b_MOD_escapeOfCharacters 55 = .ok (.aload_n 0, 1) := by decide +kernel
theorem d_MOD_escapeOfCharacters_56 : decode b_MOD_escapeOfCharacters 56 = .ok (.aload_n 0, 1) := by decide +kernel
theorem d_MOD_escapeOfCharacters_57 : decode b_MOD_escapeOfCharacters 57 = .ok (.getfield 187, 3) := by decide +kernel
theorem d_MOD_escapeOfCharacters_60 : decode b_MOD_escapeOfCharacters 60 = .ok (.putfield 216, 3) := by decide +kernel
theorem d_MOD_escapeOfCharacters_63 : decode b_MOD_escapeOfCharacters 63 = .ok (.iload_n 3, 1) := by decide +kernel
theorem d_MOD_escapeOfCharacters_64 : decode b_MOD_escapeOfCharacters 64 = .ok (.ifCond .ge 12, 3) := by decide +kernel
theorem d_MOD_escapeOfCharacters_67 : decode b_MOD_escapeOfCharacters 67 = .ok (.aload_n 0, 1) := by decide +kernel
theorem d_MOD_escapeOfCharacters_68 : decode b_MOD_escapeOfCharacters 68 = .ok (.iconst 5, 1) := by decide +kernel
theorem d_MOD_escapeOfCharacters_69 : decode b_MOD_escapeOfCharacters 69 = .ok (.iload_n 1, 1) := by decide +kernel
theorem d_MOD_escapeOfCharacters_70 : decode b_MOD_escapeOfCharacters 70 = .ok (.invokevirtual 228, 3) := by decide +kernel
theorem d_MOD_escapeOfCharacters_73 : decode b_MOD_escapeOfCharacters 73 = .ok (.goto 8, 3) := by decide +kernel
theorem d_MOD_escapeOfCharacters_76 : decode b_MOD_escapeOfCharacters 76 = .ok (.aload_n 0, 1) := by decide +kernel
theorem d_MOD_escapeOfCharacters_77 : decode b_MOD_escapeOfCharacters 77 = .ok (.iload_n 3, 1) := by decide +kernel
theorem d_MOD_escapeOfCharacters_78 : decode b_MOD_escapeOfCharacters 78 = .ok (.invokevirtual 234, 3) := by decide +kernel
theorem d_MOD_escapeOfCharacters_81 : decode b_MOD_escapeOfCharacters 81 = .ok (.return_, 1) := by decide +kernel
theorem d_MOD_escape_0 : decode b_MOD_escape 0 = .ok (.aload_n 0, 1) := by decide +kernel
theorem d_MOD_escape_1 : decode b_MOD_escape 1 = .ok (.getfield 216, 3) := by decide +kernel
theorem d_MOD_escape_4 : decode b_MOD_escape 4 = .ok (.istore_n 1, 1) := by decide +kernel
theorem d_MOD_escape_5 : decode b_MOD_escape 5 = .ok (.aload_n 0, 1) := by decide +kernel
theorem d_MOD_escape_6 : decode b_MOD_escape 6 = .ok (.iload_n 1, 1) := by decide +kernel
theorem d_MOD_escape_7 : decode b_MOD_escape 7 = .ok (.iconst 1, 1) := by decide +kernel
theorem d_MOD_escape_8 : decode b_MOD_escape 8 = .ok (.iadd, 1) := by decide +kernel
theorem d_MOD_escape_9 : decode b_MOD_escape 9 = .ok (.invokevirtual 183, 3) := by decide +kernel
theorem d_MOD_escape_12 : decode b_MOD_escape 12 = .ok (.istore_n 2, 1) := by decide +kernel
theorem d_MOD_escape_13 : decode b_MOD_escape 13 = .ok (.aload_n 0, 1) := by decide +kernel
theorem d_MOD_escape_14 : decode b_MOD_escape 14 = .ok (.iload_n 1, 1) := by decide +kernel
theorem d_MOD_escape_15 : decode b_MOD_escape 15 = .ok (.iconst 2, 1) := by decide +kernel
theorem d_MOD_escape_16 : decode b_MOD_escape 16 = .ok (.iadd, 1) := by decide +kernel
theorem d_MOD_escape_17 : decode b_MOD_escape 17 = .ok (.putfield 216, 3) := by decide +kernel
theorem d_MOD_escape_20 : decode b_MOD_escape 20 = .ok (.iload_n 2, 1) := by decide +kernel
theorem d_MOD_escape_21 : decode b_MOD_escape 21 = .ok (.bipush 65, 2) := by decide +kernel
theorem d_MOD_escape_23 : decode b_MOD_escape 23 = .ok (.if_icmp .ne 11, 3) := by decide +kernel
theorem d_MOD_escape_26 : decode b_MOD_escape 26 = .ok (.aload_n 0, 1) := by decide +kernel
theorem d_MOD_escape_27 : decode b_MOD_escape 27 = .ok (.iconst 0, 1) := by decide +kernel
theorem d_MOD_escape_28 : decode b_MOD_escape 28 = .ok (.invokevirtual 219, 3) := by decide +kernel
theorem d_MOD_escape_31 : decode b_MOD_escape 31 = .ok (.goto 71, 3) := by decide +kernel
theorem d_MOD_escape_34 : decode b_MOD_escape 34 = .ok (.iload_n 2, 1) := by decide +kernel
theorem d_MOD_escape_35 : decode b_MOD_escape 35 = .ok (.bipush 122, 2) := by decide +kernel
theorem d_MOD_escape_37 : decode b_MOD_escape 37 = .ok (.if_icmp .ne 11, 3) := by decide +kernel
theorem d_MOD_escape_40 : decode b_MOD_escape 40 = .ok (.aload_n 0, 1) := by decide +kernel
theorem d_MOD_escape_41 : decode b_MOD_escape 41 = .ok (.iconst 1, 1) := by decide +kernel
theorem d_MOD_escape_42 : decode b_MOD_escape 42 = .ok (.invokevirtual 219, 3) := by decide +kernel
theorem d_MOD_escape_45 : decode b_MOD_escape 45 = .ok (.goto 57, 3) := by decide +kernel
theorem d_MOD_escape_48 : decode b_MOD_escape 48 = .ok (.iload_n 2, 1) := by decide +kernel
theorem d_MOD_escape_49 : decode b_MOD_escape 49 = .ok (.bipush 98, 2) := by decide +kernel
theorem d_MOD_escape_51 : decode b_MOD_escape 51 = .ok (.if_icmp .ne 11, 3) := by decide +kernel
theorem d_MOD_escape_54 : decode b_MOD_escape 54 = .ok (.aload_n 0, 1) := by decide +kernel
theorem d_MOD_escape_55 : decode b_MOD_escape 55 = .ok (.iconst 4, 1) := by decide +kernel
theorem d_MOD_escape_56 : decode b_MOD_escape 56 = .ok (.invokevirtual 219, 3) := by decide +kernel
theorem d_MOD_escape_59 : decode b_MOD_escape 59 = .ok (.goto 43, 3) := by decide +kernel
theorem d_MOD_escape_62 : decode b_MOD_escape 62 = .ok (.iload_n 2, 1) := by decide +kernel
theorem d_MOD_escape_63 : decode b_MOD_escape 63 = .ok (.bipush 66, 2) := by decide +kernel
theorem d_MOD_escape_65 : decode b_MOD_escape 65 = .ok (.if_icmp .ne 11, 3) := by decide +kernel
theorem d_MOD_escape_68 : decode b_MOD_escape 68 = .ok (.aload_n 0, 1) := by decide +kernel
theorem d_MOD_escape_69 : decode b_MOD_escape 69 = .ok (.iconst 5, 1) := by decide +kernel
theorem d_MOD_escape_70 : decode b_MOD_escape 70 = .ok (.invokevirtual 219, 3) := by decide +kernel
theorem d_MOD_escape_73 : decode b_MOD_escape 73 = .ok (.goto 29, 3) := by decide +kernel
theorem d_MOD_escape_76 : decode b_MOD_escape 76 = .ok (.iload_n 2, 1) := by decide +kernel
theorem d_MOD_escape_77 : decode b_MOD_escape 77 = .ok (.bipush 67, 2) := by decide +kernel
theorem d_MOD_escape_79 : decode b_MOD_escape 79 = .ok (.if_icmp .ne 18, 3) := by decide +kernel
theorem d_MOD_escape_82 : decode b_MOD_escape 82 = .ok (.aload_n 0, 1) := by decide +kernel
theorem d_MOD_escape_83 : decode b_MOD_escape 83 = .ok (.iconst 2, 1) := by decide +kernel
theorem d_MOD_escape_84 : decode b_MOD_escape 84 = .ok (.iconst (-1), 1) := by decide +kernel
theorem d_MOD_escape_85 : decode b_MOD_escape 85 = .ok (.iconst (-1), 1) := by decide +kernel
theorem d_MOD_escape_86 : decode b_MOD_escape 86 = .ok (.iconst 0, 1) := by decide +kernel
theorem d_MOD_escape_87 : decode b_MOD_escape 87 = .ok (.invokevirtual 157, 3) := by decide +kernel
theorem d_MOD_escape_90 : decode b_MOD_escape 90 = .ok (.aload_n 0, 1) := by decide +kernel
theorem d_MOD_escape_91 : decode b_MOD_escape 91 = .ok (.invokevirtual 161, 3) := by decide +kernel
theorem d_MOD_escape_94 : decode b_MOD_escape 94 = .ok (.goto 8, 3) := by decide +kernel
theorem d_MOD_escape_97 : decode b_MOD_escape 97 = .ok (.aload_n 0, 1) := by decide +kernel
theorem d_MOD_escape_98 : decode b_MOD_escape 98 = .ok (.iload_n 1, 1) := by decide +kernel
theorem d_MOD_escape_99 : decode b_MOD_escape 99 = .ok (.invokevirtual 222, 3) := by decide +kernel
theorem d_MOD_escape_102 : decode b_MOD_escape 102 = .ok (.return_, 1) := by decide +kernel
theorem d_MOD_isWord_0 : decode b_MOD_isWord 0 = .ok (.aload_n 0, 1) := by decide +kernel
theorem d_MOD_isWord_1 : decode b_MOD_isWord 1 = .ok (.iload_n 1, 1) := by decide +kernel
theorem d_MOD_isWord_2 : decode b_MOD_isWord 2 = .ok (.invokevirtual 183, 3) := by decide +kernel
theorem d_MOD_isWord_5 : decode b_MOD_isWord 5 = .ok (.iload_n 2, 1) := by decide +kernel
theorem d_MOD_isWord_6 : decode b_MOD_isWord 6 = .ok (.if_icmp .ne 54, 3) := by decide +kernel
theorem d_MOD_isWord_9 : decode b_MOD_isWord 9 = .ok (.aload_n 0, 1) := by decide +kernel
theorem d_MOD_isWord_10 : decode b_MOD_isWord 10 = .ok (.iload_n 1, 1) := by decide +kernel
theorem d_MOD_isWord_11 : decode b_MOD_isWord 11 = .ok (.iconst 1, 1) := by decide +kernel
theorem d_MOD_isWord_12 : decode b_MOD_isWord 12 = .ok (.iadd, 1) := by decide +kernel
theorem d_MOD_isWord_13 : decode b_MOD_isWord 13 = .ok (.invokevirtual 183, 3) := by decide +kernel
theorem d_MOD_isWord_16 : decode b_MOD_isWord 16 = .ok (.iload_n 3, 1) := by decide +kernel
theorem d_MOD_isWord_17 : decode b_MOD_isWord 17 = .ok (.if_icmp .ne 43, 3) := by decide +kernel
theorem d_MOD_isWord_20 : decode b_MOD_isWord 20 = .ok (.aload_n 0, 1) := by decide +kernel
theorem d_MOD_isWord_21 : decode b_MOD_isWord 21 = .ok (.iload_n 1, 1) := by decide +kernel
theorem d_MOD_isWord_22 : decode b_MOD_isWord 22 = .ok (.iconst 2, 1) := by decide +kernel
theorem d_MOD_isWord_23 : decode b_MOD_isWord 23 = .ok (.iadd, 1) := by decide +kernel
theorem d_MOD_isWord_24 : decode b_MOD_isWord 24 = .ok (.invokevirtual 183, 3) := by decide +kernel
theorem d_MOD_isWord_27 : decode b_MOD_isWord 27 = .ok (.iload 4, 2) := by decide +kernel
theorem d_MOD_isWord_29 : decode b_MOD_isWord 29 = .ok (.if_icmp .ne 31, 3) := by decide +kernel
theorem d_MOD_isWord_32 : decode b_MOD_isWord 32 = .ok (.aload_n 0, 1) := by decide +kernel
theorem d_MOD_isWord_33 : decode b_MOD_isWord 33 = .ok (.iload_n 1, 1) := by decide +kernel
theorem d_MOD_isWord_34 : decode b_MOD_isWord 34 = .ok (.iconst 3, 1) := by decide +kernel
theorem d_MOD_isWord_35 : decode b_MOD_isWord 35 = .ok (.iadd, 1) := by decide +kernel
theorem d_MOD_isWord_36 : decode b_MOD_isWord 36 = .ok (.invokevirtual 183, 3) := by decide +kernel
theorem d_MOD_isWord_39 : decode b_MOD_isWord 39 = .ok (.iload 5, 2) := by decide +kernel
theorem d_MOD_isWord_41 : decode b_MOD_isWord 41 = .ok (.if_icmp .ne 19, 3) := by decide +kernel
theorem d_MOD_isWord_44 : decode b_MOD_isWord 44 = .ok (.aload_n 0, 1) := by decide +kernel
theorem d_MOD_isWord_45 : decode b_MOD_isWord 45 = .ok (.iload_n 1, 1) := by decide +kernel
theorem d_MOD_isWord_46 : decode b_MOD_isWord 46 = .ok (.iconst 4, 1) := by decide +kernel
theorem d_MOD_isWord_47 : decode b_MOD_isWord 47 = .ok (.iadd, 1) := by decide +kernel
theorem d_MOD_isWord_48 : decode b_MOD_isWord 48 = .ok (.invokevirtual 183, 3) := by decide +kernel
theorem d_MOD_isWord_51 : decode b_MOD_isWord 51 = .ok (.iload 6, 2) := by decide +kernel
theorem d_MOD_isWord_53 : decode b_MOD_isWord 53 = .ok (.if_icmp .ne 7, 3) := by decide +kernel
theorem d_MOD_isWord_56 : decode b_MOD_isWord 56 = .ok (.iconst 1, 1) := by decide +kernel
theorem d_MOD_isWord_57 : decode b_MOD_isWord 57 = .ok (.goto 4, 3) := by decide +kernel
theorem d_MOD_isWord_60 : decode b_MOD_isWord 60 = .ok (.iconst 0, 1) := by decide +kernel
theorem d_MOD_isWord_61 : decode b_MOD_isWord 61 = .ok (.ireturn, 1) := by decide +kernel
theorem d_MOD_isName_0 : decode b_MOD_isName 0 = .ok (.aload_n 0, 1) := by decide +kernel
theorem d_MOD_isName_1 : decode b_MOD_isName 1 = .ok (.aload_n 0, 1) := by decide +kernel
theorem d_MOD_isName_2 : decode b_MOD_isName 2 = .ok (.iload_n 1, 1) := by decide +kernel
theorem d_MOD_isName_3 : decode b_MOD_isName 3 = .ok (.invokevirtual 183, 3) := by decide +kernel
theorem d_MOD_isName_6 : decode b_MOD_isName 6 = .ok (.bipush 94, 2) := by decide +kernel
theorem d_MOD_isName_8 : decode b_MOD_isName 8 = .ok (.if_icmp .ne 7, 3) := by decide +kernel
theorem d_MOD_isName_11 : decode b_MOD_isName 11 = .ok (.iconst 1, 1) := by decide +kernel
theorem d_MOD_isName_12 : decode b_MOD_isName 12 = .ok (.goto 4, 3) := by decide +kernel
theorem d_MOD_isName_15 : decode b_MOD_isName 15 = .ok (.iconst 0, 1) := by decide +kernel
theorem d_MOD_isName_16 : decode b_MOD_isName 16 = .ok (.putfield 206, 3) := by decide +kernel
theorem d_MOD_isName_19 : decode b_MOD_isName 19 = .ok (.aload_n 0, 1) := by decide +kernel
theorem d_MOD_isName_20 : decode b_MOD_isName 20 = .ok (.getfield 206, 3) := by decide +kernel
theorem d_MOD_isName_23 : decode b_MOD_isName 23 = .ok (.ifCond .eq 9, 3) := by decide +kernel
theorem d_MOD_isName_26 : decode b_MOD_isName 26 = .ok (.iload_n 1, 1) := by decide +kernel
theorem d_MOD_isName_27 : decode b_MOD_isName 27 = .ok (.iconst 1, 1) := by decide +kernel
theorem d_MOD_isName_28 : decode b_MOD_isName 28 = .ok (.iadd, 1) := by decide +kernel
theorem d_MOD_isName_29 : decode b_MOD_isName 29 = .ok (.goto 4, 3) := by decide +kernel
theorem d_MOD_isName_32 : decode b_MOD_isName 32 = .ok (.iload_n 1, 1) := by decide +kernel
theorem d_MOD_isName_33 : decode b_MOD_isName 33 = .ok (.istore_n 2, 1) := by decide +kernel
theorem d_MOD_isName_34 : decode b_MOD_isName 34 = .ok (.aload_n 0, 1) := by decide +kernel
theorem d_MOD_isName_35 : decode b_MOD_isName 35 = .ok (.iload_n 2, 1) := by decide +kernel
theorem d_MOD_isName_36 : decode b_MOD_isName 36 = .ok (.bipush 97, 2) := by decide +kernel
theorem d_MOD_isName_38 : decode b_MOD_isName 38 = .ok (.bipush 108, 2) := by decide +kernel
theorem d_MOD_isName_40 : decode b_MOD_isName 40 = .ok (.bipush 112, 2) := by decide +kernel
theorem d_MOD_isName_42 : decode b_MOD_isName 42 = .ok (.bipush 104, 2) := by decide +kernel
theorem d_MOD_isName_44 : decode b_MOD_isName 44 = .ok (.bipush 97, 2) := by decide +kernel
theorem d_MOD_isName_46 : decode b_MOD_isName 46 = .ok (.invokevirtual 237, 3) := by decide +kernel
theorem d_MOD_isName_49 : decode b_MOD_isName 49 = .ok (.ifCond .eq 17, 3) := by decide +kernel
theorem d_MOD_isName_52 : decode b_MOD_isName 52 = .ok (.aload_n 0, 1) := by decide +kernel
theorem d_MOD_isName_53 : decode b_MOD_isName 53 = .ok (.aload_n 0, 1) := by decide +kernel
theorem d_MOD_isName_54 : decode b_MOD_isName 54 = .ok (.getfield 89, 3) := by decide +kernel
theorem d_MOD_isName_57 : decode b_MOD_isName 57 = .ok (.iconst 2, 1) := by decide +kernel
theorem d_MOD_isName_58 : decode b_MOD_isName 58 = .ok (.bipush 6, 2) := by decide +kernel
theorem d_MOD_isName_60 : decode b_MOD_isName 60 = .ok (.invokevirtual 209, 3) := by decide +kernel
theorem d_MOD_isName_63 : decode b_MOD_isName 63 = .ok (.goto 168, 3) := by decide +kernel
theorem d_MOD_isName_66 : decode b_MOD_isName 66 = .ok (.aload_n 0, 1) := by decide +kernel
theorem d_MOD_isName_67 : decode b_MOD_isName 67 = .ok (.iload_n 2, 1) := by decide +kernel
theorem d_MOD_isName_68 : decode b_MOD_isName 68 = .ok (.bipush 117, 2) := by decide +kernel
theorem d_MOD_isName_70 : decode b_MOD_isName 70 = .ok (.bipush 112, 2) := by decide +kernel
theorem d_MOD_isName_72 : decode b_MOD_isName 72 = .ok (.bipush 112, 2) := by decide +kernel
theorem d_MOD_isName_74 : decode b_MOD_isName 74 = .ok (.bipush 101, 2) := by decide +kernel
theorem d_MOD_isName_76 : decode b_MOD_isName 76 = .ok (.bipush 114, 2) := by decide +kernel
theorem d_MOD_isName_78 : decode b_MOD_isName 78 = .ok (.invokevirtual 237, 3) := by decide +kernel
theorem d_MOD_isName_81 : decode b_MOD_isName 81 = .ok (.ifCond .eq 18, 3) := by decide +kernel
theorem d_MOD_isName_84 : decode b_MOD_isName 84 = .ok (.aload_n 0, 1) := by decide +kernel
theorem d_MOD_isName_85 : decode b_MOD_isName 85 = .ok (.aload_n 0, 1) := by decide +kernel
theorem d_MOD_isName_86 : decode b_MOD_isName 86 = .ok (.getfield 89, 3) := by decide +kernel
theorem d_MOD_isName_89 : decode b_MOD_isName 89 = .ok (.bipush 6, 2) := by decide +kernel
theorem d_MOD_isName_91 : decode b_MOD_isName 91 = .ok (.bipush 8, 2) := by decide +kernel
theorem d_MOD_isName_93 : decode b_MOD_isName 93 = .ok (.invokevirtual 209, 3) := by decide +kernel
theorem d_MOD_isName_96 : decode b_MOD_isName 96 = .ok (.goto 135, 3) := by decide +kernel
theorem d_MOD_isName_99 : decode b_MOD_isName 99 = .ok (.aload_n 0, 1) := by decide +kernel
theorem d_MOD_isName_100 : decode b_MOD_isName 100 = .ok (.iload_n 2, 1) := by decide +kernel
theorem d_MOD_isName_101 : decode b_MOD_isName 101 = .ok (.bipush 108, 2) := by decide +kernel
theorem d_MOD_isName_103 : decode b_MOD_isName 103 = .ok (.bipush 111, 2) := by decide +kernel
theorem d_MOD_isName_105 : decode b_MOD_isName 105 = .ok (.bipush 119, 2) := by decide +kernel
theorem d_MOD_isName_107 : decode b_MOD_isName 107 = .ok (.bipush 101, 2) := by decide +kernel
theorem d_MOD_isName_109 : decode b_MOD_isName 109 = .ok (.bipush 114, 2) := by decide +kernel
theorem d_MOD_isName_111 : decode b_MOD_isName 111 = .ok (.invokevirtual 237, 3) := by decide +kernel
theorem d_MOD_isName_114 : decode b_MOD_isName 114 = .ok (.ifCond .eq 18, 3) := by decide +kernel
theorem d_MOD_isName_117 : decode b_MOD_isName 117 = .ok (.aload_n 0, 1) := by decide +kernel
theorem d_MOD_isName_118 : decode b_MOD_isName 118 = .ok (.aload_n 0, 1) := by decide +kernel
theorem d_MOD_isName_119 : decode b_MOD_isName 119 = .ok (.getfield 89, 3) := by decide +kernel
theorem d_MOD_isName_122 : decode b_MOD_isName 122 = .ok (.bipush 8, 2) := by decide +kernel
theorem d_MOD_isName_124 : decode b_MOD_isName 124 = .ok (.bipush 10, 2) := by decide +kernel
theorem d_MOD_isName_126 : decode b_MOD_isName 126 = .ok (.invokevirtual 209, 3) := by decide +kernel
theorem d_MOD_isName_129 : decode b_MOD_isName 129 = .ok (.goto 102, 3) := by decide +kernel
theorem d_MOD_isName_132 : decode b_MOD_isName 132 = .ok (.aload_n 0, 1) := by decide +kernel
theorem d_MOD_isName_133 : decode b_MOD_isName 133 = .ok (.iload_n 2, 1) := by decide +kernel
theorem d_MOD_isName_134 : decode b_MOD_isName 134 = .ok (.bipush 112, 2) := by decide +kernel
theorem d_MOD_isName_136 : decode b_MOD_isName 136 = .ok (.bipush 117, 2) := by decide +kernel
theorem d_MOD_isName_138 : decode b_MOD_isName 138 = .ok (.bipush 110, 2) := by decide +kernel
theorem d_MOD_isName_140 : decode b_MOD_isName 140 = .ok (.bipush 99, 2) := by decide +kernel
theorem d_MOD_isName_142 : decode b_MOD_isName 142 = .ok (.bipush 116, 2) := by decide +kernel
theorem d_MOD_isName_144 : decode b_MOD_isName 144 = .ok (.invokevirtual 237, 3) := by decide +kernel
theorem d_MOD_isName_147 : decode b_MOD_isName 147 = .ok (.ifCond .eq 18, 3) := by decide +kernel
theorem d_MOD_isName_150 : decode b_MOD_isName 150 = .ok (.aload_n 0, 1) := by decide +kernel
theorem d_MOD_isName_151 : decode b_MOD_isName 151 = .ok (.aload_n 0, 1) := by decide +kernel
theorem d_MOD_isName_152 : decode b_MOD_isName 152 = .ok (.getfield 89, 3) := by decide +kernel
theorem d_MOD_isName_155 : decode b_MOD_isName 155 = .ok (.bipush 10, 2) := by decide +kernel
theorem d_MOD_isName_157 : decode b_MOD_isName 157 = .ok (.bipush 18, 2) := by decide +kernel
theorem d_MOD_isName_159 : decode b_MOD_isName 159 = .ok (.invokevirtual 209, 3) := by decide +kernel
theorem d_MOD_isName_162 : decode b_MOD_isName 162 = .ok (.goto 69, 3) := by decide +kernel
theorem d_MOD_isName_165 : decode b_MOD_isName 165 = .ok (.aload_n 0, 1) := by decide +kernel
theorem d_MOD_isName_166 : decode b_MOD_isName 166 = .ok (.iload_n 2, 1) := by decide +kernel
theorem d_MOD_isName_167 : decode b_MOD_isName 167 = .ok (.bipush 115, 2) := by decide +kernel
theorem d_MOD_isName_169 : decode b_MOD_isName 169 = .ok (.bipush 112, 2) := by decide +kernel
theorem d_MOD_isName_171 : decode b_MOD_isName 171 = .ok (.bipush 97, 2) := by decide +kernel
theorem d_MOD_isName_173 : decode b_MOD_isName 173 = .ok (.bipush 99, 2) := by decide +kernel
theorem d_MOD_isName_175 : decode b_MOD_isName 175 = .ok (.bipush 101, 2) := by decide +kernel
theorem d_MOD_isName_177 : decode b_MOD_isName 177 = .ok (.invokevirtual 237, 3) := by decide +kernel
theorem d_MOD_isName_180 : decode b_MOD_isName 180 = .ok (.ifCond .eq 18, 3) := by decide +kernel
theorem d_MOD_isName_183 : decode b_MOD_isName 183 = .ok (.aload_n 0, 1) := by decide +kernel
theorem d_MOD_isName_184 : decode b_MOD_isName 184 = .ok (.aload_n 0, 1) := by decide +kernel
theorem d_MOD_isName_185 : decode b_MOD_isName 185 = .ok (.getfield 89, 3) := by decide +kernel
theorem d_MOD_isName_188 : decode b_MOD_isName 188 = .ok (.bipush 18, 2) := by decide +kernel
theorem d_MOD_isName_190 : decode b_MOD_isName 190 = .ok (.bipush 22, 2) := by decide +kernel
theorem d_MOD_isName_192 : decode b_MOD_isName 192 = .ok (.invokevirtual 209, 3) := by decide +kernel
theorem d_MOD_isName_195 : decode b_MOD_isName 195 = .ok (.goto 36, 3) := by decide +kernel
theorem d_MOD_isName_198 : decode b_MOD_isName 198 = .ok (.aload_n 0, 1) := by decide +kernel
theorem d_MOD_isName_199 : decode b_MOD_isName 199 = .ok (.iload_n 2, 1) := by decide +kernel
theorem d_MOD_isName_200 : decode b_MOD_isName 200 = .ok (.bipush 100, 2) := by decide +kernel
theorem d_MOD_isName_202 : decode b_MOD_isName 202 = .ok (.bipush 105, 2) := by decide +kernel
theorem d_MOD_isName_204 : decode b_MOD_isName 204 = .ok (.bipush 103, 2) := by decide +kernel
theorem d_MOD_isName_206 : decode b_MOD_isName 206 = .ok (.bipush 105, 2) := by decide +kernel
theorem d_MOD_isName_208 : decode b_MOD_isName 208 = .ok (.bipush 116, 2) := by decide +kernel
theorem d_MOD_isName_210 : decode b_MOD_isName 210 = .ok (.invokevirtual 237, 3) := by decide +kernel
theorem d_MOD_isName_213 : decode b_MOD_isName 213 = .ok (.ifCond .eq 16, 3) := by decide +kernel
theorem d_MOD_isName_216 : decode b_MOD_isName 216 = .ok (.aload_n 0, 1) := by decide +kernel
theorem d_MOD_isName_217 : decode b_MOD_isName 217 = .ok (.aload_n 0, 1) := by decide +kernel
theorem d_MOD_isName_218 : decode b_MOD_isName 218 = .ok (.getfield 89, 3) := by decide +kernel
theorem d_MOD_isName_221 : decode b_MOD_isName 221 = .ok (.iconst 0, 1) := by decide +kernel
theorem d_MOD_isName_222 : decode b_MOD_isName 222 = .ok (.iconst 2, 1) := by decide +kernel
theorem d_MOD_isName_223 : decode b_MOD_isName 223 = .ok (.invokevirtual 209, 3) := by decide +kernel
theorem d_MOD_isName_226 : decode b_MOD_isName 226 = .ok (.goto 5, 3) := by decide +kernel
theorem d_MOD_isName_229 : decode b_MOD_isName 229 = .ok (.iconst 0, 1) := by decide +kernel
theorem d_MOD_isName_230 : decode b_MOD_isName 230 = .ok (.ireturn, 1) := by decide +kernel
theorem d_MOD_isName_231 : decode b_MOD_isName 231 = .ok (.aload_n 0, 1) := by decide +kernel
theorem d_MOD_isName_232 : decode b_MOD_isName 232 = .ok (.iload_n 2, 1) := by decide +kernel
theorem d_MOD_isName_233 : decode b_MOD_isName 233 = .ok (.bipush 7, 2) := by decide +kernel
theorem d_MOD_isName_235 : decode b_MOD_isName 235 = .ok (.iadd, 1) := by decide +kernel
theorem d_MOD_isName_236 : decode b_MOD_isName 236 = .ok (.putfield 187, 3) := by decide +kernel
theorem d_MOD_isName_239 : decode b_MOD_isName 239 = .ok (.aload_n 0, 1) := by decide +kernel
theorem d_MOD_isName_240 : decode b_MOD_isName 240 = .ok (.iload_n 2, 1) := by decide +kernel
theorem d_MOD_isName_241 : decode b_MOD_isName 241 = .ok (.iconst 5, 1) := by decide +kernel
theorem d_MOD_isName_242 : decode b_MOD_isName 242 = .ok (.iadd, 1) := by decide +kernel
theorem d_MOD_isName_243 : decode b_MOD_isName 243 = .ok (.invokevirtual 183, 3) := by decide +kernel
theorem d_MOD_isName_246 : decode b_MOD_isName 246 = .ok (.bipush 58, 2) := by decide +kernel
theorem d_MOD_isName_248 : decode b_MOD_isName 248 = .ok (.if_icmp .ne 20, 3) := by decide +kernel
theorem d_MOD_isName_251 : decode b_MOD_isName 251 = .ok (.aload_n 0, 1) := by decide +kernel
theorem d_MOD_isName_252 : decode b_MOD_isName 252 = .ok (.iload_n 2, 1) := by decide +kernel
theorem d_MOD_isName_253 : decode b_MOD_isName 253 = .ok (.bipush 6, 2) := by decide +kernel
theorem d_MOD_isName_255 : decode b_MOD_isName 255 = .ok (.iadd, 1) := by decide +kernel
theorem d_MOD_isName_256 : decode b_MOD_isName 256 = .ok (.invokevirtual 183, 3) := by decide +kernel
theorem d_MOD_isName_259 : decode b_MOD_isName 259 = .ok (.bipush 93, 2) := by decide +kernel
theorem d_MOD_isName_261 : decode b_MOD_isName 261 = .ok (.if_icmp .ne 7, 3) := by decide +kernel
theorem d_MOD_isName_264 : decode b_MOD_isName 264 = .ok (.iconst 1, 1) := by decide +kernel
theorem d_MOD_isName_265 : decode b_MOD_isName 265 = .ok (.goto 4, 3) := by decide +kernel
theorem d_MOD_isName_268 : decode b_MOD_isName 268 = .ok (.iconst 0, 1) := by decide +kernel
theorem d_MOD_isName_269 : decode b_MOD_isName 269 = .ok (.ireturn, 1) := by decide +kernel
theorem d_MOD_end_0 : decode b_MOD_end 0 = .ok (.aload_n 0, 1) := by decide +kernel
theorem d_MOD_end_1 : decode b_MOD_end 1 = .ok (.iload_n 1, 1) := by decide +kernel
theorem d_MOD_end_2 : decode b_MOD_end 2 = .ok (.invokevirtual 183, 3) := by decide +kernel
theorem d_MOD_end_5 : decode b_MOD_end 5 = .ok (.bipush 92, 2) := by decide +kernel
theorem d_MOD_end_7 : decode b_MOD_end 7 = .ok (.if_icmp .ne 11, 3) := by decide +kernel
theorem d_MOD_end_10 : decode b_MOD_end 10 = .ok (.aload_n 0, 1) := by decide +kernel
theorem d_MOD_end_11 : decode b_MOD_end 11 = .ok (.iload_n 1, 1) := by decide +kernel
theorem d_MOD_end_12 : decode b_MOD_end 12 = .ok (.invokevirtual 231, 3) := by decide +kernel
theorem d_MOD_end_15 : decode b_MOD_end 15 = .ok (.goto 8, 3) := by decide +kernel
theorem d_MOD_end_18 : decode b_MOD_end 18 = .ok (.aload_n 0, 1) := by decide +kernel
theorem d_MOD_end_19 : decode b_MOD_end 19 = .ok (.iload_n 1, 1) := by decide +kernel
theorem d_MOD_end_20 : decode b_MOD_end 20 = .ok (.invokevirtual 255, 3) := by decide +kernel
theorem d_MOD_end_23 : decode b_MOD_end 23 = .ok (.istore_n 2, 1) := by decide +kernel
theorem d_MOD_end_24 : decode b_MOD_end 24 = .ok (.iload_n 2, 1) := by decide +kernel
theorem d_MOD_end_25 : decode b_MOD_end 25 = .ok (.ifCond .ge 23, 3) := by decide +kernel
theorem d_MOD_end_28 : decode b_MOD_end 28 = .ok (.aload_n 0, 1) := by decide +kernel
theorem d_MOD_end_29 : decode b_MOD_end 29 = .ok (.aload_n 0, 1) := by decide +kernel
theorem d_MOD_end_30 : decode b_MOD_end 30 = .ok (.iload_n 1, 1) := by decide +kernel
theorem d_MOD_end_31 : decode b_MOD_end 31 = .ok (.invokevirtual 183, 3) := by decide +kernel
theorem d_MOD_end_34 : decode b_MOD_end 34 = .ok (.bipush 92, 2) := by decide +kernel
theorem d_MOD_end_36 : decode b_MOD_end 36 = .ok (.if_icmp .ne 7, 3) := by decide +kernel
theorem d_MOD_end_39 : decode b_MOD_end 39 = .ok (.iconst 5, 1) := by decide +kernel
theorem d_MOD_end_40 : decode b_MOD_end 40 = .ok (.goto 4, 3) := by decide +kernel
theorem d_MOD_end_43 : decode b_MOD_end 43 = .ok (.iconst 1, 1) := by decide +kernel
theorem d_MOD_end_44 : decode b_MOD_end 44 = .ok (.iload_n 1, 1) := by decide +kernel
theorem d_MOD_end_45 : decode b_MOD_end 45 = .ok (.invokevirtual 228, 3) := by decide +kernel
theorem d_MOD_end_48 : decode b_MOD_end 48 = .ok (.iload_n 2, 1) := by decide +kernel
theorem d_MOD_end_49 : decode b_MOD_end 49 = .ok (.ireturn, 1) := by decide +kernel
theorem d_MOD_rangeFrom_0 : decode b_MOD_rangeFrom 0 = .ok (.aload_n 0, 1) := by decide +kernel
theorem d_MOD_rangeFrom_1 : decode b_MOD_rangeFrom 1 = .ok (.getfield 216, 3) := by decide +kernel
theorem d_MOD_rangeFrom_4 : decode b_MOD_rangeFrom 4 = .ok (.iconst 1, 1) := by decide +kernel
theorem d_MOD_rangeFrom_5 : decode b_MOD_rangeFrom 5 = .ok (.iadd, 1) := by decide +kernel
theorem d_MOD_rangeFrom_6 : decode b_MOD_rangeFrom 6 = .ok (.istore_n 3, 1) := by decide +kernel
theorem d_MOD_rangeFrom_7 : decode b_MOD_rangeFrom 7 = .ok (.aload_n 0, 1) := by decide +kernel
theorem d_MOD_rangeFrom_8 : decode b_MOD_rangeFrom 8 = .ok (.iload_n 3, 1) := by decide +kernel
theorem d_MOD_rangeFrom_9 : decode b_MOD_rangeFrom 9 = .ok (.invokevirtual 183, 3) := by decide +kernel
theorem d_MOD_rangeFrom_12 : decode b_MOD_rangeFrom 12 = .ok (.bipush 91, 2) := by decide +kernel
theorem d_MOD_rangeFrom_14 : decode b_MOD_rangeFrom 14 = .ok (.if_icmp .ne 23, 3) := by decide +kernel
theorem d_MOD_rangeFrom_17 : decode b_MOD_rangeFrom 17 = .ok (.aload_n 0, 1) := by decide +kernel
theorem d_MOD_rangeFrom_18 : decode b_MOD_rangeFrom 18 = .ok (.iload_n 3, 1) := by decide +kernel
theorem d_MOD_rangeFrom_19 : decode b_MOD_rangeFrom 19 = .ok (.iconst 1, 1) := by decide +kernel
theorem d_MOD_rangeFrom_20 : decode b_MOD_rangeFrom 20 = .ok (.iadd, 1) := by decide +kernel
theorem d_MOD_rangeFrom_21 : decode b_MOD_rangeFrom 21 = .ok (.invokevirtual 183, 3) := by decide +kernel
theorem d_MOD_rangeFrom_24 : decode b_MOD_rangeFrom 24 = .ok (.bipush 58, 2) := by decide +kernel
theorem d_MOD_rangeFrom_26 : decode b_MOD_rangeFrom 26 = .ok (.if_icmp .ne 11, 3) := by decide +kernel
theorem d_MOD_rangeFrom_29 : decode b_MOD_rangeFrom 29 = .ok (.aload_n 0, 1) := by decide +kernel
theorem d_MOD_rangeFrom_30 : decode b_MOD_rangeFrom 30 = .ok (.bipush 6, 2) := by decide +kernel
theorem d_MOD_rangeFrom_32 : decode b_MOD_rangeFrom 32 = .ok (.iload_n 1, 1) := by decide +kernel
theorem d_MOD_rangeFrom_33 : decode b_MOD_rangeFrom 33 = .ok (.invokevirtual 228, 3) := by decide +kernel
theorem d_MOD_rangeFrom_36 : decode b_MOD_rangeFrom 36 = .ok (.return_, 1) := by decide +kernel
theorem d_MOD_rangeFrom_37 : decode b_MOD_rangeFrom 37 = .ok (.aload_n 0, 1) := by decide +kernel
theorem d_MOD_rangeFrom_38 : decode b_MOD_rangeFrom 38 = .ok (.iload_n 3, 1) := by decide +kernel
theorem d_MOD_rangeFrom_39 : decode b_MOD_rangeFrom 39 = .ok (.invokevirtual 183, 3) := by decide +kernel
theorem d_MOD_rangeFrom_42 : decode b_MOD_rangeFrom 42 = .ok (.bipush 92, 2) := by decide +kernel
theorem d_MOD_rangeFrom_44 : decode b_MOD_rangeFrom 44 = .ok (.if_icmp .ne 11, 3) := by decide +kernel
theorem d_MOD_rangeFrom_47 : decode b_MOD_rangeFrom 47 = .ok (.aload_n 0, 1) := by decide +kernel
theorem d_MOD_rangeFrom_48 : decode b_MOD_rangeFrom 48 = .ok (.iload_n 3, 1) := by decide +kernel
theorem d_MOD_rangeFrom_49 : decode b_MOD_rangeFrom 49 = .ok (.invokevirtual 225, 3) := by decide +kernel
theorem d_MOD_rangeFrom_52 : decode b_MOD_rangeFrom 52 = .ok (.goto 4, 3) := by decide +kernel
theorem d_MOD_rangeFrom_55 : decode b_MOD_rangeFrom 55 = .ok (.iconst 0, 1) := by decide +kernel
theorem d_MOD_rangeFrom_56 : decode b_MOD_rangeFrom 56 = .ok (.istore 4, 2) := by decide +kernel
theorem d_MOD_rangeFrom_58 : decode b_MOD_rangeFrom 58 = .ok (.iload 4, 2) := by decide +kernel
theorem d_MOD_rangeFrom_60 : decode b_MOD_rangeFrom 60 = .ok (.ifCond .eq 33, 3) := by decide +kernel
theorem d_MOD_rangeFrom_63 : decode b_MOD_rangeFrom 63 = .ok (.aload_n 0, 1) := by decide +kernel
theorem d_MOD_rangeFrom_64 : decode b_MOD_rangeFrom 64 = .ok (.iload 4, 2) := by decide +kernel
theorem d_MOD_rangeFrom_66 : decode b_MOD_rangeFrom 66 = .ok (.iconst 1, 1) := by decide +kernel
theorem d_MOD_rangeFrom_67 : decode b_MOD_rangeFrom 67 = .ok (.if_icmp .ne 8, 3) := by decide +kernel
theorem d_MOD_rangeFrom_70 : decode b_MOD_rangeFrom 70 = .ok (.bipush 6, 2) := by decide +kernel
theorem d_MOD_rangeFrom_72 : decode b_MOD_rangeFrom 72 = .ok (.goto 6, 3) := by decide +kernel
theorem d_MOD_rangeFrom_75 : decode b_MOD_rangeFrom 75 = .ok (.iload 4, 2) := by decide +kernel
theorem d_MOD_rangeFrom_77 : decode b_MOD_rangeFrom 77 = .ok (.ineg, 1) := by decide +kernel
theorem d_MOD_rangeFrom_78 : decode b_MOD_rangeFrom 78 = .ok (.iload 4, 2) := by decide +kernel
theorem d_MOD_rangeFrom_80 : decode b_MOD_rangeFrom 80 = .ok (.iconst 1, 1) := by decide +kernel
theorem d_MOD_rangeFrom_81 : decode b_MOD_rangeFrom 81 = .ok (.if_icmp .ne 7, 3) := by decide +kernel
theorem d_MOD_rangeFrom_84 : decode b_MOD_rangeFrom 84 = .ok (.iload_n 1, 1) := by decide +kernel
theorem d_MOD_rangeFrom_85 : decode b_MOD_rangeFrom 85 = .ok (.goto 4, 3) := by decide +kernel
theorem d_MOD_rangeFrom_88 : decode b_MOD_rangeFrom 88 = .ok (.iload_n 3, 1) := by decide +kernel
theorem d_MOD_rangeFrom_89 : decode b_MOD_rangeFrom 89 = .ok (.invokevirtual 228, 3) := by decide +kernel
theorem d_MOD_rangeFrom_92 : decode b_MOD_rangeFrom 92 = .ok (.return_, 1) := by decide +kernel
theorem d_MOD_rangeFrom_93 : decode b_MOD_rangeFrom 93 = .ok (.aload_n 0, 1) := by decide +kernel
theorem d_MOD_rangeFrom_94 : decode b_MOD_rangeFrom 94 = .ok (.iload_n 3, 1) := by decide +kernel
theorem d_MOD_rangeFrom_95 : decode b_MOD_rangeFrom 95 = .ok (.invokevirtual 250, 3) := by decide +kernel
theorem d_MOD_rangeFrom_98 : decode b_MOD_rangeFrom 98 = .ok (.istore 5, 2) := by decide +kernel
theorem d_MOD_rangeFrom_100 : decode b_MOD_rangeFrom 100 = .ok (.aload_n 0, 1) := by decide +kernel
theorem d_MOD_rangeFrom_101 : decode b_MOD_rangeFrom 101 = .ok (.getfield 173, 3) := by decide +kernel
theorem d_MOD_rangeFrom_104 : decode b_MOD_rangeFrom 104 = .ok (.ifCond .le 4, 3) := by decide +kernel
theorem d_MOD_rangeFrom_107 : decode b_MOD_rangeFrom 107 = .ok (.return_, 1) := by decide +kernel
theorem d_MOD_rangeFrom_108 : decode b_MOD_rangeFrom 108 = .ok (.aload_n 0, 1) := by decide +kernel
theorem d_MOD_rangeFrom_109 : decode b_MOD_rangeFrom 109 = .ok (.aload_n 0, 1) := by decide +kernel
theorem d_MOD_rangeFrom_110 : decode b_MOD_rangeFrom 110 = .ok (.getfield 187, 3) := by decide +kernel
theorem d_MOD_rangeFrom_113 : decode b_MOD_rangeFrom 113 = .ok (.putfield 216, 3) := by decide +kernel
theorem d_MOD_rangeFrom_116 : decode b_MOD_rangeFrom 116 = .ok (.iload 5, 2) := by decide +kernel
theorem d_MOD_rangeFrom_118 : decode b_MOD_rangeFrom 118 = .ok (.iload_n 2, 1) := by decide +kernel
theorem d_MOD_rangeFrom_119 : decode b_MOD_rangeFrom 119 = .ok (.if_icmp .ge 13, 3) := by decide +kernel
theorem d_MOD_rangeFrom_122 : decode b_MOD_rangeFrom 122 = .ok (.aload_n 0, 1) := by decide +kernel
theorem d_MOD_rangeFrom_123 : decode b_MOD_rangeFrom 123 = .ok (.bipush 6, 2) := by decide +kernel
theorem d_MOD_rangeFrom_125 : decode b_MOD_rangeFrom 125 = .ok (.iload_n 1, 1) := by decide +kernel
theorem d_MOD_rangeFrom_126 : decode b_MOD_rangeFrom 126 = .ok (.invokevirtual 228, 3) := by decide +kernel
theorem d_MOD_rangeFrom_129 : decode b_MOD_rangeFrom 129 = .ok (.goto 10, 3) := by decide +kernel
theorem d_MOD_rangeFrom_132 : decode b_MOD_rangeFrom 132 = .ok (.aload_n 0, 1) := by decide +kernel
theorem d_MOD_rangeFrom_133 : decode b_MOD_rangeFrom 133 = .ok (.iload_n 2, 1) := by decide +kernel
theorem d_MOD_rangeFrom_134 : decode b_MOD_rangeFrom 134 = .ok (.iload 5, 2) := by decide +kernel
theorem d_MOD_rangeFrom_136 : decode b_MOD_rangeFrom 136 = .ok (.invokevirtual 164, 3) := by decide +kernel
theorem d_MOD_rangeFrom_139 : decode b_MOD_rangeFrom 139 = .ok (.return_, 1) := by decide +kernel
theorem d_MOD_item_0 : decode b_MOD_item 0 = .ok (.aload_n 0, 1) := by decide +kernel
theorem d_MOD_item_1 : decode b_MOD_item 1 = .ok (.getfield 216, 3) := by decide +kernel
theorem d_MOD_item_4 : decode b_MOD_item 4 = .ok (.istore_n 1, 1) := by decide +kernel
theorem d_MOD_item_5 : decode b_MOD_item 5 = .ok (.aload_n 0, 1) := by decide +kernel
theorem d_MOD_item_6 : decode b_MOD_item 6 = .ok (.iload_n 1, 1) := by decide +kernel
theorem d_MOD_item_7 : decode b_MOD_item 7 = .ok (.invokevirtual 183, 3) := by decide +kernel
theorem d_MOD_item_10 : decode b_MOD_item 10 = .ok (.bipush 91, 2) := by decide +kernel
theorem d_MOD_item_12 : decode b_MOD_item 12 = .ok (.if_icmp .ne 50, 3) := by decide +kernel
theorem d_MOD_item_15 : decode b_MOD_item 15 = .ok (.aload_n 0, 1) := by decide +kernel
theorem d_MOD_item_16 : decode b_MOD_item 16 = .ok (.iload_n 1, 1) := by decide +kernel
theorem d_MOD_item_17 : decode b_MOD_item 17 = .ok (.iconst 1, 1) := by decide +kernel
theorem d_MOD_item_18 : decode b_MOD_item 18 = .ok (.iadd, 1) := by decide +kernel
theorem d_MOD_item_19 : decode b_MOD_item 19 = .ok (.invokevirtual 183, 3) := by decide +kernel
theorem d_MOD_item_22 : decode b_MOD_item 22 = .ok (.bipush 58, 2) := by decide +kernel
theorem d_MOD_item_24 : decode b_MOD_item 24 = .ok (.if_icmp .ne 38, 3) := by decide +kernel
theorem d_MOD_item_27 : decode b_MOD_item 27 = .ok (.aload_n 0, 1) := by decide +kernel
theorem d_MOD_item_28 : decode b_MOD_item 28 = .ok (.iload_n 1, 1) := by decide +kernel
theorem d_MOD_item_29 : decode b_MOD_item 29 = .ok (.iconst 2, 1) := by decide +kernel
theorem d_MOD_item_30 : decode b_MOD_item 30 = .ok (.iadd, 1) := by decide +kernel
theorem d_MOD_item_31 : decode b_MOD_item 31 = .ok (.invokevirtual 247, 3) := by decide +kernel
theorem d_MOD_item_34 : decode b_MOD_item 34 = .ok (.ifCond .ne 11, 3) := by decide +kernel
theorem d_MOD_item_37 : decode b_MOD_item 37 = .ok (.aload_n 0, 1) := by decide +kernel
theorem d_MOD_item_38 : decode b_MOD_item 38 = .ok (.bipush 7, 2) := by decide +kernel
theorem d_MOD_item_40 : decode b_MOD_item 40 = .ok (.iload_n 1, 1) := by decide +kernel
theorem d_MOD_item_41 : decode b_MOD_item 41 = .ok (.invokevirtual 228, 3) := by decide +kernel
theorem d_MOD_item_44 : decode b_MOD_item 44 = .ok (.return_, 1) := by decide +kernel
theorem d_MOD_item_45 : decode b_MOD_item 45 = .ok (.aload_n 0, 1) := by decide +kernel
theorem d_MOD_item_46 : decode b_MOD_item 46 = .ok (.aload_n 0, 1) := by decide +kernel
theorem d_MOD_item_47 : decode b_MOD_item 47 = .ok (.getfield 187, 3) := by decide +kernel
theorem d_MOD_item_50 : decode b_MOD_item 50 = .ok (.putfield 216, 3) := by decide +kernel
theorem d_MOD_item_53 : decode b_MOD_item 53 = .ok (.aload_n 0, 1) := by decide +kernel
theorem d_MOD_item_54 : decode b_MOD_item 54 = .ok (.aload_n 0, 1) := by decide +kernel
theorem d_MOD_item_55 : decode b_MOD_item 55 = .ok (.getfield 206, 3) := by decide +kernel
theorem d_MOD_item_58 : decode b_MOD_item 58 = .ok (.invokevirtual 107, 3) := by decide +kernel
theorem d_MOD_item_61 : decode b_MOD_item 61 = .ok (.return_, 1) := by decide +kernel
theorem d_MOD_item_62 : decode b_MOD_item 62 = .ok (.aload_n 0, 1) := by decide +kernel
theorem d_MOD_item_63 : decode b_MOD_item 63 = .ok (.iload_n 1, 1) := by decide +kernel
theorem d_MOD_item_64 : decode b_MOD_item 64 = .ok (.invokevirtual 183, 3) := by decide +kernel
theorem d_MOD_item_67 : decode b_MOD_item 67 = .ok (.bipush 92, 2) := by decide +kernel
theorem d_MOD_item_69 : decode b_MOD_item 69 = .ok (.if_icmp .ne 11, 3) := by decide +kernel
theorem d_MOD_item_72 : decode b_MOD_item 72 = .ok (.aload_n 0, 1) := by decide +kernel
theorem d_MOD_item_73 : decode b_MOD_item 73 = .ok (.iload_n 1, 1) := by decide +kernel
theorem d_MOD_item_74 : decode b_MOD_item 74 = .ok (.invokevirtual 225, 3) := by decide +kernel
theorem d_MOD_item_77 : decode b_MOD_item 77 = .ok (.goto 4, 3) := by decide +kernel
theorem d_MOD_item_80 : decode b_MOD_item 80 = .ok (.iconst 0, 1) := by decide +kernel
theorem d_MOD_item_81 : decode b_MOD_item 81 = .ok (.istore_n 2, 1) := by decide +kernel
theorem d_MOD_item_82 : decode b_MOD_item 82 = .ok (.iload_n 2, 1) := by decide +kernel
theorem d_MOD_item_83 : decode b_MOD_item 83 = .ok (.iconst 1, 1) := by decide +kernel
theorem d_MOD_item_84 : decode b_MOD_item 84 = .ok (.if_icmp .ne 20, 3) := by decide +kernel
theorem d_MOD_item_87 : decode b_MOD_item 87 = .ok (.aload_n 0, 1) := by decide +kernel
theorem d_MOD_item_88 : decode b_MOD_item 88 = .ok (.aload_n 0, 1) := by decide +kernel
theorem d_MOD_item_89 : decode b_MOD_item 89 = .ok (.getfield 187, 3) := by decide +kernel
theorem d_MOD_item_92 : decode b_MOD_item 92 = .ok (.putfield 216, 3) := by decide +kernel
theorem d_MOD_item_95 : decode b_MOD_item 95 = .ok (.aload_n 0, 1) := by decide +kernel
theorem d_MOD_item_96 : decode b_MOD_item 96 = .ok (.aload_n 0, 1) := by decide +kernel
theorem d_MOD_item_97 : decode b_MOD_item 97 = .ok (.getfield 206, 3) := by decide +kernel
theorem d_MOD_item_100 : decode b_MOD_item 100 = .ok (.invokevirtual 107, 3) := by decide +kernel
theorem d_MOD_item_103 : decode b_MOD_item 103 = .ok (.return_, 1) := by decide +kernel
theorem d_MOD_item_104 : decode b_MOD_item 104 = .ok (.iload_n 2, 1) := by decide +kernel
theorem d_MOD_item_105 : decode b_MOD_item 105 = .ok (.ifCond .ge 11, 3) := by decide +kernel
theorem d_MOD_item_108 : decode b_MOD_item 108 = .ok (.aload_n 0, 1) := by decide +kernel
theorem d_MOD_item_109 : decode b_MOD_item 109 = .ok (.iload_n 2, 1) := by decide +kernel
theorem d_MOD_item_110 : decode b_MOD_item 110 = .ok (.ineg, 1) := by decide +kernel
theorem d_MOD_item_111 : decode b_MOD_item 111 = .ok (.iload_n 1, 1) := by decide +kernel
theorem d_MOD_item_112 : decode b_MOD_item 112 = .ok (.invokevirtual 228, 3) := by decide +kernel
theorem d_MOD_item_115 : decode b_MOD_item 115 = .ok (.return_, 1) := by decide +kernel
theorem d_MOD_item_116 : decode b_MOD_item 116 = .ok (.aload_n 0, 1) := by decide +kernel
theorem d_MOD_item_117 : decode b_MOD_item 117 = .ok (.iload_n 1, 1) := by decide +kernel
theorem d_MOD_item_118 : decode b_MOD_item 118 = .ok (.invokevirtual 250, 3) := by decide +kernel
theorem d_MOD_item_121 : decode b_MOD_item 121 = .ok (.istore_n 3, 1) := by decide +kernel
theorem d_MOD_item_122 : decode b_MOD_item 122 = .ok (.aload_n 0, 1) := by decide +kernel
theorem d_MOD_item_123 : decode b_MOD_item 123 = .ok (.getfield 173, 3) := by decide +kernel
theorem d_MOD_item_126 : decode b_MOD_item 126 = .ok (.ifCond .le 4, 3) := by decide +kernel
theorem d_MOD_item_129 : decode b_MOD_item 129 = .ok (.return_, 1) := by decide +kernel
theorem d_MOD_item_130 : decode b_MOD_item 130 = .ok (.aload_n 0, 1) := by decide +kernel
theorem d_MOD_item_131 : decode b_MOD_item 131 = .ok (.aload_n 0, 1) := by decide +kernel
theorem d_MOD_item_132 : decode b_MOD_item 132 = .ok (.getfield 187, 3) := by decide +kernel
theorem d_MOD_item_135 : decode b_MOD_item 135 = .ok (.putfield 216, 3) := by decide +kernel
theorem d_MOD_item_138 : decode b_MOD_item 138 = .ok (.aload_n 0, 1) := by decide +kernel
theorem d_MOD_item_139 : decode b_MOD_item 139 = .ok (.aload_n 0, 1) := by decide +kernel
theorem d_MOD_item_140 : decode b_MOD_item 140 = .ok (.getfield 216, 3) := by decide +kernel
theorem d_MOD_item_143 : decode b_MOD_item 143 = .ok (.invokevirtual 183, 3) := by decide +kernel
theorem d_MOD_item_146 : decode b_MOD_item 146 = .ok (.bipush 45, 2) := by decide +kernel
theorem d_MOD_item_148 : decode b_MOD_item 148 = .ok (.if_icmp .ne 35, 3) := by decide +kernel
theorem d_MOD_item_151 : decode b_MOD_item 151 = .ok (.aload_n 0, 1) := by decide +kernel
theorem d_MOD_item_152 : decode b_MOD_item 152 = .ok (.getfield 216, 3) := by decide +kernel
theorem d_MOD_item_155 : decode b_MOD_item 155 = .ok (.iconst 1, 1) := by decide +kernel
theorem d_MOD_item_156 : decode b_MOD_item 156 = .ok (.iadd, 1) := by decide +kernel
theorem d_MOD_item_157 : decode b_MOD_item 157 = .ok (.aload_n 0, 1) := by decide +kernel
theorem d_MOD_item_158 : decode b_MOD_item 158 = .ok (.getfield 176, 3) := by decide +kernel
theorem d_MOD_item_161 : decode b_MOD_item 161 = .ok (.if_icmp .ge 22, 3) := by decide +kernel
theorem d_MOD_item_164 : decode b_MOD_item 164 = .ok (.aload_n 0, 1) := by decide +kernel
theorem d_MOD_item_165 : decode b_MOD_item 165 = .ok (.aload_n 0, 1) := by decide +kernel
theorem d_MOD_item_166 : decode b_MOD_item 166 = .ok (.getfield 216, 3) := by decide +kernel
theorem d_MOD_item_169 : decode b_MOD_item 169 = .ok (.iconst 1, 1) := by decide +kernel
theorem d_MOD_item_170 : decode b_MOD_item 170 = .ok (.iadd, 1) := by decide +kernel
theorem d_MOD_item_171 : decode b_MOD_item 171 = .ok (.invokevirtual 183, 3) := by decide +kernel
theorem d_MOD_item_174 : decode b_MOD_item 174 = .ok (.bipush 93, 2) := by decide +kernel
