theorem d_MOD_item_176 : decode b_MOD_item 176 = .ok (.if_icmp .eq 7, 3) := by decide +kernel
theorem d_MOD_item_179 : decode b_MOD_item 179 = .ok (.iconst 1, 1) := by decide +kernel
theorem d_MOD_item_180 : decode b_MOD_item 180 = .ok (.goto 4, 3) := by decide +kernel
theorem d_MOD_item_183 : decode b_MOD_item 183 = .ok (.iconst 0, 1) := by decide +kernel
theorem d_MOD_item_184 : decode b_MOD_item 184 = .ok (.istore 4, 2) := by decide +kernel
theorem d_MOD_item_186 : decode b_MOD_item 186 = .ok (.iload 4, 2) := by decide +kernel
theorem d_MOD_item_188 : decode b_MOD_item 188 = .ok (.ifCond .ne 12, 3) := by decide +kernel
theorem d_MOD_item_191 : decode b_MOD_item 191 = .ok (.aload_n 0, 1) := by decide +kernel
theorem d_MOD_item_192 : decode b_MOD_item 192 = .ok (.iload_n 3, 1) := by decide +kernel
theorem d_MOD_item_193 : decode b_MOD_item 193 = .ok (.iload_n 3, 1) := by decide +kernel
theorem d_MOD_item_194 : decode b_MOD_item 194 = .ok (.invokevirtual 164, 3) := by decide +kernel
theorem d_MOD_item_197 : decode b_MOD_item 197 = .ok (.goto 9, 3) := by decide +kernel
theorem d_MOD_item_200 : decode b_MOD_item 200 = .ok (.aload_n 0, 1) := by decide +kernel
theorem d_MOD_item_201 : decode b_MOD_item 201 = .ok (.iload_n 1, 1) := by decide +kernel
theorem d_MOD_item_202 : decode b_MOD_item 202 = .ok (.iload_n 3, 1) := by decide +kernel
theorem d_MOD_item_203 : decode b_MOD_item 203 = .ok (.invokevirtual 253, 3) := by decide +kernel
theorem d_MOD_item_206 : decode b_MOD_item 206 = .ok (.return_, 1) := by decide +kernel
theorem d_MOD_readClass_0 : decode b_MOD_readClass 0 = .ok (.aload_n 0, 1) := by decide +kernel
theorem d_MOD_readClass_1 : decode b_MOD_readClass 1 = .ok (.getfield 216, 3) := by decide +kernel
theorem d_MOD_readClass_4 : decode b_MOD_readClass 4 = .ok (.istore_n 1, 1) := by decide +kernel
theorem d_MOD_readClass_5 : decode b_MOD_readClass 5 = .ok (.aload_n 0, 1) := by decide +kernel
theorem d_MOD_readClass_6 : decode b_MOD_readClass 6 = .ok (.aload_n 0, 1) := by decide +kernel
theorem d_MOD_readClass_7 : decode b_MOD_readClass 7 = .ok (.getfield 216, 3) := by decide +kernel
theorem d_MOD_readClass_10 : decode b_MOD_readClass 10 = .ok (.iconst 1, 1) := by decide +kernel
theorem d_MOD_readClass_11 : decode b_MOD_readClass 11 = .ok (.iadd, 1) := by decide +kernel
theorem d_MOD_readClass_12 : decode b_MOD_readClass 12 = .ok (.invokevirtual 183, 3) := by decide +kernel
theorem d_MOD_readClass_15 : decode b_MOD_readClass 15 = .ok (.bipush 94, 2) := by decide +kernel
theorem d_MOD_readClass_17 : decode b_MOD_readClass 17 = .ok (.if_icmp .ne 7, 3) := by decide +kernel
theorem d_MOD_readClass_20 : decode b_MOD_readClass 20 = .ok (.iconst 1, 1) := by decide +kernel
theorem d_MOD_readClass_21 : decode b_MOD_readClass 21 = .ok (.goto 4, 3) := by decide +kernel
theorem d_MOD_readClass_24 : decode b_MOD_readClass 24 = .ok (.iconst 0, 1) := by decide +kernel
theorem d_MOD_readClass_25 : decode b_MOD_readClass 25 = .ok (.istore_n 2, 1) := by decide +kernel
theorem d_MOD_readClass_26 : decode b_MOD_readClass 26 = .ok (.aload_n 0, 1) := by decide +kernel
theorem d_MOD_readClass_27 : decode b_MOD_readClass 27 = .ok (.dup, 1) := by decide +kernel
theorem d_MOD_readClass_28 : decode b_MOD_readClass 28 = .ok (.getfield 216, 3) := by decide +kernel
theorem d_MOD_readClass_31 : decode b_MOD_readClass 31 = .ok (.iload_n 2, 1) := by decide +kernel
theorem d_MOD_readClass_32 : decode b_MOD_readClass 32 = .ok (.ifCond .eq 7, 3) := by decide +kernel
theorem d_MOD_readClass_35 : decode b_MOD_readClass 35 = .ok (.iconst 2, 1) := by decide +kernel
theorem d_MOD_readClass_36 : decode b_MOD_readClass 36 = .ok (.goto 4, 3) := by decide +kernel
theorem d_MOD_readClass_39 : decode b_MOD_readClass 39 = .ok (.iconst 1, 1) := by decide +kernel
theorem d_MOD_readClass_40 : decode b_MOD_readClass 40 = .ok (.iadd, 1) := by decide +kernel
theorem d_MOD_readClass_41 : decode b_MOD_readClass 41 = .ok (.putfield 216, 3) := by decide +kernel
theorem d_MOD_readClass_44 : decode b_MOD_readClass 44 = .ok (.aload_n 0, 1) := by decide +kernel
theorem d_MOD_readClass_45 : decode b_MOD_readClass 45 = .ok (.iconst 0, 1) := by decide +kernel
theorem d_MOD_readClass_46 : decode b_MOD_readClass 46 = .ok (.invokevirtual 103, 3) := by decide +kernel
theorem d_MOD_readClass_49 : decode b_MOD_readClass 49 = .ok (.iconst 1, 1) := by decide +kernel
theorem d_MOD_readClass_50 : decode b_MOD_readClass 50 = .ok (.istore_n 3, 1) := by decide +kernel
theorem d_MOD_readClass_51 : decode b_MOD_readClass 51 = .ok (.aload_n 0, 1) := by decide +kernel
theorem d_MOD_readClass_52 : decode b_MOD_readClass 52 = .ok (.getfield 173, 3) := by decide +kernel
theorem d_MOD_readClass_55 : decode b_MOD_readClass 55 = .ok (.ifCond .ne 40, 3) := by decide +kernel
theorem d_MOD_readClass_58 : decode b_MOD_readClass 58 = .ok (.aload_n 0, 1) := by decide +kernel
theorem d_MOD_readClass_59 : decode b_MOD_readClass 59 = .ok (.getfield 216, 3) := by decide +kernel
theorem d_MOD_readClass_62 : decode b_MOD_readClass 62 = .ok (.aload_n 0, 1) := by decide +kernel
theorem d_MOD_readClass_63 : decode b_MOD_readClass 63 = .ok (.getfield 176, 3) := by decide +kernel
theorem d_MOD_readClass_66 : decode b_MOD_readClass 66 = .ok (.if_icmp .ge 29, 3) := by decide +kernel
theorem d_MOD_readClass_69 : decode b_MOD_readClass 69 = .ok (.iload_n 3, 1) := by decide +kernel
theorem d_MOD_readClass_70 : decode b_MOD_readClass 70 = .ok (.ifCond .ne 16, 3) := by decide +kernel
theorem d_MOD_readClass_73 : decode b_MOD_readClass 73 = .ok (.aload_n 0, 1) := by decide +kernel
theorem d_MOD_readClass_74 : decode b_MOD_readClass 74 = .ok (.aload_n 0, 1) := by decide +kernel
theorem d_MOD_readClass_75 : decode b_MOD_readClass 75 = .ok (.getfield 216, 3) := by decide +kernel
theorem d_MOD_readClass_78 : decode b_MOD_readClass 78 = .ok (.invokevirtual 183, 3) := by decide +kernel
theorem d_MOD_readClass_81 : decode b_MOD_readClass 81 = .ok (.bipush 93, 2) := by decide +kernel
theorem d_MOD_readClass_83 : decode b_MOD_readClass 83 = .ok (.if_icmp .eq 12, 3) := by decide +kernel
theorem d_MOD_readClass_86 : decode b_MOD_readClass 86 = .ok (.iconst 0, 1) := by decide +kernel
theorem d_MOD_readClass_87 : decode b_MOD_readClass 87 = .ok (.istore_n 3, 1) := by decide +kernel
theorem d_MOD_readClass_88 : decode b_MOD_readClass 88 = .ok (.aload_n 0, 1) := by decide +kernel
theorem d_MOD_readClass_89 : decode b_MOD_readClass 89 = .ok (.invokevirtual 241, 3) := by decide +kernel
theorem d_MOD_readClass_92 : decode b_MOD_readClass 92 = .ok (.goto (-41), 3) := by decide +kernel
theorem d_MOD_readClass_95 : decode b_MOD_readClass 95 = .ok (.aload_n 0, 1) := by decide +kernel
theorem d_MOD_readClass_96 : decode b_MOD_readClass 96 = .ok (.getfield 173, 3) := by decide +kernel
theorem d_MOD_readClass_99 : decode b_MOD_readClass 99 = .ok (.ifCond .le 4, 3) := by decide +kernel
theorem d_MOD_readClass_102 : decode b_MOD_readClass 102 = .ok (.return_, 1) := by decide +kernel
theorem d_MOD_readClass_103 : decode b_MOD_readClass 103 = .ok (.aload_n 0, 1) := by decide +kernel
theorem d_MOD_readClass_104 : decode b_MOD_readClass 104 = .ok (.getfield 216, 3) := by decide +kernel
theorem d_MOD_readClass_107 : decode b_MOD_readClass 107 = .ok (.aload_n 0, 1) := by decide +kernel
theorem d_MOD_readClass_108 : decode b_MOD_readClass 108 = .ok (.getfield 176, 3) := by decide +kernel
theorem d_MOD_readClass_111 : decode b_MOD_readClass 111 = .ok (.if_icmp .lt 10, 3) := by decide +kernel
theorem d_MOD_readClass_114 : decode b_MOD_readClass 114 = .ok (.aload_n 0, 1) := by decide +kernel
theorem d_MOD_readClass_115 : decode b_MOD_readClass 115 = .ok (.iconst 4, 1) := by decide +kernel
theorem d_MOD_readClass_116 : decode b_MOD_readClass 116 = .ok (.iload_n 1, 1) := by decide +kernel
theorem d_MOD_readClass_117 : decode b_MOD_readClass 117 = .ok (.invokevirtual 228, 3) := by decide +kernel
theorem d_MOD_readClass_120 : decode b_MOD_readClass 120 = .ok (.return_, 1) := by decide +kernel
theorem d_MOD_readClass_121 : decode b_MOD_readClass 121 = .ok (.aload_n 0, 1) := by decide +kernel
theorem d_MOD_readClass_122 : decode b_MOD_readClass 122 = .ok (.dup, 1) := by decide +kernel
theorem d_MOD_readClass_123 : decode b_MOD_readClass 123 = .ok (.getfield 216, 3) := by decide +kernel
theorem d_MOD_readClass_126 : decode b_MOD_readClass 126 = .ok (.iconst 1, 1) := by decide +kernel
theorem d_MOD_readClass_127 : decode b_MOD_readClass 127 = .ok (.iadd, 1) := by decide +kernel
theorem d_MOD_readClass_128 : decode b_MOD_readClass 128 = .ok (.putfield 216, 3) := by decide +kernel
theorem d_MOD_readClass_131 : decode b_MOD_readClass 131 = .ok (.iload_n 2, 1) := by decide +kernel
theorem d_MOD_readClass_132 : decode b_MOD_readClass 132 = .ok (.ifCond .eq 7, 3) := by decide +kernel
theorem d_MOD_readClass_135 : decode b_MOD_readClass 135 = .ok (.aload_n 0, 1) := by decide +kernel
theorem d_MOD_readClass_136 : decode b_MOD_readClass 136 = .ok (.invokevirtual 244, 3) := by decide +kernel
theorem d_MOD_readClass_139 : decode b_MOD_readClass 139 = .ok (.aload_n 0, 1) := by decide +kernel
theorem d_MOD_readClass_140 : decode b_MOD_readClass 140 = .ok (.invokevirtual 167, 3) := by decide +kernel
theorem d_MOD_readClass_143 : decode b_MOD_readClass 143 = .ok (.return_, 1) := by decide +kernel
theorem d_MOD_isRepeat_0 : decode b_MOD_isRepeat 0 = .ok (.iload_n 1, 1) := by decide +kernel
theorem d_MOD_isRepeat_1 : decode b_MOD_isRepeat 1 = .ok (.iconst 1, 1) := by decide +kernel
theorem d_MOD_isRepeat_2 : decode b_MOD_isRepeat 2 = .ok (.iadd, 1) := by decide +kernel
theorem d_MOD_isRepeat_3 : decode b_MOD_isRepeat 3 = .ok (.istore_n 2, 1) := by decide +kernel
theorem d_MOD_isRepeat_4 : decode b_MOD_isRepeat 4 = .ok (.iconst 0, 1) := by decide +kernel
theorem d_MOD_isRepeat_5 : decode b_MOD_isRepeat 5 = .ok (.istore_n 3, 1) := by decide +kernel
theorem d_MOD_isRepeat_6 : decode b_MOD_isRepeat 6 = .ok (.aload_n 0, 1) := by decide +kernel
theorem d_MOD_isRepeat_7 : decode b_MOD_isRepeat 7 = .ok (.iconst 0, 1) := by decide +kernel
theorem d_MOD_isRepeat_8 : decode b_MOD_isRepeat 8 = .ok (.putfield 258, 3) := by decide +kernel
theorem d_MOD_isRepeat_11 : decode b_MOD_isRepeat 11 = .ok (.aload_n 0, 1) := by decide +kernel
theorem d_MOD_isRepeat_12 : decode b_MOD_isRepeat 12 = .ok (.iconst 0, 1) := by decide +kernel
theorem d_MOD_isRepeat_13 : decode b_MOD_isRepeat 13 = .ok (.putfield 261, 3) := by decide +kernel
theorem d_MOD_isRepeat_16 : decode b_MOD_isRepeat 16 = .ok (.aload_n 0, 1) := by decide +kernel
theorem d_MOD_isRepeat_17 : decode b_MOD_isRepeat 17 = .ok (.iload_n 2, 1) := by decide +kernel
theorem d_MOD_isRepeat_18 : decode b_MOD_isRepeat 18 = .ok (.invokevirtual 183, 3) := by decide +kernel
theorem d_MOD_isRepeat_21 : decode b_MOD_isRepeat 21 = .ok (.invokestatic 179, 3) := by decide +kernel
theorem d_MOD_isRepeat_24 : decode b_MOD_isRepeat 24 = .ok (.ifCond .eq 37, 3) := by decide +kernel
theorem d_MOD_isRepeat_27 : decode b_MOD_isRepeat 27 = .ok (.iload_n 3, 1) := by decide +kernel
theorem d_MOD_isRepeat_28 : decode b_MOD_isRepeat 28 = .ok (.iconst 4, 1) := by decide +kernel
theorem d_MOD_isRepeat_29 : decode b_MOD_isRepeat 29 = .ok (.if_icmp .ge 32, 3) := by decide +kernel
theorem d_MOD_isRepeat_32 : decode b_MOD_isRepeat 32 = .ok (.aload_n 0, 1) := by decide +kernel
theorem d_MOD_isRepeat_33 : decode b_MOD_isRepeat 33 = .ok (.bipush 10, 2) := by decide +kernel
theorem d_MOD_isRepeat_35 : decode b_MOD_isRepeat 35 = .ok (.aload_n 0, 1) := by decide +kernel
theorem d_MOD_isRepeat_36 : decode b_MOD_isRepeat 36 = .ok (.getfield 258, 3) := by decide +kernel
theorem d_MOD_isRepeat_39 : decode b_MOD_isRepeat 39 = .ok (.imul, 1) := by decide +kernel
theorem d_MOD_isRepeat_40 : decode b_MOD_isRepeat 40 = .ok (.aload_n 0, 1) := by decide +kernel
theorem d_MOD_isRepeat_41 : decode b_MOD_isRepeat 41 = .ok (.iload_n 2, 1) := by decide +kernel
theorem d_MOD_isRepeat_42 : decode b_MOD_isRepeat 42 = .ok (.invokevirtual 183, 3) := by decide +kernel
theorem d_MOD_isRepeat_45 : decode b_MOD_isRepeat 45 = .ok (.iadd, 1) := by decide +kernel
theorem d_MOD_isRepeat_46 : decode b_MOD_isRepeat 46 = .ok (.bipush 48, 2) := by decide +kernel
theorem d_MOD_isRepeat_48 : decode b_MOD_isRepeat 48 = .ok (.isub, 1) := by decide +kernel
theorem d_MOD_isRepeat_49 : decode b_MOD_isRepeat 49 = .ok (.putfield 258, 3) := by decide +kernel
theorem d_MOD_isRepeat_52 : decode b_MOD_isRepeat 52 = .ok (.iinc 3 1, 3) := by decide +kernel
theorem d_MOD_isRepeat_55 : decode b_MOD_isRepeat 55 = .ok (.iinc 2 1, 3) := by decide +kernel
theorem d_MOD_isRepeat_58 : decode b_MOD_isRepeat 58 = .ok (.goto (-42), 3) := by decide +kernel
theorem d_MOD_isRepeat_61 : decode b_MOD_isRepeat 61 = .ok (.iload_n 3, 1) := by decide +kernel
theorem d_MOD_isRepeat_62 : decode b_MOD_isRepeat 62 = .ok (.iconst 1, 1) := by decide +kernel
theorem d_MOD_isRepeat_63 : decode b_MOD_isRepeat 63 = .ok (.if_icmp .lt 8, 3) := by decide +kernel
theorem d_MOD_isRepeat_66 : decode b_MOD_isRepeat 66 = .ok (.iload_n 3, 1) := by decide +kernel
theorem d_MOD_isRepeat_67 : decode b_MOD_isRepeat 67 = .ok (.iconst 3, 1) := by decide +kernel
theorem d_MOD_isRepeat_68 : decode b_MOD_isRepeat 68 = .ok (.if_icmp .le 5, 3) := by decide +kernel
theorem d_MOD_isRepeat_71 : decode b_MOD_isRepeat 71 = .ok (.iconst 0, 1) := by decide +kernel
theorem d_MOD_isRepeat_72 : decode b_MOD_isRepeat 72 = .ok (.ireturn, 1) := by decide +kernel
theorem d_MOD_isRepeat_73 : decode b_MOD_isRepeat 73 = .ok (.aload_n 0, 1) := by decide +kernel
theorem d_MOD_isRepeat_74 : decode b_MOD_isRepeat 74 = .ok (.aload_n 0, 1) := by decide +kernel
theorem d_MOD_isRepeat_75 : decode b_MOD_isRepeat 75 = .ok (.getfield 258, 3) := by decide +kernel
theorem d_MOD_isRepeat_78 : decode b_MOD_isRepeat 78 = .ok (.putfield 261, 3) := by decide +kernel
theorem d_MOD_isRepeat_81 : decode b_MOD_isRepeat 81 = .ok (.aload_n 0, 1) := by decide +kernel
theorem d_MOD_isRepeat_82 : decode b_MOD_isRepeat 82 = .ok (.iload_n 2, 1) := by decide +kernel
theorem d_MOD_isRepeat_83 : decode b_MOD_isRepeat 83 = .ok (.invokevirtual 183, 3) := by decide +kernel
theorem d_MOD_isRepeat_86 : decode b_MOD_isRepeat 86 = .ok (.bipush 44, 2) := by decide +kernel
theorem d_MOD_isRepeat_88 : decode b_MOD_isRepeat 88 = .ok (.if_icmp .ne 73, 3) := by decide +kernel
theorem d_MOD_isRepeat_91 : decode b_MOD_isRepeat 91 = .ok (.iinc 2 1, 3) := by decide +kernel
theorem d_MOD_isRepeat_94 : decode b_MOD_isRepeat 94 = .ok (.iconst 0, 1) := by decide +kernel
theorem d_MOD_isRepeat_95 : decode b_MOD_isRepeat 95 = .ok (.istore_n 3, 1) := by decide +kernel
theorem d_MOD_isRepeat_96 : decode b_MOD_isRepeat 96 = .ok (.iconst 0, 1) := by decide +kernel
theorem d_MOD_isRepeat_97 : decode b_MOD_isRepeat 97 = .ok (.istore 4, 2) := by decide +kernel
theorem d_MOD_isRepeat_99 : decode b_MOD_isRepeat 99 = .ok (.aload_n 0, 1) := by decide +kernel
theorem d_MOD_isRepeat_100 : decode b_MOD_isRepeat 100 = .ok (.iload_n 2, 1) := by decide +kernel
theorem d_MOD_isRepeat_101 : decode b_MOD_isRepeat 101 = .ok (.invokevirtual 183, 3) := by decide +kernel
theorem d_MOD_isRepeat_104 : decode b_MOD_isRepeat 104 = .ok (.invokestatic 179, 3) := by decide +kernel
theorem d_MOD_isRepeat_107 : decode b_MOD_isRepeat 107 = .ok (.ifCond .eq 33, 3) := by decide +kernel
theorem d_MOD_isRepeat_110 : decode b_MOD_isRepeat 110 = .ok (.iload_n 3, 1) := by decide +kernel
theorem d_MOD_isRepeat_111 : decode b_MOD_isRepeat 111 = .ok (.iconst 4, 1) := by decide +kernel
theorem d_MOD_isRepeat_112 : decode b_MOD_isRepeat 112 = .ok (.if_icmp .ge 28, 3) := by decide +kernel
theorem d_MOD_isRepeat_115 : decode b_MOD_isRepeat 115 = .ok (.bipush 10, 2) := by decide +kernel
theorem d_MOD_isRepeat_117 : decode b_MOD_isRepeat 117 = .ok (.iload 4, 2) := by decide +kernel
theorem d_MOD_isRepeat_119 : decode b_MOD_isRepeat 119 = .ok (.imul, 1) := by decide +kernel
theorem d_MOD_isRepeat_120 : decode b_MOD_isRepeat 120 = .ok (.aload_n 0, 1) := by decide +kernel
theorem d_MOD_isRepeat_121 : decode b_MOD_isRepeat 121 = .ok (.iload_n 2, 1) := by decide +kernel
theorem d_MOD_isRepeat_122 : decode b_MOD_isRepeat 122 = .ok (.invokevirtual 183, 3) := by decide +kernel
theorem d_MOD_isRepeat_125 : decode b_MOD_isRepeat 125 = .ok (.iadd, 1) := by decide +kernel
theorem d_MOD_isRepeat_126 : decode b_MOD_isRepeat 126 = .ok (.bipush 48, 2) := by decide +kernel
theorem d_MOD_isRepeat_128 : decode b_MOD_isRepeat 128 = .ok (.isub, 1) := by decide +kernel
theorem d_MOD_isRepeat_129 : decode b_MOD_isRepeat 129 = .ok (.istore 4, 2) := by decide +kernel
theorem d_MOD_isRepeat_131 : decode b_MOD_isRepeat 131 = .ok (.iinc 3 1, 3) := by decide +kernel
theorem d_MOD_isRepeat_134 : decode b_MOD_isRepeat 134 = .ok (.iinc 2 1, 3) := by decide +kernel
theorem d_MOD_isRepeat_137 : decode b_MOD_isRepeat 137 = .ok (.goto (-38), 3) := by decide +kernel
theorem d_MOD_isRepeat_140 : decode b_MOD_isRepeat 140 = .ok (.iload_n 3, 1) := by decide +kernel
theorem d_MOD_isRepeat_141 : decode b_MOD_isRepeat 141 = .ok (.iconst 3, 1) := by decide +kernel
theorem d_MOD_isRepeat_142 : decode b_MOD_isRepeat 142 = .ok (.if_icmp .le 5, 3) := by decide +kernel
theorem d_MOD_isRepeat_145 : decode b_MOD_isRepeat 145 = .ok (.iconst 0, 1) := by decide +kernel
theorem d_MOD_isRepeat_146 : decode b_MOD_isRepeat 146 = .ok (.ireturn, 1) := by decide +kernel
theorem d_MOD_isRepeat_147 : decode b_MOD_isRepeat 147 = .ok (.aload_n 0, 1) := by decide +kernel
theorem d_MOD_isRepeat_148 : decode b_MOD_isRepeat 148 = .ok (.iload_n 3, 1) := by decide +kernel
theorem d_MOD_isRepeat_149 : decode b_MOD_isRepeat 149 = .ok (.ifCond .ne 7, 3) := by decide +kernel
theorem d_MOD_isRepeat_152 : decode b_MOD_isRepeat 152 = .ok (.iconst (-1), 1) := by decide +kernel
theorem d_MOD_isRepeat_153 : decode b_MOD_isRepeat 153 = .ok (.goto 5, 3) := by decide +kernel
theorem d_MOD_isRepeat_156 : decode b_MOD_isRepeat 156 = .ok (.iload 4, 2) := by decide +kernel
theorem d_MOD_isRepeat_158 : decode b_MOD_isRepeat 158 = .ok (.putfield 261, 3) := by decide +kernel
theorem d_MOD_isRepeat_161 : decode b_MOD_isRepeat 161 = .ok (.aload_n 0, 1) := by decide +kernel
theorem d_MOD_isRepeat_162 : decode b_MOD_isRepeat 162 = .ok (.iload_n 2, 1) := by decide +kernel
theorem d_MOD_isRepeat_163 : decode b_MOD_isRepeat 163 = .ok (.iconst 1, 1) := by decide +kernel
theorem d_MOD_isRepeat_164 : decode b_MOD_isRepeat 164 = .ok (.iadd, 1) := by decide +kernel
theorem d_MOD_isRepeat_165 : decode b_MOD_isRepeat 165 = .ok (.putfield 187, 3) := by decide +kernel
theorem d_MOD_isRepeat_168 : decode b_MOD_isRepeat 168 = .ok (.aload_n 0, 1) := by decide +kernel
theorem d_MOD_isRepeat_169 : decode b_MOD_isRepeat 169 = .ok (.iload_n 2, 1) := by decide +kernel
theorem d_MOD_isRepeat_170 : decode b_MOD_isRepeat 170 = .ok (.invokevirtual 183, 3) := by decide +kernel
theorem d_MOD_isRepeat_173 : decode b_MOD_isRepeat 173 = .ok (.bipush 125, 2) := by decide +kernel
theorem d_MOD_isRepeat_175 : decode b_MOD_isRepeat 175 = .ok (.if_icmp .ne 7, 3) := by decide +kernel
theorem d_MOD_isRepeat_178 : decode b_MOD_isRepeat 178 = .ok (.iconst 1, 1) := by decide +kernel
theorem d_MOD_isRepeat_179 : decode b_MOD_isRepeat 179 = .ok (.goto 4, 3) := by decide +kernel
theorem d_MOD_isRepeat_182 : decode b_MOD_isRepeat 182 = .ok (.iconst 0, 1) := by decide +kernel
theorem d_MOD_isRepeat_183 : decode b_MOD_isRepeat 183 = .ok (.ireturn, 1) := by decide +kernel
theorem d_MOD_repeat_0 : decode b_MOD_repeat 0 = .ok (.aload_n 0, 1) := by decide +kernel
theorem d_MOD_repeat_1 : decode b_MOD_repeat 1 = .ok (.getfield 149, 3) := by decide +kernel
theorem d_MOD_repeat_4 : decode b_MOD_repeat 4 = .ok (.ifCond .ne 14, 3) := by decide +kernel
theorem d_MOD_repeat_7 : decode b_MOD_repeat 7 = .ok (.aload_n 0, 1) := by decide +kernel
theorem d_MOD_repeat_8 : decode b_MOD_repeat 8 = .ok (.bipush 8, 2) := by decide +kernel
theorem d_MOD_repeat_10 : decode b_MOD_repeat 10 = .ok (.aload_n 0, 1) := by decide +kernel
theorem d_MOD_repeat_11 : decode b_MOD_repeat 11 = .ok (.getfield 216, 3) := by decide +kernel
theorem d_MOD_repeat_14 : decode b_MOD_repeat 14 = .ok (.invokevirtual 228, 3) := by decide +kernel
theorem d_MOD_repeat_17 : decode b_MOD_repeat 17 = .ok (.return_, 1) := by decide +kernel
theorem d_MOD_repeat_18 : decode b_MOD_repeat 18 = .ok (.iload_n 1, 1) := by decide +kernel
theorem d_MOD_repeat_19 : decode b_MOD_repeat 19 = .ok (.bipush 123, 2) := by decide +kernel
theorem d_MOD_repeat_21 : decode b_MOD_repeat 21 = .ok (.if_icmp .eq 43, 3) := by decide +kernel
theorem d_MOD_repeat_24 : decode b_MOD_repeat 24 = .ok (.aload_n 0, 1) := by decide +kernel
theorem d_MOD_repeat_25 : decode b_MOD_repeat 25 = .ok (.iload_n 1, 1) := by decide +kernel
theorem d_MOD_repeat_26 : decode b_MOD_repeat 26 = .ok (.bipush 43, 2) := by decide +kernel
theorem d_MOD_repeat_28 : decode b_MOD_repeat 28 = .ok (.if_icmp .ne 7, 3) := by decide +kernel
theorem d_MOD_repeat_31 : decode b_MOD_repeat 31 = .ok (.iconst 1, 1) := by decide +kernel
theorem d_MOD_repeat_32 : decode b_MOD_repeat 32 = .ok (.goto 4, 3) := by decide +kernel
theorem d_MOD_repeat_35 : decode b_MOD_repeat 35 = .ok (.iconst 0, 1) := by decide +kernel
theorem d_MOD_repeat_36 : decode b_MOD_repeat 36 = .ok (.putfield 258, 3) := by decide +kernel
theorem d_MOD_repeat_39 : decode b_MOD_repeat 39 = .ok (.aload_n 0, 1) := by decide +kernel
theorem d_MOD_repeat_40 : decode b_MOD_repeat 40 = .ok (.iload_n 1, 1) := by decide +kernel
theorem d_MOD_repeat_41 : decode b_MOD_repeat 41 = .ok (.bipush 63, 2) := by decide +kernel
theorem d_MOD_repeat_43 : decode b_MOD_repeat 43 = .ok (.if_icmp .ne 7, 3) := by decide +kernel
theorem d_MOD_repeat_46 : decode b_MOD_repeat 46 = .ok (.iconst 1, 1) := by decide +kernel
theorem d_MOD_repeat_47 : decode b_MOD_repeat 47 = .ok (.goto 4, 3) := by decide +kernel
theorem d_MOD_repeat_50 : decode b_MOD_repeat 50 = .ok (.iconst (-1), 1) := by decide +kernel
theorem d_MOD_repeat_51 : decode b_MOD_repeat 51 = .ok (.putfield 261, 3) := by decide +kernel
theorem d_MOD_repeat_54 : decode b_MOD_repeat 54 = .ok (.aload_n 0, 1) := by decide +kernel
theorem d_MOD_repeat_55 : decode b_MOD_repeat 55 = .ok (.aload_n 0, 1) := by decide +kernel
theorem d_MOD_repeat_56 : decode b_MOD_repeat 56 = .ok (.getfield 216, 3) := by decide +kernel
theorem d_MOD_repeat_59 : decode b_MOD_repeat 59 = .ok (.iconst 1, 1) := by decide +kernel
theorem d_MOD_repeat_60 : decode b_MOD_repeat 60 = .ok (.iadd, 1) := by decide +kernel
theorem d_MOD_repeat_61 : decode b_MOD_repeat 61 = .ok (.putfield 187, 3) := by decide +kernel
theorem d_MOD_repeat_64 : decode b_MOD_repeat 64 = .ok (.aload_n 0, 1) := by decide +kernel
theorem d_MOD_repeat_65 : decode b_MOD_repeat 65 = .ok (.getfield 258, 3) := by decide +kernel
theorem d_MOD_repeat_68 : decode b_MOD_repeat 68 = .ok (.bipush 100, 2) := by decide +kernel
theorem d_MOD_repeat_70 : decode b_MOD_repeat 70 = .ok (.if_icmp .gt 31, 3) := by decide +kernel
theorem d_MOD_repeat_73 : decode b_MOD_repeat 73 = .ok (.aload_n 0, 1) := by decide +kernel
theorem d_MOD_repeat_74 : decode b_MOD_repeat 74 = .ok (.getfield 261, 3) := by decide +kernel
theorem d_MOD_repeat_77 : decode b_MOD_repeat 77 = .ok (.bipush 100, 2) := by decide +kernel
theorem d_MOD_repeat_79 : decode b_MOD_repeat 79 = .ok (.if_icmp .gt 22, 3) := by decide +kernel
theorem d_MOD_repeat_82 : decode b_MOD_repeat 82 = .ok (.aload_n 0, 1) := by decide +kernel
theorem d_MOD_repeat_83 : decode b_MOD_repeat 83 = .ok (.getfield 261, 3) := by decide +kernel
theorem d_MOD_repeat_86 : decode b_MOD_repeat 86 = .ok (.iconst (-1), 1) := by decide +kernel
theorem d_MOD_repeat_87 : decode b_MOD_repeat 87 = .ok (.if_icmp .eq 25, 3) := by decide +kernel
theorem d_MOD_repeat_90 : decode b_MOD_repeat 90 = .ok (.aload_n 0, 1) := by decide +kernel
theorem d_MOD_repeat_91 : decode b_MOD_repeat 91 = .ok (.getfield 258, 3) := by decide +kernel
theorem d_MOD_repeat_94 : decode b_MOD_repeat 94 = .ok (.aload_n 0, 1) := by decide +kernel
theorem d_MOD_repeat_95 : decode b_MOD_repeat 95 = .ok (.getfield 261, 3) := by decide +kernel
theorem d_MOD_repeat_98 : decode b_MOD_repeat 98 = .ok (.if_icmp .le 14, 3) := by decide +kernel
theorem d_MOD_repeat_101 : decode b_MOD_repeat 101 = .ok (.aload_n 0, 1) := by decide +kernel
theorem d_MOD_repeat_102 : decode b_MOD_repeat 102 = .ok (.bipush 9, 2) := by decide +kernel
theorem d_MOD_repeat_104 : decode b_MOD_repeat 104 = .ok (.aload_n 0, 1) := by decide +kernel
theorem d_MOD_repeat_105 : decode b_MOD_repeat 105 = .ok (.getfield 216, 3) := by decide +kernel
theorem d_MOD_repeat_108 : decode b_MOD_repeat 108 = .ok (.invokevirtual 228, 3) := by decide +kernel
theorem d_MOD_repeat_111 : decode b_MOD_repeat 111 = .ok (.return_, 1) := by decide +kernel
theorem d_MOD_repeat_112 : decode b_MOD_repeat 112 = .ok (.aload_n 0, 1) := by decide +kernel
theorem d_MOD_repeat_113 : decode b_MOD_repeat 113 = .ok (.aload_n 0, 1) := by decide +kernel
theorem d_MOD_repeat_114 : decode b_MOD_repeat 114 = .ok (.getfield 187, 3) := by decide +kernel
theorem d_MOD_repeat_117 : decode b_MOD_repeat 117 = .ok (.putfield 216, 3) := by decide +kernel
theorem d_MOD_repeat_120 : decode b_MOD_repeat 120 = .ok (.aload_n 0, 1) := by decide +kernel
theorem d_MOD_repeat_121 : decode b_MOD_repeat 121 = .ok (.aload_n 0, 1) := by decide +kernel
theorem d_MOD_repeat_122 : decode b_MOD_repeat 122 = .ok (.getfield 216, 3) := by decide +kernel
theorem d_MOD_repeat_125 : decode b_MOD_repeat 125 = .ok (.invokevirtual 183, 3) := by decide +kernel
theorem d_MOD_repeat_128 : decode b_MOD_repeat 128 = .ok (.bipush 63, 2) := by decide +kernel
theorem d_MOD_repeat_130 : decode b_MOD_repeat 130 = .ok (.if_icmp .ne 7, 3) := by decide +kernel
theorem d_MOD_repeat_133 : decode b_MOD_repeat 133 = .ok (.iconst 1, 1) := by decide +kernel
theorem d_MOD_repeat_134 : decode b_MOD_repeat 134 = .ok (.goto 4, 3) := by decide +kernel
theorem d_MOD_repeat_137 : decode b_MOD_repeat 137 = .ok (.iconst 0, 1) := by decide +kernel
theorem d_MOD_repeat_138 : decode b_MOD_repeat 138 = .ok (.istore_n 2, 1) := by decide +kernel
theorem d_MOD_repeat_139 : decode b_MOD_repeat 139 = .ok (.iload_n 2, 1) := by decide +kernel
theorem d_MOD_repeat_140 : decode b_MOD_repeat 140 = .ok (.ifCond .eq 13, 3) := by decide +kernel
theorem d_MOD_repeat_143 : decode b_MOD_repeat 143 = .ok (.aload_n 0, 1) := by decide +kernel
theorem d_MOD_repeat_144 : decode b_MOD_repeat 144 = .ok (.dup, 1) := by decide +kernel
theorem d_MOD_repeat_145 : decode b_MOD_repeat 145 = .ok (.getfield 216, 3) := by decide +kernel
theorem d_MOD_repeat_148 : decode b_MOD_repeat 148 = .ok (.iconst 1, 1) := by decide +kernel
theorem d_MOD_repeat_149 : decode b_MOD_repeat 149 = .ok (.iadd, 1) := by decide +kernel
theorem d_MOD_repeat_150 : decode b_MOD_repeat 150 = .ok (.putfield 216, 3) := by decide +kernel
theorem d_MOD_repeat_153 : decode b_MOD_repeat 153 = .ok (.aload_n 0, 1) := by decide +kernel
theorem d_MOD_repeat_154 : decode b_MOD_repeat 154 = .ok (.iload_n 2, 1) := by decide +kernel
theorem d_MOD_repeat_155 : decode b_MOD_repeat 155 = .ok (.aload_n 0, 1) := by decide +kernel
theorem d_MOD_repeat_156 : decode b_MOD_repeat 156 = .ok (.getfield 115, 3) := by decide +kernel
theorem d_MOD_repeat_159 : decode b_MOD_repeat 159 = .ok (.bipush 8, 2) := by decide +kernel
theorem d_MOD_repeat_161 : decode b_MOD_repeat 161 = .ok (.iand, 1) := by decide +kernel
theorem d_MOD_repeat_162 : decode b_MOD_repeat 162 = .ok (.bipush 8, 2) := by decide +kernel
theorem d_MOD_repeat_164 : decode b_MOD_repeat 164 = .ok (.if_icmp .ne 7, 3) := by decide +kernel
theorem d_MOD_repeat_167 : decode b_MOD_repeat 167 = .ok (.iconst 1, 1) := by decide +kernel
theorem d_MOD_repeat_168 : decode b_MOD_repeat 168 = .ok (.goto 4, 3) := by decide +kernel
theorem d_MOD_repeat_171 : decode b_MOD_repeat 171 = .ok (.iconst 0, 1) := by decide +kernel
theorem d_MOD_repeat_172 : decode b_MOD_repeat 172 = .ok (.if_icmp .eq 8, 3) := by decide +kernel
theorem d_MOD_repeat_175 : decode b_MOD_repeat 175 = .ok (.bipush 8, 2) := by decide +kernel
theorem d_MOD_repeat_177 : decode b_MOD_repeat 177 = .ok (.goto 5, 3) := by decide +kernel
theorem d_MOD_repeat_180 : decode b_MOD_repeat 180 = .ok (.bipush 7, 2) := by decide +kernel
theorem d_MOD_repeat_182 : decode b_MOD_repeat 182 = .ok (.aload_n 0, 1) := by decide +kernel
theorem d_MOD_repeat_183 : decode b_MOD_repeat 183 = .ok (.getfield 258, 3) := by decide +kernel
theorem d_MOD_repeat_186 : decode b_MOD_repeat 186 = .ok (.aload_n 0, 1) := by decide +kernel
theorem d_MOD_repeat_187 : decode b_MOD_repeat 187 = .ok (.getfield 261, 3) := by decide +kernel
theorem d_MOD_repeat_190 : decode b_MOD_repeat 190 = .ok (.iconst 1, 1) := by decide +kernel
theorem d_MOD_repeat_191 : decode b_MOD_repeat 191 = .ok (.invokevirtual 157, 3) := by decide +kernel
theorem d_MOD_repeat_194 : decode b_MOD_repeat 194 = .ok (.aload_n 0, 1) := by decide +kernel
theorem d_MOD_repeat_195 : decode b_MOD_repeat 195 = .ok (.iconst 0, 1) := by decide +kernel
theorem d_MOD_repeat_196 : decode b_MOD_repeat 196 = .ok (.putfield 149, 3) := by decide +kernel
theorem d_MOD_repeat_199 : decode b_MOD_repeat 199 = .ok (.return_, 1) := by decide +kernel
theorem d_MOD_isNamed_0 : decode b_MOD_isNamed 0 = .ok (.aload_n 0, 1) := by decide +kernel
theorem d_MOD_isNamed_1 : decode b_MOD_isNamed 1 = .ok (.getfield 53, 3) := by decide +kernel
theorem d_MOD_isNamed_4 : decode b_MOD_isNamed 4 = .ok (.iload_n 1, 1) := by decide +kernel
theorem d_MOD_isNamed_5 : decode b_MOD_isNamed 5 = .ok (.iaload, 1) := by decide +kernel
theorem d_MOD_isNamed_6 : decode b_MOD_isNamed 6 = .ok (.iload_n 3, 1) := by decide +kernel
theorem d_MOD_isNamed_7 : decode b_MOD_isNamed 7 = .ok (.if_icmp .ne 7, 3) := by decide +kernel
theorem d_MOD_isNamed_10 : decode b_MOD_isNamed 10 = .ok (.iconst 1, 1) := by decide +kernel
theorem d_MOD_isNamed_11 : decode b_MOD_isNamed 11 = .ok (.goto 4, 3) := by decide +kernel
theorem d_MOD_isNamed_14 : decode b_MOD_isNamed 14 = .ok (.iconst 0, 1) := by decide +kernel
theorem d_MOD_isNamed_15 : decode b_MOD_isNamed 15 = .ok (.istore 4, 2) := by decide +kernel
theorem d_MOD_isNamed_17 : decode b_MOD_isNamed 17 = .ok (.iconst 0, 1) := by decide +kernel
theorem d_MOD_isNamed_18 : decode b_MOD_isNamed 18 = .ok (.istore 5, 2) := by decide +kernel
theorem d_MOD_isNamed_20 : decode b_MOD_isNamed 20 = .ok (.iload 5, 2) := by decide +kernel
theorem d_MOD_isNamed_22 : decode b_MOD_isNamed 22 = .ok (.iload_n 3, 1) := by decide +kernel
theorem d_MOD_isNamed_23 : decode b_MOD_isNamed 23 = .ok (.if_icmp .ge 45, 3) := by decide +kernel
theorem d_MOD_isNamed_26 : decode b_MOD_isNamed 26 = .ok (.iload 4, 2) := by decide +kernel
theorem d_MOD_isNamed_28 : decode b_MOD_isNamed 28 = .ok (.ifCond .eq 40, 3) := by decide +kernel
theorem d_MOD_isNamed_31 : decode b_MOD_isNamed 31 = .ok (.aload_n 0, 1) := by decide +kernel
theorem d_MOD_isNamed_32 : decode b_MOD_isNamed 32 = .ok (.getfield 50, 3) := by decide +kernel
theorem d_MOD_isNamed_35 : decode b_MOD_isNamed 35 = .ok (.bipush 12, 2) := by decide +kernel
theorem d_MOD_isNamed_37 : decode b_MOD_isNamed 37 = .ok (.iload_n 1, 1) := by decide +kernel
theorem d_MOD_isNamed_38 : decode b_MOD_isNamed 38 = .ok (.imul, 1) := by decide +kernel
theorem d_MOD_isNamed_39 : decode b_MOD_isNamed 39 = .ok (.iload 5, 2) := by decide +kernel
theorem d_MOD_isNamed_41 : decode b_MOD_isNamed 41 = .ok (.iadd, 1) := by decide +kernel
theorem d_MOD_isNamed_42 : decode b_MOD_isNamed 42 = .ok (.iaload, 1) := by decide +kernel
theorem d_MOD_isNamed_43 : decode b_MOD_isNamed 43 = .ok (.aload_n 0, 1) := by decide +kernel
theorem d_MOD_isNamed_44 : decode b_MOD_isNamed 44 = .ok (.getfield 13, 3) := by decide +kernel
theorem d_MOD_isNamed_47 : decode b_MOD_isNamed 47 = .ok (.iload_n 2, 1) := by decide +kernel
theorem d_MOD_isNamed_48 : decode b_MOD_isNamed 48 = .ok (.iload 5, 2) := by decide +kernel
theorem d_MOD_isNamed_50 : decode b_MOD_isNamed 50 = .ok (.iadd, 1) := by decide +kernel
theorem d_MOD_isNamed_51 : decode b_MOD_isNamed 51 = .ok (.iaload, 1) := by decide +kernel
theorem d_MOD_isNamed_52 : decode b_MOD_isNamed 52 = .ok (.if_icmp .ne 7, 3) := by decide +kernel
theorem d_MOD_isNamed_55 : decode b_MOD_isNamed 55 = .ok (.iconst 1, 1) := by decide +kernel
theorem d_MOD_isNamed_56 : decode b_MOD_isNamed 56 = .ok (.goto 4, 3) := by decide +kernel
theorem d_MOD_isNamed_59 : decode b_MOD_isNamed 59 = .ok (.iconst 0, 1) := by decide +kernel
theorem d_MOD_isNamed_60 : decode b_MOD_isNamed 60 = .ok (.istore 4, 2) := by decide +kernel
theorem d_MOD_isNamed_62 : decode b_MOD_isNamed 62 = .ok (.iinc 5 1, 3) := by decide +kernel
theorem d_MOD_isNamed_65 : decode b_MOD_isNamed 65 = .ok (.goto (-45), 3) := by decide +kernel
theorem d_MOD_isNamed_68 : decode b_MOD_isNamed 68 = .ok (.iload 4, 2) := by decide +kernel
theorem d_MOD_isNamed_70 : decode b_MOD_isNamed 70 = .ok (.ireturn, 1) := by decide +kernel
theorem d_MOD_enter_0 : decode b_MOD_enter 0 = .ok (.aload_n 0, 1) := by decide +kernel
theorem d_MOD_enter_1 : decode b_MOD_enter 1 = .ok (.getfield 146, 3) := by decide +kernel
theorem d_MOD_enter_4 : decode b_MOD_enter 4 = .ok (.bipush 30, 2) := by decide +kernel
theorem d_MOD_enter_6 : decode b_MOD_enter 6 = .ok (.if_icmp .ne 11, 3) := by decide +kernel
theorem d_MOD_enter_9 : decode b_MOD_enter 9 = .ok (.aload_n 0, 1) := by decide +kernel
theorem d_MOD_enter_10 : decode b_MOD_enter 10 = .ok (.bipush 12, 2) := by decide +kernel
theorem d_MOD_enter_12 : decode b_MOD_enter 12 = .ok (.iload_n 1, 1) := by decide +kernel
theorem d_MOD_enter_13 : decode b_MOD_enter 13 = .ok (.invokevirtual 228, 3) := by decide +kernel
theorem d_MOD_enter_16 : decode b_MOD_enter 16 = .ok (.return_, 1) := by decide +kernel
theorem d_MOD_enter_17 : decode b_MOD_enter 17 = .ok (.iload_n 2, 1) := by decide +kernel
theorem d_MOD_enter_18 : decode b_MOD_enter 18 = .ok (.ifCond .eq 20, 3) := by decide +kernel
theorem d_MOD_enter_21 : decode b_MOD_enter 21 = .ok (.aload_n 0, 1) := by decide +kernel
theorem d_MOD_enter_22 : decode b_MOD_enter 22 = .ok (.getfield 274, 3) := by decide +kernel
theorem d_MOD_enter_25 : decode b_MOD_enter 25 = .ok (.bipush 9, 2) := by decide +kernel
theorem d_MOD_enter_27 : decode b_MOD_enter 27 = .ok (.if_icmp .ne 11, 3) := by decide +kernel
theorem d_MOD_enter_30 : decode b_MOD_enter 30 = .ok (.aload_n 0, 1) := by decide +kernel
theorem d_MOD_enter_31 : decode b_MOD_enter 31 = .ok (.bipush 13, 2) := by decide +kernel
theorem d_MOD_enter_33 : decode b_MOD_enter 33 = .ok (.iload_n 1, 1) := by decide +kernel
theorem d_MOD_enter_34 : decode b_MOD_enter 34 = .ok (.invokevirtual 228, 3) := by decide +kernel
theorem d_MOD_enter_37 : decode b_MOD_enter 37 = .ok (.return_, 1) := by decide +kernel
theorem d_MOD_enter_38 : decode b_MOD_enter 38 = .ok (.aload_n 0, 1) := by decide +kernel
theorem d_MOD_enter_39 : decode b_MOD_enter 39 = .ok (.dup, 1) := by decide +kernel
theorem d_MOD_enter_40 : decode b_MOD_enter 40 = .ok (.getfield 274, 3) := by decide +kernel
theorem d_MOD_enter_43 : decode b_MOD_enter 43 = .ok (.iload_n 2, 1) := by decide +kernel
theorem d_MOD_enter_44 : decode b_MOD_enter 44 = .ok (.ifCond .eq 7, 3) := by decide +kernel
theorem d_MOD_enter_47 : decode b_MOD_enter 47 = .ok (.iconst 1, 1) := by decide +kernel
theorem d_MOD_enter_48 : decode b_MOD_enter 48 = .ok (.goto 4, 3) := by decide +kernel
theorem d_MOD_enter_51 : decode b_MOD_enter 51 = .ok (.iconst 0, 1) := by decide +kernel
theorem d_MOD_enter_52 : decode b_MOD_enter 52 = .ok (.iadd, 1) := by decide +kernel
theorem d_MOD_enter_53 : decode b_MOD_enter 53 = .ok (.putfield 274, 3) := by decide +kernel
theorem d_MOD_enter_56 : decode b_MOD_enter 56 = .ok (.aload_n 0, 1) := by decide +kernel
theorem d_MOD_enter_57 : decode b_MOD_enter 57 = .ok (.dup, 1) := by decide +kernel
theorem d_MOD_enter_58 : decode b_MOD_enter 58 = .ok (.getfield 146, 3) := by decide +kernel
theorem d_MOD_enter_61 : decode b_MOD_enter 61 = .ok (.iconst 1, 1) := by decide +kernel
theorem d_MOD_enter_62 : decode b_MOD_enter 62 = .ok (.iadd, 1) := by decide +kernel
theorem d_MOD_enter_63 : decode b_MOD_enter 63 = .ok (.putfield 146, 3) := by decide +kernel
theorem d_MOD_enter_66 : decode b_MOD_enter 66 = .ok (.aload_n 0, 1) := by decide +kernel
theorem d_MOD_enter_67 : decode b_MOD_enter 67 = .ok (.getfield 56, 3) := by decide +kernel
theorem d_MOD_enter_70 : decode b_MOD_enter 70 = .ok (.aload_n 0, 1) := by decide +kernel
theorem d_MOD_enter_71 : decode b_MOD_enter 71 = .ok (.getfield 146, 3) := by decide +kernel
theorem d_MOD_enter_74 : decode b_MOD_enter 74 = .ok (.iload_n 1, 1) := by decide +kernel
theorem d_MOD_enter_75 : decode b_MOD_enter 75 = .ok (.iastore, 1) := by decide +kernel
theorem d_MOD_enter_76 : decode b_MOD_enter 76 = .ok (.aload_n 0, 1) := by decide +kernel
theorem d_MOD_enter_77 : decode b_MOD_enter 77 = .ok (.getfield 59, 3) := by decide +kernel
theorem d_MOD_enter_80 : decode b_MOD_enter 80 = .ok (.aload_n 0, 1) := by decide +kernel
theorem d_MOD_enter_81 : decode b_MOD_enter 81 = .ok (.getfield 146, 3) := by decide +kernel
theorem d_MOD_enter_84 : decode b_MOD_enter 84 = .ok (.iload_n 2, 1) := by decide +kernel
theorem d_MOD_enter_85 : decode b_MOD_enter 85 = .ok (.ifCond .eq 10, 3) := by decide +kernel
theorem d_MOD_enter_88 : decode b_MOD_enter 88 = .ok (.aload_n 0, 1) := by decide +kernel
theorem d_MOD_enter_89 : decode b_MOD_enter 89 = .ok (.getfield 274, 3) := by decide +kernel
theorem d_MOD_enter_92 : decode b_MOD_enter 92 = .ok (.goto 4, 3) := by decide +kernel
theorem d_MOD_enter_95 : decode b_MOD_enter 95 = .ok (.iconst 0, 1) := by decide +kernel
theorem d_MOD_enter_96 : decode b_MOD_enter 96 = .ok (.iastore, 1) := by decide +kernel
theorem d_MOD_enter_97 : decode b_MOD_enter 97 = .ok (.aload_n 0, 1) := by decide +kernel
theorem d_MOD_enter_98 : decode b_MOD_enter 98 = .ok (.getfield 62, 3) := by decide +kernel
theorem d_MOD_enter_101 : decode b_MOD_enter 101 = .ok (.aload_n 0, 1) := by decide +kernel
theorem d_MOD_enter_102 : decode b_MOD_enter 102 = .ok (.getfield 146, 3) := by decide +kernel
theorem d_MOD_enter_105 : decode b_MOD_enter 105 = .ok (.aload_n 0, 1) := by decide +kernel
theorem d_MOD_enter_106 : decode b_MOD_enter 106 = .ok (.getfield 115, 3) := by decide +kernel
theorem d_MOD_enter_109 : decode b_MOD_enter 109 = .ok (.iastore, 1) := by decide +kernel
theorem d_MOD_enter_110 : decode b_MOD_enter 110 = .ok (.aload_n 0, 1) := by decide +kernel
theorem d_MOD_enter_111 : decode b_MOD_enter 111 = .ok (.getfield 65, 3) := by decide +kernel
theorem d_MOD_enter_114 : decode b_MOD_enter 114 = .ok (.aload_n 0, 1) := by decide +kernel
theorem d_MOD_enter_115 : decode b_MOD_enter 115 = .ok (.getfield 146, 3) := by decide +kernel
theorem d_MOD_enter_118 : decode b_MOD_enter 118 = .ok (.iconst 0, 1) := by decide +kernel
theorem d_MOD_enter_119 : decode b_MOD_enter 119 = .ok (.iastore, 1) := by decide +kernel
theorem d_MOD_enter_120 : decode b_MOD_enter 120 = .ok (.aload_n 0, 1) := by decide +kernel
theorem d_MOD_enter_121 : decode b_MOD_enter 121 = .ok (.getfield 68, 3) := by decide +kernel
theorem d_MOD_enter_124 : decode b_MOD_enter 124 = .ok (.aload_n 0, 1) := by decide +kernel
theorem d_MOD_enter_125 : decode b_MOD_enter 125 = .ok (.getfield 146, 3) := by decide +kernel
theorem d_MOD_enter_128 : decode b_MOD_enter 128 = .ok (.iconst 0, 1) := by decide +kernel
theorem d_MOD_enter_129 : decode b_MOD_enter 129 = .ok (.iastore, 1) := by decide +kernel
theorem d_MOD_enter_130 : decode b_MOD_enter 130 = .ok (.aload_n 0, 1) := by decide +kernel
theorem d_MOD_enter_131 : decode b_MOD_enter 131 = .ok (.iconst 0, 1) := by decide +kernel
theorem d_MOD_enter_132 : decode b_MOD_enter 132 = .ok (.putfield 149, 3) := by decide +kernel
theorem d_MOD_enter_135 : decode b_MOD_enter 135 = .ok (.return_, 1) := by decide +kernel
theorem d_MOD_openNamed_0 : decode b_MOD_openNamed 0 = .ok (.aload_n 0, 1) := by decide +kernel
theorem d_MOD_openNamed_1 : decode b_MOD_openNamed 1 = .ok (.getfield 216, 3) := by decide +kernel
theorem d_MOD_openNamed_4 : decode b_MOD_openNamed 4 = .ok (.iconst 3, 1) := by decide +kernel
theorem d_MOD_openNamed_5 : decode b_MOD_openNamed 5 = .ok (.iadd, 1) := by decide +kernel
theorem d_MOD_openNamed_6 : decode b_MOD_openNamed 6 = .ok (.istore_n 2, 1) := by decide +kernel
theorem d_MOD_openNamed_7 : decode b_MOD_openNamed 7 = .ok (.iload_n 2, 1) := by decide +kernel
theorem d_MOD_openNamed_8 : decode b_MOD_openNamed 8 = .ok (.istore_n 3, 1) := by decide +kernel
theorem d_MOD_openNamed_9 : decode b_MOD_openNamed 9 = .ok (.aload_n 0, 1) := by decide +kernel
theorem d_MOD_openNamed_10 : decode b_MOD_openNamed 10 = .ok (.iload_n 3, 1) := by decide +kernel
theorem d_MOD_openNamed_11 : decode b_MOD_openNamed 11 = .ok (.invokevirtual 183, 3) := by decide +kernel
theorem d_MOD_openNamed_14 : decode b_MOD_openNamed 14 = .ok (.invokestatic 200, 3) := by decide +kernel
theorem d_MOD_openNamed_17 : decode b_MOD_openNamed 17 = .ok (.ifCond .ne 24, 3) := by decide +kernel
theorem d_MOD_openNamed_20 : decode b_MOD_openNamed 20 = .ok (.aload_n 0, 1) := by decide +kernel
theorem d_MOD_openNamed_21 : decode b_MOD_openNamed 21 = .ok (.iload_n 3, 1) := by decide +kernel
theorem d_MOD_openNamed_22 : decode b_MOD_openNamed 22 = .ok (.invokevirtual 183, 3) := by decide +kernel
theorem d_MOD_openNamed_25 : decode b_MOD_openNamed 25 = .ok (.invokestatic 179, 3) := by decide +kernel
theorem d_MOD_openNamed_28 : decode b_MOD_openNamed 28 = .ok (.ifCond .ne 13, 3) := by decide +kernel
theorem d_MOD_openNamed_31 : decode b_MOD_openNamed 31 = .ok (.aload_n 0, 1) := by decide +kernel
theorem d_MOD_openNamed_32 : decode b_MOD_openNamed 32 = .ok (.iload_n 3, 1) := by decide +kernel
theorem d_MOD_openNamed_33 : decode b_MOD_openNamed 33 = .ok (.invokevirtual 183, 3) := by decide +kernel
theorem d_MOD_openNamed_36 : decode b_MOD_openNamed 36 = .ok (.bipush 95, 2) := by decide +kernel
theorem d_MOD_openNamed_38 : decode b_MOD_openNamed 38 = .ok (.if_icmp .ne 9, 3) := by decide +kernel
theorem d_MOD_openNamed_41 : decode b_MOD_openNamed 41 = .ok (.iinc 3 1, 3) := by decide +kernel
theorem d_MOD_openNamed_44 : decode b_MOD_openNamed 44 = .ok (.goto (-35), 3) := by decide +kernel
theorem d_MOD_openNamed_47 : decode b_MOD_openNamed 47 = .ok (.iload_n 3, 1) := by decide +kernel
theorem d_MOD_openNamed_48 : decode b_MOD_openNamed 48 = .ok (.iload_n 2, 1) := by decide +kernel
theorem d_MOD_openNamed_49 : decode b_MOD_openNamed 49 = .ok (.isub, 1) := by decide +kernel
theorem d_MOD_openNamed_50 : decode b_MOD_openNamed 50 = .ok (.istore 4, 2) := by decide +kernel
theorem d_MOD_openNamed_52 : decode b_MOD_openNamed 52 = .ok (.aload_n 0, 1) := by decide +kernel
theorem d_MOD_openNamed_53 : decode b_MOD_openNamed 53 = .ok (.aload_n 0, 1) := by decide +kernel
theorem d_MOD_openNamed_54 : decode b_MOD_openNamed 54 = .ok (.getfield 216, 3) := by decide +kernel
theorem d_MOD_openNamed_57 : decode b_MOD_openNamed 57 = .ok (.iconst 2, 1) := by decide +kernel
theorem d_MOD_openNamed_58 : decode b_MOD_openNamed 58 = .ok (.iadd, 1) := by decide +kernel
theorem d_MOD_openNamed_59 : decode b_MOD_openNamed 59 = .ok (.invokevirtual 183, 3) := by decide +kernel
theorem d_MOD_openNamed_62 : decode b_MOD_openNamed 62 = .ok (.bipush 60, 2) := by decide +kernel
theorem d_MOD_openNamed_64 : decode b_MOD_openNamed 64 = .ok (.if_icmp .ne 26, 3) := by decide +kernel
theorem d_MOD_openNamed_67 : decode b_MOD_openNamed 67 = .ok (.iload 4, 2) := by decide +kernel
theorem d_MOD_openNamed_69 : decode b_MOD_openNamed 69 = .ok (.iconst 1, 1) := by decide +kernel
theorem d_MOD_openNamed_70 : decode b_MOD_openNamed 70 = .ok (.if_icmp .lt 20, 3) := by decide +kernel
theorem d_MOD_openNamed_73 : decode b_MOD_openNamed 73 = .ok (.iload 4, 2) := by decide +kernel
theorem d_MOD_openNamed_75 : decode b_MOD_openNamed 75 = .ok (.bipush 12, 2) := by decide +kernel
theorem d_MOD_openNamed_77 : decode b_MOD_openNamed 77 = .ok (.if_icmp .gt 13, 3) := by decide +kernel
theorem d_MOD_openNamed_80 : decode b_MOD_openNamed 80 = .ok (.aload_n 0, 1) := by decide +kernel
theorem d_MOD_openNamed_81 : decode b_MOD_openNamed 81 = .ok (.iload_n 3, 1) := by decide +kernel
theorem d_MOD_openNamed_82 : decode b_MOD_openNamed 82 = .ok (.invokevirtual 183, 3) := by decide +kernel
theorem d_MOD_openNamed_85 : decode b_MOD_openNamed 85 = .ok (.bipush 62, 2) := by decide +kernel
theorem d_MOD_openNamed_87 : decode b_MOD_openNamed 87 = .ok (.if_icmp .eq 11, 3) := by decide +kernel
theorem d_MOD_openNamed_90 : decode b_MOD_openNamed 90 = .ok (.aload_n 0, 1) := by decide +kernel
theorem d_MOD_openNamed_91 : decode b_MOD_openNamed 91 = .ok (.bipush 10, 2) := by decide +kernel
theorem d_MOD_openNamed_93 : decode b_MOD_openNamed 93 = .ok (.iload_n 1, 1) := by decide +kernel
theorem d_MOD_openNamed_94 : decode b_MOD_openNamed 94 = .ok (.invokevirtual 228, 3) := by decide +kernel
theorem d_MOD_openNamed_97 : decode b_MOD_openNamed 97 = .ok (.return_, 1) := by decide +kernel
theorem d_MOD_openNamed_98 : decode b_MOD_openNamed 98 = .ok (.iconst 1, 1) := by decide +kernel
theorem d_MOD_openNamed_99 : decode b_MOD_openNamed 99 = .ok (.istore 5, 2) := by decide +kernel
theorem d_MOD_openNamed_101 : decode b_MOD_openNamed 101 = .ok (.iload 5, 2) := by decide +kernel
theorem d_MOD_openNamed_103 : decode b_MOD_openNamed 103 = .ok (.aload_n 0, 1) := by decide +kernel
theorem d_MOD_openNamed_104 : decode b_MOD_openNamed 104 = .ok (.getfield 274, 3) := by decide +kernel
theorem d_MOD_openNamed_107 : decode b_MOD_openNamed 107 = .ok (.if_icmp .gt 28, 3) := by decide +kernel
theorem d_MOD_openNamed_110 : decode b_MOD_openNamed 110 = .ok (.aload_n 0, 1) := by decide +kernel
theorem d_MOD_openNamed_111 : decode b_MOD_openNamed 111 = .ok (.iload 5, 2) := by decide +kernel
theorem d_MOD_openNamed_113 : decode b_MOD_openNamed 113 = .ok (.iload_n 2, 1) := by decide +kernel
theorem d_MOD_openNamed_114 : decode b_MOD_openNamed 114 = .ok (.iload 4, 2) := by decide +kernel
theorem d_MOD_openNamed_116 : decode b_MOD_openNamed 116 = .ok (.invokevirtual 277, 3) := by decide +kernel
theorem d_MOD_openNamed_119 : decode b_MOD_openNamed 119 = .ok (.ifCond .eq 10, 3) := by decide +kernel
theorem d_MOD_openNamed_122 : decode b_MOD_openNamed 122 = .ok (.aload_n 0, 1) := by decide +kernel
theorem d_MOD_openNamed_123 : decode b_MOD_openNamed 123 = .ok (.bipush 11, 2) := by decide +kernel
theorem d_MOD_openNamed_125 : decode b_MOD_openNamed 125 = .ok (.iload_n 1, 1) := by decide +kernel
theorem d_MOD_openNamed_126 : decode b_MOD_openNamed 126 = .ok (.invokevirtual 228, 3) := by decide +kernel
theorem d_MOD_openNamed_129 : decode b_MOD_openNamed 129 = .ok (.iinc 5 1, 3) := by decide +kernel
theorem d_MOD_openNamed_132 : decode b_MOD_openNamed 132 = .ok (.goto (-31), 3) := by decide +kernel
theorem d_MOD_openNamed_135 : decode b_MOD_openNamed 135 = .ok (.aload_n 0, 1) := by decide +kernel
theorem d_MOD_openNamed_136 : decode b_MOD_openNamed 136 = .ok (.getfield 173, 3) := by decide +kernel
theorem d_MOD_openNamed_139 : decode b_MOD_openNamed 139 = .ok (.ifCond .le 4, 3) := by decide +kernel
theorem d_MOD_openNamed_142 : decode b_MOD_openNamed 142 = .ok (.return_, 1) := by decide +kernel
theorem d_MOD_openNamed_143 : decode b_MOD_openNamed 143 = .ok (.aload_n 0, 1) := by decide +kernel
theorem d_MOD_openNamed_144 : decode b_MOD_openNamed 144 = .ok (.iload_n 3, 1) := by decide +kernel
theorem d_MOD_openNamed_145 : decode b_MOD_openNamed 145 = .ok (.iconst 1, 1) := by decide +kernel
theorem d_MOD_openNamed_146 : decode b_MOD_openNamed 146 = .ok (.iadd, 1) := by decide +kernel
theorem d_MOD_openNamed_147 : decode b_MOD_openNamed 147 = .ok (.putfield 216, 3) := by decide +kernel
theorem d_MOD_openNamed_150 : decode b_MOD_openNamed 150 = .ok (.aload_n 0, 1) := by decide +kernel
theorem d_MOD_openNamed_151 : decode b_MOD_openNamed 151 = .ok (.iload_n 1, 1) := by decide +kernel
theorem d_MOD_openNamed_152 : decode b_MOD_openNamed 152 = .ok (.iconst 1, 1) := by decide +kernel
theorem d_MOD_openNamed_153 : decode b_MOD_openNamed 153 = .ok (.invokevirtual 270, 3) := by decide +kernel
theorem d_MOD_openNamed_156 : decode b_MOD_openNamed 156 = .ok (.aload_n 0, 1) := by decide +kernel
theorem d_MOD_openNamed_157 : decode b_MOD_openNamed 157 = .ok (.getfield 173, 3) := by decide +kernel
theorem d_MOD_openNamed_160 : decode b_MOD_openNamed 160 = .ok (.ifCond .le 4, 3) := by decide +kernel
theorem d_MOD_openNamed_163 : decode b_MOD_openNamed 163 = .ok (.return_, 1) := by decide +kernel
theorem d_MOD_openNamed_164 : decode b_MOD_openNamed 164 = .ok (.aload_n 0, 1) := by decide +kernel
theorem d_MOD_openNamed_165 : decode b_MOD_openNamed 165 = .ok (.getfield 53, 3) := by decide +kernel
theorem d_MOD_openNamed_168 : decode b_MOD_openNamed 168 = .ok (.aload_n 0, 1) := by decide +kernel
theorem d_MOD_openNamed_169 : decode b_MOD_openNamed 169 = .ok (.getfield 274, 3) := by decide +kernel
theorem d_MOD_openNamed_172 : decode b_MOD_openNamed 172 = .ok (.iload 4, 2) := by decide +kernel
theorem d_MOD_openNamed_174 : decode b_MOD_openNamed 174 = .ok (.iastore, 1) := by decide +kernel
theorem d_MOD_openNamed_175 : decode b_MOD_openNamed 175 = .ok (.iconst 0, 1) := by decide +kernel
theorem d_MOD_openNamed_176 : decode b_MOD_openNamed 176 = .ok (.istore 5, 2) := by decide +kernel
theorem d_MOD_openNamed_178 : decode b_MOD_openNamed 178 = .ok (.iload 5, 2) := by decide +kernel
theorem d_MOD_openNamed_180 : decode b_MOD_openNamed 180 = .ok (.iload 4, 2) := by decide +kernel
theorem d_MOD_openNamed_182 : decode b_MOD_openNamed 182 = .ok (.if_icmp .ge 33, 3) := by decide +kernel
theorem d_MOD_openNamed_185 : decode b_MOD_openNamed 185 = .ok (.aload_n 0, 1) := by decide +kernel
theorem d_MOD_openNamed_186 : decode b_MOD_openNamed 186 = .ok (.getfield 50, 3) := by decide +kernel
theorem d_MOD_openNamed_189 : decode b_MOD_openNamed 189 = .ok (.bipush 12, 2) := by decide +kernel
theorem d_MOD_openNamed_191 : decode b_MOD_openNamed 191 = .ok (.aload_n 0, 1) := by decide +kernel
theorem d_MOD_openNamed_192 : decode b_MOD_openNamed 192 = .ok (.getfield 274, 3) := by decide +kernel
theorem d_MOD_openNamed_195 : decode b_MOD_openNamed 195 = .ok (.imul, 1) := by decide +kernel
theorem d_MOD_openNamed_196 : decode b_MOD_openNamed 196 = .ok (.iload 5, 2) := by decide +kernel
theorem d_MOD_openNamed_198 : decode b_MOD_openNamed 198 = .ok (.iadd, 1) := by decide +kernel
theorem d_MOD_openNamed_199 : decode b_MOD_openNamed 199 = .ok (.aload_n 0, 1) := by decide +kernel
theorem d_MOD_openNamed_200 : decode b_MOD_openNamed 200 = .ok (.getfield 13, 3) := by decide +kernel
theorem d_MOD_openNamed_203 : decode b_MOD_openNamed 203 = .ok (.iload_n 2, 1) := by decide +kernel
theorem d_MOD_openNamed_204 : decode b_MOD_openNamed 204 = .ok (.iload 5, 2) := by decide +kernel
theorem d_MOD_openNamed_206 : decode b_MOD_openNamed 206 = .ok (.iadd, 1) := by decide +kernel
theorem d_MOD_openNamed_207 : decode b_MOD_openNamed 207 = .ok (.iaload, 1) := by decide +kernel
theorem d_MOD_openNamed_208 : decode b_MOD_openNamed 208 = .ok (.iastore, 1) := by decide +kernel
theorem d_MOD_openNamed_209 : decode b_MOD_openNamed 209 = .ok (.iinc 5 1, 3) := by decide +kernel
theorem d_MOD_openNamed_212 : decode b_MOD_openNamed 212 = .ok (.goto (-34), 3) := by decide +kernel
theorem d_MOD_openNamed_215 : decode b_MOD_openNamed 215 = .ok (.return_, 1) := by decide +kernel
theorem d_MOD_flagOf_0 : decode b_MOD_flagOf 0 = .ok (.iload_n 0, 1) := by decide +kernel
theorem d_MOD_flagOf_1 : decode b_MOD_flagOf 1 = .ok (.bipush 105, 2) := by decide +kernel
theorem d_MOD_flagOf_3 : decode b_MOD_flagOf 3 = .ok (.if_icmp .ne 7, 3) := by decide +kernel
theorem d_MOD_flagOf_6 : decode b_MOD_flagOf 6 = .ok (.iconst 1, 1) := by decide +kernel
theorem d_MOD_flagOf_7 : decode b_MOD_flagOf 7 = .ok (.goto 35, 3) := by decide +kernel
theorem d_MOD_flagOf_10 : decode b_MOD_flagOf 10 = .ok (.iload_n 0, 1) := by decide +kernel
theorem d_MOD_flagOf_11 : decode b_MOD_flagOf 11 = .ok (.bipush 109, 2) := by decide +kernel
theorem d_MOD_flagOf_13 : decode b_MOD_flagOf 13 = .ok (.if_icmp .ne 7, 3) := by decide +kernel
theorem d_MOD_flagOf_16 : decode b_MOD_flagOf 16 = .ok (.iconst 2, 1) := by decide +kernel
theorem d_MOD_flagOf_17 : decode b_MOD_flagOf 17 = .ok (.goto 25, 3) := by decide +kernel
theorem d_MOD_flagOf_20 : decode b_MOD_flagOf 20 = .ok (.iload_n 0, 1) := by decide +kernel
theorem d_MOD_flagOf_21 : decode b_MOD_flagOf 21 = .ok (.bipush 115, 2) := by decide +kernel
theorem d_MOD_flagOf_23 : decode b_MOD_flagOf 23 = .ok (.if_icmp .ne 7, 3) := by decide +kernel
theorem d_MOD_flagOf_26 : decode b_MOD_flagOf 26 = .ok (.iconst 4, 1) := by decide +kernel
theorem d_MOD_flagOf_27 : decode b_MOD_flagOf 27 = .ok (.goto 15, 3) := by decide +kernel
theorem d_MOD_flagOf_30 : decode b_MOD_flagOf 30 = .ok (.iload_n 0, 1) := by decide +kernel
theorem d_MOD_flagOf_31 : decode b_MOD_flagOf 31 = .ok (.bipush 85, 2) := by decide +kernel
theorem d_MOD_flagOf_33 : decode b_MOD_flagOf 33 = .ok (.if_icmp .ne 8, 3) := by decide +kernel
theorem d_MOD_flagOf_36 : decode b_MOD_flagOf 36 = .ok (.bipush 8, 2) := by decide +kernel
theorem d_MOD_flagOf_38 : decode b_MOD_flagOf 38 = .ok (.goto 4, 3) := by decide +kernel
theorem d_MOD_flagOf_41 : decode b_MOD_flagOf 41 = .ok (.iconst 0, 1) := by decide +kernel
theorem d_MOD_flagOf_42 : decode b_MOD_flagOf 42 = .ok (.ireturn, 1) := by decide +kernel
theorem d_MOD_openFlagged_0 : decode b_MOD_openFlagged 0 = .ok (.aload_n 0, 1) := by decide +kernel
theorem d_MOD_openFlagged_1 : decode b_MOD_openFlagged 1 = .ok (.getfield 216, 3) := by decide +kernel
theorem d_MOD_openFlagged_4 : decode b_MOD_openFlagged 4 = .ok (.iconst 1, 1) := by decide +kernel
theorem d_MOD_openFlagged_5 : decode b_MOD_openFlagged 5 = .ok (.iadd, 1) := by decide +kernel
theorem d_MOD_openFlagged_6 : decode b_MOD_openFlagged 6 = .ok (.istore_n 2, 1) := by decide +kernel
theorem d_MOD_openFlagged_7 : decode b_MOD_openFlagged 7 = .ok (.aload_n 0, 1) := by decide +kernel
theorem d_MOD_openFlagged_8 : decode b_MOD_openFlagged 8 = .ok (.getfield 115, 3) := by decide +kernel
theorem d_MOD_openFlagged_11 : decode b_MOD_openFlagged 11 = .ok (.istore_n 3, 1) := by decide +kernel
theorem d_MOD_openFlagged_12 : decode b_MOD_openFlagged 12 = .ok (.aload_n 0, 1) := by decide +kernel
theorem d_MOD_openFlagged_13 : decode b_MOD_openFlagged 13 = .ok (.iload_n 2, 1) := by decide +kernel
theorem d_MOD_openFlagged_14 : decode b_MOD_openFlagged 14 = .ok (.invokevirtual 183, 3) := by decide +kernel
theorem d_MOD_openFlagged_17 : decode b_MOD_openFlagged 17 = .ok (.invokestatic 280, 3) := by decide +kernel
theorem d_MOD_openFlagged_20 : decode b_MOD_openFlagged 20 = .ok (.ifCond .le 20, 3) := by decide +kernel
theorem d_MOD_openFlagged_23 : decode b_MOD_openFlagged 23 = .ok (.iload_n 3, 1) := by decide +kernel
theorem d_MOD_openFlagged_24 : decode b_MOD_openFlagged 24 = .ok (.aload_n 0, 1) := by decide +kernel
theorem d_MOD_openFlagged_25 : decode b_MOD_openFlagged 25 = .ok (.iload_n 2, 1) := by decide +kernel
theorem d_MOD_openFlagged_26 : decode b_MOD_openFlagged 26 = .ok (.invokevirtual 183, 3) := by decide +kernel
theorem d_MOD_openFlagged_29 : decode b_MOD_openFlagged 29 = .ok (.invokestatic 280, 3) := by decide +kernel
theorem d_MOD_openFlagged_32 : decode b_MOD_openFlagged 32 = .ok (.ior, 1) := by decide +kernel
theorem d_MOD_openFlagged_33 : decode b_MOD_openFlagged 33 = .ok (.istore_n 3, 1) := by decide +kernel
theorem d_MOD_openFlagged_34 : decode b_MOD_openFlagged 34 = .ok (.iinc 2 1, 3) := by decide +kernel
theorem d_MOD_openFlagged_37 : decode b_MOD_openFlagged 37 = .ok (.goto (-25), 3) := by decide +kernel
theorem d_MOD_openFlagged_40 : decode b_MOD_openFlagged 40 = .ok (.iconst 1, 1) := by decide +kernel
theorem d_MOD_openFlagged_41 : decode b_MOD_openFlagged 41 = .ok (.istore 4, 2) := by decide +kernel
theorem d_MOD_openFlagged_43 : decode b_MOD_openFlagged 43 = .ok (.aload_n 0, 1) := by decide +kernel
theorem d_MOD_openFlagged_44 : decode b_MOD_openFlagged 44 = .ok (.iload_n 2, 1) := by decide +kernel
theorem d_MOD_openFlagged_45 : decode b_MOD_openFlagged 45 = .ok (.invokevirtual 183, 3) := by decide +kernel
theorem d_MOD_openFlagged_48 : decode b_MOD_openFlagged 48 = .ok (.bipush 45, 2) := by decide +kernel
theorem d_MOD_openFlagged_50 : decode b_MOD_openFlagged 50 = .ok (.if_icmp .ne 54, 3) := by decide +kernel
theorem d_MOD_openFlagged_53 : decode b_MOD_openFlagged 53 = .ok (.iinc 2 1, 3) := by decide +kernel
theorem d_MOD_openFlagged_56 : decode b_MOD_openFlagged 56 = .ok (.aload_n 0, 1) := by decide +kernel
theorem d_MOD_openFlagged_57 : decode b_MOD_openFlagged 57 = .ok (.iload_n 2, 1) := by decide +kernel
theorem d_MOD_openFlagged_58 : decode b_MOD_openFlagged 58 = .ok (.invokevirtual 183, 3) := by decide +kernel
theorem d_MOD_openFlagged_61 : decode b_MOD_openFlagged 61 = .ok (.invokestatic 280, 3) := by decide +kernel
theorem d_MOD_openFlagged_64 : decode b_MOD_openFlagged 64 = .ok (.ifCond .le 7, 3) := by decide +kernel
theorem d_MOD_openFlagged_67 : decode b_MOD_openFlagged 67 = .ok (.iconst 1, 1) := by decide +kernel
theorem d_MOD_openFlagged_68 : decode b_MOD_openFlagged 68 = .ok (.goto 4, 3) := by decide +kernel
theorem d_MOD_openFlagged_71 : decode b_MOD_openFlagged 71 = .ok (.iconst 0, 1) := by decide +kernel
theorem d_MOD_openFlagged_72 : decode b_MOD_openFlagged 72 = .ok (.istore 4, 2) := by decide +kernel
theorem d_MOD_openFlagged_74 : decode b_MOD_openFlagged 74 = .ok (.aload_n 0, 1) := by decide +kernel
theorem d_MOD_openFlagged_75 : decode b_MOD_openFlagged 75 = .ok (.iload_n 2, 1) := by decide +kernel
theorem d_MOD_openFlagged_76 : decode b_MOD_openFlagged 76 = .ok (.invokevirtual 183, 3) := by decide +kernel
theorem d_MOD_openFlagged_79 : decode b_MOD_openFlagged 79 = .ok (.invokestatic 280, 3) := by decide +kernel
theorem d_MOD_openFlagged_82 : decode b_MOD_openFlagged 82 = .ok (.ifCond .le 22, 3) := by decide +kernel
theorem d_MOD_openFlagged_85 : decode b_MOD_openFlagged 85 = .ok (.iload_n 3, 1) := by decide +kernel
theorem d_MOD_openFlagged_86 : decode b_MOD_openFlagged 86 = .ok (.aload_n 0, 1) := by decide +kernel
theorem d_MOD_openFlagged_87 : decode b_MOD_openFlagged 87 = .ok (.iload_n 2, 1) := by decide +kernel
theorem d_MOD_openFlagged_88 : decode b_MOD_openFlagged 88 = .ok (.invokevirtual 183, 3) := by decide +kernel
theorem d_MOD_openFlagged_91 : decode b_MOD_openFlagged 91 = .ok (.invokestatic 280, 3) := by decide +kernel
theorem d_MOD_openFlagged_94 : decode b_MOD_openFlagged 94 = .ok (.iconst (-1), 1) := by decide +kernel
theorem d_MOD_openFlagged_95 : decode b_MOD_openFlagged 95 = .ok (.ixor, 1) := by decide +kernel
theorem d_MOD_openFlagged_96 : decode b_MOD_openFlagged 96 = .ok (.iand, 1) := by decide +kernel
theorem d_MOD_openFlagged_97 : decode b_MOD_openFlagged 97 = .ok (.istore_n 3, 1) := by decide +kernel
theorem d_MOD_openFlagged_98 : decode b_MOD_openFlagged 98 = .ok (.iinc 2 1, 3) := by decide +kernel
theorem d_MOD_openFlagged_101 : decode b_MOD_openFlagged 101 = .ok (.goto (-27), 3) := by decide +kernel
theorem d_MOD_openFlagged_104 : decode b_MOD_openFlagged 104 = .ok (.aload_n 0, 1) := by decide +kernel
theorem d_MOD_openFlagged_105 : decode b_MOD_openFlagged 105 = .ok (.iload_n 2, 1) := by decide +kernel
theorem d_MOD_openFlagged_106 : decode b_MOD_openFlagged 106 = .ok (.invokevirtual 183, 3) := by decide +kernel
theorem d_MOD_openFlagged_109 : decode b_MOD_openFlagged 109 = .ok (.istore 5, 2) := by decide +kernel
theorem d_MOD_openFlagged_111 : decode b_MOD_openFlagged 111 = .ok (.iload 4, 2) := by decide +kernel
theorem d_MOD_openFlagged_113 : decode b_MOD_openFlagged 113 = .ok (.ifCond .eq 17, 3) := by decide +kernel
theorem d_MOD_openFlagged_116 : decode b_MOD_openFlagged 116 = .ok (.iload 5, 2) := by decide +kernel
theorem d_MOD_openFlagged_118 : decode b_MOD_openFlagged 118 = .ok (.bipush 58, 2) := by decide +kernel
theorem d_MOD_openFlagged_120 : decode b_MOD_openFlagged 120 = .ok (.if_icmp .eq 18, 3) := by decide +kernel
theorem d_MOD_openFlagged_123 : decode b_MOD_openFlagged 123 = .ok (.iload 5, 2) := by decide +kernel
theorem d_MOD_openFlagged_125 : decode b_MOD_openFlagged 125 = .ok (.bipush 41, 2) := by decide +kernel
theorem d_MOD_openFlagged_127 : decode b_MOD_openFlagged 127 = .ok (.if_icmp .eq 11, 3) := by decide +kernel
theorem d_MOD_openFlagged_130 : decode b_MOD_openFlagged 130 = .ok (.aload_n 0, 1) := by decide +kernel
theorem d_MOD_openFlagged_131 : decode b_MOD_openFlagged 131 = .ok (.bipush 10, 2) := by decide +kernel
theorem d_MOD_openFlagged_133 : decode b_MOD_openFlagged 133 = .ok (.iload_n 1, 1) := by decide +kernel
theorem d_MOD_openFlagged_134 : decode b_MOD_openFlagged 134 = .ok (.invokevirtual 228, 3) := by decide +kernel
theorem d_MOD_openFlagged_137 : decode b_MOD_openFlagged 137 = .ok (.return_, 1) := by decide +kernel
theorem d_MOD_openFlagged_138 : decode b_MOD_openFlagged 138 = .ok (.aload_n 0, 1) := by decide +kernel
theorem d_MOD_openFlagged_139 : decode b_MOD_openFlagged 139 = .ok (.iload_n 2, 1) := by decide +kernel
theorem d_MOD_openFlagged_140 : decode b_MOD_openFlagged 140 = .ok (.iconst 1, 1) := by decide +kernel
theorem d_MOD_openFlagged_141 : decode b_MOD_openFlagged 141 = .ok (.iadd, 1) := by decide +kernel
theorem d_MOD_openFlagged_142 : decode b_MOD_openFlagged 142 = .ok (.putfield 216, 3) := by decide +kernel
theorem d_MOD_openFlagged_145 : decode b_MOD_openFlagged 145 = .ok (.iload 5, 2) := by decide +kernel
theorem d_MOD_openFlagged_147 : decode b_MOD_openFlagged 147 = .ok (.bipush 58, 2) := by decide +kernel
theorem d_MOD_openFlagged_149 : decode b_MOD_openFlagged 149 = .ok (.if_icmp .ne 12, 3) := by decide +kernel
theorem d_MOD_openFlagged_152 : decode b_MOD_openFlagged 152 = .ok (.aload_n 0, 1) := by decide +kernel
theorem d_MOD_openFlagged_153 : decode b_MOD_openFlagged 153 = .ok (.iload_n 1, 1) := by decide +kernel
theorem d_MOD_openFlagged_154 : decode b_MOD_openFlagged 154 = .ok (.iconst 0, 1) := by decide +kernel
theorem d_MOD_openFlagged_155 : decode b_MOD_openFlagged 155 = .ok (.invokevirtual 270, 3) := by decide +kernel
theorem d_MOD_openFlagged_158 : decode b_MOD_openFlagged 158 = .ok (.goto 20, 3) := by decide +kernel
theorem d_MOD_openFlagged_161 : decode b_MOD_openFlagged 161 = .ok (.aload_n 0, 1) := by decide +kernel
theorem d_MOD_openFlagged_162 : decode b_MOD_openFlagged 162 = .ok (.iconst 4, 1) := by decide +kernel
theorem d_MOD_openFlagged_163 : decode b_MOD_openFlagged 163 = .ok (.iconst 0, 1) := by decide +kernel
theorem d_MOD_openFlagged_164 : decode b_MOD_openFlagged 164 = .ok (.iconst (-1), 1) := by decide +kernel
theorem d_MOD_openFlagged_165 : decode b_MOD_openFlagged 165 = .ok (.iconst 0, 1) := by decide +kernel
theorem d_MOD_openFlagged_166 : decode b_MOD_openFlagged 166 = .ok (.invokevirtual 157, 3) := by decide +kernel
theorem d_MOD_openFlagged_169 : decode b_MOD_openFlagged 169 = .ok (.aload_n 0, 1) := by decide +kernel
theorem d_MOD_openFlagged_170 : decode b_MOD_openFlagged 170 = .ok (.invokevirtual 161, 3) := by decide +kernel
theorem d_MOD_openFlagged_173 : decode b_MOD_openFlagged 173 = .ok (.aload_n 0, 1) := by decide +kernel
theorem d_MOD_openFlagged_174 : decode b_MOD_openFlagged 174 = .ok (.iconst 0, 1) := by decide +kernel
theorem d_MOD_openFlagged_175 : decode b_MOD_openFlagged 175 = .ok (.putfield 149, 3) := by decide +kernel
theorem d_MOD_openFlagged_178 : decode b_MOD_openFlagged 178 = .ok (.aload_n 0, 1) := by decide +kernel
theorem d_MOD_openFlagged_179 : decode b_MOD_openFlagged 179 = .ok (.iload_n 3, 1) := by decide +kernel
theorem d_MOD_openFlagged_180 : decode b_MOD_openFlagged 180 = .ok (.putfield 115, 3) := by decide +kernel
theorem d_MOD_openFlagged_183 : decode b_MOD_openFlagged 183 = .ok (.return_, 1) := by decide +kernel
theorem d_MOD_open_0 : decode b_MOD_open 0 = .ok (.aload_n 0, 1) := by decide +kernel
theorem d_MOD_open_1 : decode b_MOD_open 1 = .ok (.getfield 216, 3) := by decide +kernel
theorem d_MOD_open_4 : decode b_MOD_open 4 = .ok (.istore_n 1, 1) := by decide +kernel
theorem d_MOD_open_5 : decode b_MOD_open 5 = .ok (.aload_n 0, 1) := by decide +kernel
theorem d_MOD_open_6 : decode b_MOD_open 6 = .ok (.dup, 1) := by decide +kernel
theorem d_MOD_open_7 : decode b_MOD_open 7 = .ok (.getfield 216, 3) := by decide +kernel
theorem d_MOD_open_10 : decode b_MOD_open 10 = .ok (.iconst 1, 1) := by decide +kernel
theorem d_MOD_open_11 : decode b_MOD_open 11 = .ok (.iadd, 1) := by decide +kernel
theorem d_MOD_open_12 : decode b_MOD_open 12 = .ok (.putfield 216, 3) := by decide +kernel
theorem d_MOD_open_15 : decode b_MOD_open 15 = .ok (.aload_n 0, 1) := by decide +kernel
theorem d_MOD_open_16 : decode b_MOD_open 16 = .ok (.aload_n 0, 1) := by decide +kernel
theorem d_MOD_open_17 : decode b_MOD_open 17 = .ok (.getfield 216, 3) := by decide +kernel
theorem d_MOD_open_20 : decode b_MOD_open 20 = .ok (.invokevirtual 183, 3) := by decide +kernel
theorem d_MOD_open_23 : decode b_MOD_open 23 = .ok (.bipush 63, 2) := by decide +kernel
theorem d_MOD_open_25 : decode b_MOD_open 25 = .ok (.if_icmp .ne 32, 3) := by decide +kernel
theorem d_MOD_open_28 : decode b_MOD_open 28 = .ok (.aload_n 0, 1) := by decide +kernel
theorem d_MOD_open_29 : decode b_MOD_open 29 = .ok (.aload_n 0, 1) := by decide +kernel
theorem d_MOD_open_30 : decode b_MOD_open 30 = .ok (.getfield 216, 3) := by decide +kernel
theorem d_MOD_open_33 : decode b_MOD_open 33 = .ok (.iconst 1, 1) := by decide +kernel
theorem d_MOD_open_34 : decode b_MOD_open 34 = .ok (.iadd, 1) := by decide +kernel
theorem d_MOD_open_35 : decode b_MOD_open 35 = .ok (.invokevirtual 183, 3) := by decide +kernel
theorem d_MOD_open_38 : decode b_MOD_open 38 = .ok (.bipush 80, 2) := by decide +kernel
theorem d_MOD_open_40 : decode b_MOD_open 40 = .ok (.if_icmp .ne 11, 3) := by decide +kernel
theorem d_MOD_open_43 : decode b_MOD_open 43 = .ok (.aload_n 0, 1) := by decide +kernel
theorem d_MOD_open_44 : decode b_MOD_open 44 = .ok (.iload_n 1, 1) := by decide +kernel
theorem d_MOD_open_45 : decode b_MOD_open 45 = .ok (.invokevirtual 264, 3) := by decide +kernel
theorem d_MOD_open_48 : decode b_MOD_open 48 = .ok (.goto 8, 3) := by decide +kernel
theorem d_MOD_open_51 : decode b_MOD_open 51 = .ok (.aload_n 0, 1) := by decide +kernel
theorem d_MOD_open_52 : decode b_MOD_open 52 = .ok (.iload_n 1, 1) := by decide +kernel
theorem d_MOD_open_53 : decode b_MOD_open 53 = .ok (.invokevirtual 267, 3) := by decide +kernel
theorem d_MOD_open_56 : decode b_MOD_open 56 = .ok (.return_, 1) := by decide +kernel
theorem d_MOD_open_57 : decode b_MOD_open 57 = .ok (.aload_n 0, 1) := by decide +kernel
theorem d_MOD_open_58 : decode b_MOD_open 58 = .ok (.iload_n 1, 1) := by decide +kernel
theorem d_MOD_open_59 : decode b_MOD_open 59 = .ok (.iconst 1, 1) := by decide +kernel
theorem d_MOD_open_60 : decode b_MOD_open 60 = .ok (.invokevirtual 270, 3) := by decide +kernel
theorem d_MOD_open_63 : decode b_MOD_open 63 = .ok (.return_, 1) := by decide +kernel
theorem d_MOD_close_0 : decode b_MOD_close 0 = .ok (.aload_n 0, 1) := by decide +kernel
theorem d_MOD_close_1 : decode b_MOD_close 1 = .ok (.getfield 146, 3) := by decide +kernel
theorem d_MOD_close_4 : decode b_MOD_close 4 = .ok (.ifCond .ne 13, 3) := by decide +kernel
theorem d_MOD_close_7 : decode b_MOD_close 7 = .ok (.aload_n 0, 1) := by decide +kernel
theorem d_MOD_close_8 : decode b_MOD_close 8 = .ok (.iconst 3, 1) := by decide +kernel
theorem d_MOD_close_9 : decode b_MOD_close 9 = .ok (.aload_n 0, 1) := by decide +kernel
theorem d_MOD_close_10 : decode b_MOD_close 10 = .ok (.getfield 216, 3) := by decide +kernel
