theorem d_MOD_close_13 : decode b_MOD_close 13 = .ok (.invokevirtual 228, 3) := by decide +kernel
theorem d_MOD_close_16 : decode b_MOD_close 16 = .ok (.return_, 1) := by decide +kernel
theorem d_MOD_close_17 : decode b_MOD_close 17 = .ok (.aload_n 0, 1) := by decide +kernel
theorem d_MOD_close_18 : decode b_MOD_close 18 = .ok (.invokevirtual 283, 3) := by decide +kernel
theorem d_MOD_close_21 : decode b_MOD_close 21 = .ok (.aload_n 0, 1) := by decide +kernel
theorem d_MOD_close_22 : decode b_MOD_close 22 = .ok (.bipush 6, 2) := by decide +kernel
theorem d_MOD_close_24 : decode b_MOD_close 24 = .ok (.aload_n 0, 1) := by decide +kernel
theorem d_MOD_close_25 : decode b_MOD_close 25 = .ok (.getfield 59, 3) := by decide +kernel
theorem d_MOD_close_28 : decode b_MOD_close 28 = .ok (.aload_n 0, 1) := by decide +kernel
theorem d_MOD_close_29 : decode b_MOD_close 29 = .ok (.getfield 146, 3) := by decide +kernel
theorem d_MOD_close_32 : decode b_MOD_close 32 = .ok (.iaload, 1) := by decide +kernel
theorem d_MOD_close_33 : decode b_MOD_close 33 = .ok (.iconst (-1), 1) := by decide +kernel
theorem d_MOD_close_34 : decode b_MOD_close 34 = .ok (.iconst 1, 1) := by decide +kernel
theorem d_MOD_close_35 : decode b_MOD_close 35 = .ok (.invokevirtual 157, 3) := by decide +kernel
theorem d_MOD_close_38 : decode b_MOD_close 38 = .ok (.aload_n 0, 1) := by decide +kernel
theorem d_MOD_close_39 : decode b_MOD_close 39 = .ok (.aload_n 0, 1) := by decide +kernel
theorem d_MOD_close_40 : decode b_MOD_close 40 = .ok (.getfield 62, 3) := by decide +kernel
theorem d_MOD_close_43 : decode b_MOD_close 43 = .ok (.aload_n 0, 1) := by decide +kernel
theorem d_MOD_close_44 : decode b_MOD_close 44 = .ok (.getfield 146, 3) := by decide +kernel
theorem d_MOD_close_47 : decode b_MOD_close 47 = .ok (.iaload, 1) := by decide +kernel
theorem d_MOD_close_48 : decode b_MOD_close 48 = .ok (.putfield 115, 3) := by decide +kernel
theorem d_MOD_close_51 : decode b_MOD_close 51 = .ok (.aload_n 0, 1) := by decide +kernel
theorem d_MOD_close_52 : decode b_MOD_close 52 = .ok (.dup, 1) := by decide +kernel
theorem d_MOD_close_53 : decode b_MOD_close 53 = .ok (.getfield 146, 3) := by decide +kernel
theorem d_MOD_close_56 : decode b_MOD_close 56 = .ok (.iconst 1, 1) := by decide +kernel
theorem d_MOD_close_57 : decode b_MOD_close 57 = .ok (.isub, 1) := by decide +kernel
theorem d_MOD_close_58 : decode b_MOD_close 58 = .ok (.putfield 146, 3) := by decide +kernel
theorem d_MOD_close_61 : decode b_MOD_close 61 = .ok (.aload_n 0, 1) := by decide +kernel
theorem d_MOD_close_62 : decode b_MOD_close 62 = .ok (.dup, 1) := by decide +kernel
theorem d_MOD_close_63 : decode b_MOD_close 63 = .ok (.getfield 216, 3) := by decide +kernel
theorem d_MOD_close_66 : decode b_MOD_close 66 = .ok (.iconst 1, 1) := by decide +kernel
theorem d_MOD_close_67 : decode b_MOD_close 67 = .ok (.iadd, 1) := by decide +kernel
theorem d_MOD_close_68 : decode b_MOD_close 68 = .ok (.putfield 216, 3) := by decide +kernel
theorem d_MOD_close_71 : decode b_MOD_close 71 = .ok (.aload_n 0, 1) := by decide +kernel
theorem d_MOD_close_72 : decode b_MOD_close 72 = .ok (.invokevirtual 161, 3) := by decide +kernel
theorem d_MOD_close_75 : decode b_MOD_close 75 = .ok (.return_, 1) := by decide +kernel
theorem d_MOD_plain_0 : decode b_MOD_plain 0 = .ok (.aload_n 0, 1) := by decide +kernel
theorem d_MOD_plain_1 : decode b_MOD_plain 1 = .ok (.getfield 216, 3) := by decide +kernel
theorem d_MOD_plain_4 : decode b_MOD_plain 4 = .ok (.istore_n 2, 1) := by decide +kernel
theorem d_MOD_plain_5 : decode b_MOD_plain 5 = .ok (.aload_n 0, 1) := by decide +kernel
theorem d_MOD_plain_6 : decode b_MOD_plain 6 = .ok (.dup, 1) := by decide +kernel
theorem d_MOD_plain_7 : decode b_MOD_plain 7 = .ok (.getfield 216, 3) := by decide +kernel
theorem d_MOD_plain_10 : decode b_MOD_plain 10 = .ok (.iconst 1, 1) := by decide +kernel
theorem d_MOD_plain_11 : decode b_MOD_plain 11 = .ok (.iadd, 1) := by decide +kernel
theorem d_MOD_plain_12 : decode b_MOD_plain 12 = .ok (.putfield 216, 3) := by decide +kernel
theorem d_MOD_plain_15 : decode b_MOD_plain 15 = .ok (.iload_n 1, 1) := by decide +kernel
theorem d_MOD_plain_16 : decode b_MOD_plain 16 = .ok (.bipush 94, 2) := by decide +kernel
theorem d_MOD_plain_18 : decode b_MOD_plain 18 = .ok (.if_icmp .ne 25, 3) := by decide +kernel
theorem d_MOD_plain_21 : decode b_MOD_plain 21 = .ok (.aload_n 0, 1) := by decide +kernel
theorem d_MOD_plain_22 : decode b_MOD_plain 22 = .ok (.aload_n 0, 1) := by decide +kernel
theorem d_MOD_plain_23 : decode b_MOD_plain 23 = .ok (.getfield 115, 3) := by decide +kernel
theorem d_MOD_plain_26 : decode b_MOD_plain 26 = .ok (.iconst 2, 1) := by decide +kernel
theorem d_MOD_plain_27 : decode b_MOD_plain 27 = .ok (.iand, 1) := by decide +kernel
theorem d_MOD_plain_28 : decode b_MOD_plain 28 = .ok (.iconst 2, 1) := by decide +kernel
theorem d_MOD_plain_29 : decode b_MOD_plain 29 = .ok (.if_icmp .ne 7, 3) := by decide +kernel
theorem d_MOD_plain_32 : decode b_MOD_plain 32 = .ok (.iconst 2, 1) := by decide +kernel
theorem d_MOD_plain_33 : decode b_MOD_plain 33 = .ok (.goto 4, 3) := by decide +kernel
theorem d_MOD_plain_36 : decode b_MOD_plain 36 = .ok (.iconst 0, 1) := by decide +kernel
theorem d_MOD_plain_37 : decode b_MOD_plain 37 = .ok (.invokevirtual 219, 3) := by decide +kernel
theorem d_MOD_plain_40 : decode b_MOD_plain 40 = .ok (.goto 109, 3) := by decide +kernel
theorem d_MOD_plain_43 : decode b_MOD_plain 43 = .ok (.iload_n 1, 1) := by decide +kernel
theorem d_MOD_plain_44 : decode b_MOD_plain 44 = .ok (.bipush 36, 2) := by decide +kernel
theorem d_MOD_plain_46 : decode b_MOD_plain 46 = .ok (.if_icmp .ne 25, 3) := by decide +kernel
theorem d_MOD_plain_49 : decode b_MOD_plain 49 = .ok (.aload_n 0, 1) := by decide +kernel
theorem d_MOD_plain_50 : decode b_MOD_plain 50 = .ok (.aload_n 0, 1) := by decide +kernel
theorem d_MOD_plain_51 : decode b_MOD_plain 51 = .ok (.getfield 115, 3) := by decide +kernel
theorem d_MOD_plain_54 : decode b_MOD_plain 54 = .ok (.iconst 2, 1) := by decide +kernel
theorem d_MOD_plain_55 : decode b_MOD_plain 55 = .ok (.iand, 1) := by decide +kernel
theorem d_MOD_plain_56 : decode b_MOD_plain 56 = .ok (.iconst 2, 1) := by decide +kernel
theorem d_MOD_plain_57 : decode b_MOD_plain 57 = .ok (.if_icmp .ne 7, 3) := by decide +kernel
theorem d_MOD_plain_60 : decode b_MOD_plain 60 = .ok (.iconst 3, 1) := by decide +kernel
theorem d_MOD_plain_61 : decode b_MOD_plain 61 = .ok (.goto 4, 3) := by decide +kernel
theorem d_MOD_plain_64 : decode b_MOD_plain 64 = .ok (.iconst 1, 1) := by decide +kernel
theorem d_MOD_plain_65 : decode b_MOD_plain 65 = .ok (.invokevirtual 219, 3) := by decide +kernel
theorem d_MOD_plain_68 : decode b_MOD_plain 68 = .ok (.goto 81, 3) := by decide +kernel
theorem d_MOD_plain_71 : decode b_MOD_plain 71 = .ok (.iload_n 1, 1) := by decide +kernel
theorem d_MOD_plain_72 : decode b_MOD_plain 72 = .ok (.bipush 46, 2) := by decide +kernel
theorem d_MOD_plain_74 : decode b_MOD_plain 74 = .ok (.if_icmp .ne 43, 3) := by decide +kernel
theorem d_MOD_plain_77 : decode b_MOD_plain 77 = .ok (.aload_n 0, 1) := by decide +kernel
theorem d_MOD_plain_78 : decode b_MOD_plain 78 = .ok (.iconst 0, 1) := by decide +kernel
theorem d_MOD_plain_79 : decode b_MOD_plain 79 = .ok (.invokevirtual 103, 3) := by decide +kernel
theorem d_MOD_plain_82 : decode b_MOD_plain 82 = .ok (.aload_n 0, 1) := by decide +kernel
theorem d_MOD_plain_83 : decode b_MOD_plain 83 = .ok (.iconst 1, 1) := by decide +kernel
theorem d_MOD_plain_84 : decode b_MOD_plain 84 = .ok (.invokevirtual 103, 3) := by decide +kernel
theorem d_MOD_plain_87 : decode b_MOD_plain 87 = .ok (.aload_n 0, 1) := by decide +kernel
theorem d_MOD_plain_88 : decode b_MOD_plain 88 = .ok (.getfield 115, 3) := by decide +kernel
theorem d_MOD_plain_91 : decode b_MOD_plain 91 = .ok (.iconst 4, 1) := by decide +kernel
theorem d_MOD_plain_92 : decode b_MOD_plain 92 = .ok (.iand, 1) := by decide +kernel
theorem d_MOD_plain_93 : decode b_MOD_plain 93 = .ok (.ifCond .ne 12, 3) := by decide +kernel
theorem d_MOD_plain_96 : decode b_MOD_plain 96 = .ok (.aload_n 0, 1) := by decide +kernel
theorem d_MOD_plain_97 : decode b_MOD_plain 97 = .ok (.iconst 1, 1) := by decide +kernel
theorem d_MOD_plain_98 : decode b_MOD_plain 98 = .ok (.bipush 10, 2) := by decide +kernel
theorem d_MOD_plain_100 : decode b_MOD_plain 100 = .ok (.bipush 10, 2) := by decide +kernel
theorem d_MOD_plain_102 : decode b_MOD_plain 102 = .ok (.invokevirtual 98, 3) := by decide +kernel
theorem d_MOD_plain_105 : decode b_MOD_plain 105 = .ok (.aload_n 0, 1) := by decide +kernel
theorem d_MOD_plain_106 : decode b_MOD_plain 106 = .ok (.iconst 1, 1) := by decide +kernel
theorem d_MOD_plain_107 : decode b_MOD_plain 107 = .ok (.invokevirtual 107, 3) := by decide +kernel
theorem d_MOD_plain_110 : decode b_MOD_plain 110 = .ok (.aload_n 0, 1) := by decide +kernel
theorem d_MOD_plain_111 : decode b_MOD_plain 111 = .ok (.invokevirtual 167, 3) := by decide +kernel
theorem d_MOD_plain_114 : decode b_MOD_plain 114 = .ok (.goto 35, 3) := by decide +kernel
theorem d_MOD_plain_117 : decode b_MOD_plain 117 = .ok (.aload_n 0, 1) := by decide +kernel
theorem d_MOD_plain_118 : decode b_MOD_plain 118 = .ok (.iload_n 2, 1) := by decide +kernel
theorem d_MOD_plain_119 : decode b_MOD_plain 119 = .ok (.invokevirtual 255, 3) := by decide +kernel
theorem d_MOD_plain_122 : decode b_MOD_plain 122 = .ok (.istore_n 3, 1) := by decide +kernel
theorem d_MOD_plain_123 : decode b_MOD_plain 123 = .ok (.aload_n 0, 1) := by decide +kernel
theorem d_MOD_plain_124 : decode b_MOD_plain 124 = .ok (.aload_n 0, 1) := by decide +kernel
theorem d_MOD_plain_125 : decode b_MOD_plain 125 = .ok (.getfield 187, 3) := by decide +kernel
theorem d_MOD_plain_128 : decode b_MOD_plain 128 = .ok (.putfield 216, 3) := by decide +kernel
theorem d_MOD_plain_131 : decode b_MOD_plain 131 = .ok (.iload_n 3, 1) := by decide +kernel
theorem d_MOD_plain_132 : decode b_MOD_plain 132 = .ok (.ifCond .ge 12, 3) := by decide +kernel
theorem d_MOD_plain_135 : decode b_MOD_plain 135 = .ok (.aload_n 0, 1) := by decide +kernel
theorem d_MOD_plain_136 : decode b_MOD_plain 136 = .ok (.iconst 1, 1) := by decide +kernel
theorem d_MOD_plain_137 : decode b_MOD_plain 137 = .ok (.iload_n 2, 1) := by decide +kernel
theorem d_MOD_plain_138 : decode b_MOD_plain 138 = .ok (.invokevirtual 228, 3) := by decide +kernel
theorem d_MOD_plain_141 : decode b_MOD_plain 141 = .ok (.goto 8, 3) := by decide +kernel
theorem d_MOD_plain_144 : decode b_MOD_plain 144 = .ok (.aload_n 0, 1) := by decide +kernel
theorem d_MOD_plain_145 : decode b_MOD_plain 145 = .ok (.iload_n 3, 1) := by decide +kernel
theorem d_MOD_plain_146 : decode b_MOD_plain 146 = .ok (.invokevirtual 234, 3) := by decide +kernel
theorem d_MOD_plain_149 : decode b_MOD_plain 149 = .ok (.return_, 1) := by decide +kernel
theorem d_MOD_step_0 : decode b_MOD_step 0 = .ok (.aload_n 0, 1) := by decide +kernel
theorem d_MOD_step_1 : decode b_MOD_step 1 = .ok (.aload_n 0, 1) := by decide +kernel
theorem d_MOD_step_2 : decode b_MOD_step 2 = .ok (.getfield 216, 3) := by decide +kernel
theorem d_MOD_step_5 : decode b_MOD_step 5 = .ok (.invokevirtual 183, 3) := by decide +kernel
theorem d_MOD_step_8 : decode b_MOD_step 8 = .ok (.istore_n 1, 1) := by decide +kernel
theorem d_MOD_step_9 : decode b_MOD_step 9 = .ok (.iload_n 1, 1) := by decide +kernel
theorem d_MOD_step_10 : decode b_MOD_step 10 = .ok (.bipush 40, 2) := by decide +kernel
theorem d_MOD_step_12 : decode b_MOD_step 12 = .ok (.if_icmp .ne 10, 3) := by decide +kernel
theorem d_MOD_step_15 : decode b_MOD_step 15 = .ok (.aload_n 0, 1) := by decide +kernel
theorem d_MOD_step_16 : decode b_MOD_step 16 = .ok (.invokevirtual 286, 3) := by decide +kernel
theorem d_MOD_step_19 : decode b_MOD_step 19 = .ok (.goto 113, 3) := by decide +kernel
theorem d_MOD_step_22 : decode b_MOD_step 22 = .ok (.iload_n 1, 1) := by decide +kernel
theorem d_MOD_step_23 : decode b_MOD_step 23 = .ok (.bipush 41, 2) := by decide +kernel
theorem d_MOD_step_25 : decode b_MOD_step 25 = .ok (.if_icmp .ne 10, 3) := by decide +kernel
theorem d_MOD_step_28 : decode b_MOD_step 28 = .ok (.aload_n 0, 1) := by decide +kernel
theorem d_MOD_step_29 : decode b_MOD_step 29 = .ok (.invokevirtual 289, 3) := by decide +kernel
theorem d_MOD_step_32 : decode b_MOD_step 32 = .ok (.goto 100, 3) := by decide +kernel
theorem d_MOD_step_35 : decode b_MOD_step 35 = .ok (.iload_n 1, 1) := by decide +kernel
theorem d_MOD_step_36 : decode b_MOD_step 36 = .ok (.bipush 91, 2) := by decide +kernel
theorem d_MOD_step_38 : decode b_MOD_step 38 = .ok (.if_icmp .ne 10, 3) := by decide +kernel
theorem d_MOD_step_41 : decode b_MOD_step 41 = .ok (.aload_n 0, 1) := by decide +kernel
theorem d_MOD_step_42 : decode b_MOD_step 42 = .ok (.invokevirtual 292, 3) := by decide +kernel
theorem d_MOD_step_45 : decode b_MOD_step 45 = .ok (.goto 87, 3) := by decide +kernel
theorem d_MOD_step_48 : decode b_MOD_step 48 = .ok (.iload_n 1, 1) := by decide +kernel
theorem d_MOD_step_49 : decode b_MOD_step 49 = .ok (.bipush 92, 2) := by decide +kernel
theorem d_MOD_step_51 : decode b_MOD_step 51 = .ok (.if_icmp .ne 10, 3) := by decide +kernel
theorem d_MOD_step_54 : decode b_MOD_step 54 = .ok (.aload_n 0, 1) := by decide +kernel
theorem d_MOD_step_55 : decode b_MOD_step 55 = .ok (.invokevirtual 295, 3) := by decide +kernel
theorem d_MOD_step_58 : decode b_MOD_step 58 = .ok (.goto 74, 3) := by decide +kernel
theorem d_MOD_step_61 : decode b_MOD_step 61 = .ok (.iload_n 1, 1) := by decide +kernel
theorem d_MOD_step_62 : decode b_MOD_step 62 = .ok (.bipush 42, 2) := by decide +kernel
theorem d_MOD_step_64 : decode b_MOD_step 64 = .ok (.if_icmp .eq 32, 3) := by decide +kernel
theorem d_MOD_step_67 : decode b_MOD_step 67 = .ok (.iload_n 1, 1) := by decide +kernel
theorem d_MOD_step_68 : decode b_MOD_step 68 = .ok (.bipush 43, 2) := by decide +kernel
theorem d_MOD_step_70 : decode b_MOD_step 70 = .ok (.if_icmp .eq 26, 3) := by decide +kernel
theorem d_MOD_step_73 : decode b_MOD_step 73 = .ok (.iload_n 1, 1) := by decide +kernel
theorem d_MOD_step_74 : decode b_MOD_step 74 = .ok (.bipush 63, 2) := by decide +kernel
theorem d_MOD_step_76 : decode b_MOD_step 76 = .ok (.if_icmp .eq 20, 3) := by decide +kernel
theorem d_MOD_step_79 : decode b_MOD_step 79 = .ok (.iload_n 1, 1) := by decide +kernel
theorem d_MOD_step_80 : decode b_MOD_step 80 = .ok (.bipush 123, 2) := by decide +kernel
theorem d_MOD_step_82 : decode b_MOD_step 82 = .ok (.if_icmp .ne 22, 3) := by decide +kernel
theorem d_MOD_step_85 : decode b_MOD_step 85 = .ok (.aload_n 0, 1) := by decide +kernel
theorem d_MOD_step_86 : decode b_MOD_step 86 = .ok (.aload_n 0, 1) := by decide +kernel
theorem d_MOD_step_87 : decode b_MOD_step 87 = .ok (.getfield 216, 3) := by decide +kernel
theorem d_MOD_step_90 : decode b_MOD_step 90 = .ok (.invokevirtual 298, 3) := by decide +kernel
theorem d_MOD_step_93 : decode b_MOD_step 93 = .ok (.ifCond .eq 11, 3) := by decide +kernel
theorem d_MOD_step_96 : decode b_MOD_step 96 = .ok (.aload_n 0, 1) := by decide +kernel
theorem d_MOD_step_97 : decode b_MOD_step 97 = .ok (.iload_n 1, 1) := by decide +kernel
theorem d_MOD_step_98 : decode b_MOD_step 98 = .ok (.invokevirtual 301, 3) := by decide +kernel
theorem d_MOD_step_101 : decode b_MOD_step 101 = .ok (.goto 31, 3) := by decide +kernel
theorem d_MOD_step_104 : decode b_MOD_step 104 = .ok (.iload_n 1, 1) := by decide +kernel
theorem d_MOD_step_105 : decode b_MOD_step 105 = .ok (.bipush 124, 2) := by decide +kernel
theorem d_MOD_step_107 : decode b_MOD_step 107 = .ok (.if_icmp .ne 20, 3) := by decide +kernel
theorem d_MOD_step_110 : decode b_MOD_step 110 = .ok (.aload_n 0, 1) := by decide +kernel
theorem d_MOD_step_111 : decode b_MOD_step 111 = .ok (.invokevirtual 170, 3) := by decide +kernel
theorem d_MOD_step_114 : decode b_MOD_step 114 = .ok (.aload_n 0, 1) := by decide +kernel
theorem d_MOD_step_115 : decode b_MOD_step 115 = .ok (.dup, 1) := by decide +kernel
theorem d_MOD_step_116 : decode b_MOD_step 116 = .ok (.getfield 216, 3) := by decide +kernel
theorem d_MOD_step_119 : decode b_MOD_step 119 = .ok (.iconst 1, 1) := by decide +kernel
theorem d_MOD_step_120 : decode b_MOD_step 120 = .ok (.iadd, 1) := by decide +kernel
theorem d_MOD_step_121 : decode b_MOD_step 121 = .ok (.putfield 216, 3) := by decide +kernel
theorem d_MOD_step_124 : decode b_MOD_step 124 = .ok (.goto 8, 3) := by decide +kernel
theorem d_MOD_step_127 : decode b_MOD_step 127 = .ok (.aload_n 0, 1) := by decide +kernel
theorem d_MOD_step_128 : decode b_MOD_step 128 = .ok (.iload_n 1, 1) := by decide +kernel
theorem d_MOD_step_129 : decode b_MOD_step 129 = .ok (.invokevirtual 304, 3) := by decide +kernel
theorem d_MOD_step_132 : decode b_MOD_step 132 = .ok (.return_, 1) := by decide +kernel
theorem d_MOD_read_0 : decode b_MOD_read 0 = .ok (.aload_n 0, 1) := by decide +kernel
theorem d_MOD_read_1 : decode b_MOD_read 1 = .ok (.iload_n 1, 1) := by decide +kernel
theorem d_MOD_read_2 : decode b_MOD_read 2 = .ok (.ifCond .lt 9, 3) := by decide +kernel
theorem d_MOD_read_5 : decode b_MOD_read 5 = .ok (.iload_n 1, 1) := by decide +kernel
theorem d_MOD_read_6 : decode b_MOD_read 6 = .ok (.bipush 15, 2) := by decide +kernel
theorem d_MOD_read_8 : decode b_MOD_read 8 = .ok (.if_icmp .le 7, 3) := by decide +kernel
theorem d_MOD_read_11 : decode b_MOD_read 11 = .ok (.iconst 1, 1) := by decide +kernel
theorem d_MOD_read_12 : decode b_MOD_read 12 = .ok (.goto 4, 3) := by decide +kernel
theorem d_MOD_read_15 : decode b_MOD_read 15 = .ok (.iconst 0, 1) := by decide +kernel
theorem d_MOD_read_16 : decode b_MOD_read 16 = .ok (.putfield 92, 3) := by decide +kernel
theorem d_MOD_read_19 : decode b_MOD_read 19 = .ok (.aload_n 0, 1) := by decide +kernel
theorem d_MOD_read_20 : decode b_MOD_read 20 = .ok (.getfield 92, 3) := by decide +kernel
theorem d_MOD_read_23 : decode b_MOD_read 23 = .ok (.ifCond .le 5, 3) := by decide +kernel
theorem d_MOD_read_26 : decode b_MOD_read 26 = .ok (.iconst 0, 1) := by decide +kernel
theorem d_MOD_read_27 : decode b_MOD_read 27 = .ok (.ireturn, 1) := by decide +kernel
theorem d_MOD_read_28 : decode b_MOD_read 28 = .ok (.aload_n 0, 1) := by decide +kernel
theorem d_MOD_read_29 : decode b_MOD_read 29 = .ok (.aload_n 0, 1) := by decide +kernel
theorem d_MOD_read_30 : decode b_MOD_read 30 = .ok (.getfield 95, 3) := by decide +kernel
theorem d_MOD_read_33 : decode b_MOD_read 33 = .ok (.putfield 176, 3) := by decide +kernel
theorem d_MOD_read_36 : decode b_MOD_read 36 = .ok (.iconst 0, 1) := by decide +kernel
theorem d_MOD_read_37 : decode b_MOD_read 37 = .ok (.istore_n 2, 1) := by decide +kernel
theorem d_MOD_read_38 : decode b_MOD_read 38 = .ok (.iload_n 2, 1) := by decide +kernel
theorem d_MOD_read_39 : decode b_MOD_read 39 = .ok (.aload_n 0, 1) := by decide +kernel
theorem d_MOD_read_40 : decode b_MOD_read 40 = .ok (.getfield 176, 3) := by decide +kernel
theorem d_MOD_read_43 : decode b_MOD_read 43 = .ok (.if_icmp .ge 21, 3) := by decide +kernel
theorem d_MOD_read_46 : decode b_MOD_read 46 = .ok (.aload_n 0, 1) := by decide +kernel
theorem d_MOD_read_47 : decode b_MOD_read 47 = .ok (.getfield 13, 3) := by decide +kernel
theorem d_MOD_read_50 : decode b_MOD_read 50 = .ok (.iload_n 2, 1) := by decide +kernel
theorem d_MOD_read_51 : decode b_MOD_read 51 = .ok (.aload_n 0, 1) := by decide +kernel
theorem d_MOD_read_52 : decode b_MOD_read 52 = .ok (.getfield 7, 3) := by decide +kernel
theorem d_MOD_read_55 : decode b_MOD_read 55 = .ok (.iload_n 2, 1) := by decide +kernel
theorem d_MOD_read_56 : decode b_MOD_read 56 = .ok (.iaload, 1) := by decide +kernel
theorem d_MOD_read_57 : decode b_MOD_read 57 = .ok (.iastore, 1) := by decide +kernel
theorem d_MOD_read_58 : decode b_MOD_read 58 = .ok (.iinc 2 1, 3) := by decide +kernel
theorem d_MOD_read_61 : decode b_MOD_read 61 = .ok (.goto (-23), 3) := by decide +kernel
theorem d_MOD_read_64 : decode b_MOD_read 64 = .ok (.aload_n 0, 1) := by decide +kernel
theorem d_MOD_read_65 : decode b_MOD_read 65 = .ok (.iconst 0, 1) := by decide +kernel
theorem d_MOD_read_66 : decode b_MOD_read 66 = .ok (.putfield 95, 3) := by decide +kernel
theorem d_MOD_read_69 : decode b_MOD_read 69 = .ok (.aload_n 0, 1) := by decide +kernel
theorem d_MOD_read_70 : decode b_MOD_read 70 = .ok (.iconst 0, 1) := by decide +kernel
theorem d_MOD_read_71 : decode b_MOD_read 71 = .ok (.putfield 216, 3) := by decide +kernel
theorem d_MOD_read_74 : decode b_MOD_read 74 = .ok (.aload_n 0, 1) := by decide +kernel
theorem d_MOD_read_75 : decode b_MOD_read 75 = .ok (.iconst 0, 1) := by decide +kernel
theorem d_MOD_read_76 : decode b_MOD_read 76 = .ok (.putfield 173, 3) := by decide +kernel
theorem d_MOD_read_79 : decode b_MOD_read 79 = .ok (.aload_n 0, 1) := by decide +kernel
theorem d_MOD_read_80 : decode b_MOD_read 80 = .ok (.iconst (-1), 1) := by decide +kernel
theorem d_MOD_read_81 : decode b_MOD_read 81 = .ok (.putfield 16, 3) := by decide +kernel
theorem d_MOD_read_84 : decode b_MOD_read 84 = .ok (.aload_n 0, 1) := by decide +kernel
theorem d_MOD_read_85 : decode b_MOD_read 85 = .ok (.iconst 0, 1) := by decide +kernel
theorem d_MOD_read_86 : decode b_MOD_read 86 = .ok (.putfield 135, 3) := by decide +kernel
theorem d_MOD_read_89 : decode b_MOD_read 89 = .ok (.aload_n 0, 1) := by decide +kernel
theorem d_MOD_read_90 : decode b_MOD_read 90 = .ok (.iconst 0, 1) := by decide +kernel
theorem d_MOD_read_91 : decode b_MOD_read 91 = .ok (.putfield 121, 3) := by decide +kernel
theorem d_MOD_read_94 : decode b_MOD_read 94 = .ok (.aload_n 0, 1) := by decide +kernel
theorem d_MOD_read_95 : decode b_MOD_read 95 = .ok (.iconst 0, 1) := by decide +kernel
theorem d_MOD_read_96 : decode b_MOD_read 96 = .ok (.putfield 274, 3) := by decide +kernel
theorem d_MOD_read_99 : decode b_MOD_read 99 = .ok (.iconst 0, 1) := by decide +kernel
theorem d_MOD_read_100 : decode b_MOD_read 100 = .ok (.istore_n 2, 1) := by decide +kernel
theorem d_MOD_read_101 : decode b_MOD_read 101 = .ok (.iload_n 2, 1) := by decide +kernel
theorem d_MOD_read_102 : decode b_MOD_read 102 = .ok (.bipush 11, 2) := by decide +kernel
theorem d_MOD_read_104 : decode b_MOD_read 104 = .ok (.if_icmp .ge 16, 3) := by decide +kernel
theorem d_MOD_read_107 : decode b_MOD_read 107 = .ok (.aload_n 0, 1) := by decide +kernel
theorem d_MOD_read_108 : decode b_MOD_read 108 = .ok (.getfield 53, 3) := by decide +kernel
theorem d_MOD_read_111 : decode b_MOD_read 111 = .ok (.iload_n 2, 1) := by decide +kernel
theorem d_MOD_read_112 : decode b_MOD_read 112 = .ok (.iconst 0, 1) := by decide +kernel
theorem d_MOD_read_113 : decode b_MOD_read 113 = .ok (.iastore, 1) := by decide +kernel
theorem d_MOD_read_114 : decode b_MOD_read 114 = .ok (.iinc 2 1, 3) := by decide +kernel
theorem d_MOD_read_117 : decode b_MOD_read 117 = .ok (.goto (-16), 3) := by decide +kernel
theorem d_MOD_read_120 : decode b_MOD_read 120 = .ok (.aload_n 0, 1) := by decide +kernel
theorem d_MOD_read_121 : decode b_MOD_read 121 = .ok (.iconst 0, 1) := by decide +kernel
theorem d_MOD_read_122 : decode b_MOD_read 122 = .ok (.putfield 146, 3) := by decide +kernel
theorem d_MOD_read_125 : decode b_MOD_read 125 = .ok (.aload_n 0, 1) := by decide +kernel
theorem d_MOD_read_126 : decode b_MOD_read 126 = .ok (.getfield 65, 3) := by decide +kernel
theorem d_MOD_read_129 : decode b_MOD_read 129 = .ok (.iconst 0, 1) := by decide +kernel
theorem d_MOD_read_130 : decode b_MOD_read 130 = .ok (.iconst 0, 1) := by decide +kernel
theorem d_MOD_read_131 : decode b_MOD_read 131 = .ok (.iastore, 1) := by decide +kernel
theorem d_MOD_read_132 : decode b_MOD_read 132 = .ok (.aload_n 0, 1) := by decide +kernel
theorem d_MOD_read_133 : decode b_MOD_read 133 = .ok (.getfield 68, 3) := by decide +kernel
theorem d_MOD_read_136 : decode b_MOD_read 136 = .ok (.iconst 0, 1) := by decide +kernel
theorem d_MOD_read_137 : decode b_MOD_read 137 = .ok (.iconst 0, 1) := by decide +kernel
theorem d_MOD_read_138 : decode b_MOD_read 138 = .ok (.iastore, 1) := by decide +kernel
theorem d_MOD_read_139 : decode b_MOD_read 139 = .ok (.aload_n 0, 1) := by decide +kernel
theorem d_MOD_read_140 : decode b_MOD_read 140 = .ok (.iload_n 1, 1) := by decide +kernel
theorem d_MOD_read_141 : decode b_MOD_read 141 = .ok (.putfield 115, 3) := by decide +kernel
theorem d_MOD_read_144 : decode b_MOD_read 144 = .ok (.aload_n 0, 1) := by decide +kernel
theorem d_MOD_read_145 : decode b_MOD_read 145 = .ok (.iconst 0, 1) := by decide +kernel
theorem d_MOD_read_146 : decode b_MOD_read 146 = .ok (.putfield 149, 3) := by decide +kernel
theorem d_MOD_read_149 : decode b_MOD_read 149 = .ok (.aload_n 0, 1) := by decide +kernel
theorem d_MOD_read_150 : decode b_MOD_read 150 = .ok (.getfield 216, 3) := by decide +kernel
theorem d_MOD_read_153 : decode b_MOD_read 153 = .ok (.aload_n 0, 1) := by decide +kernel
theorem d_MOD_read_154 : decode b_MOD_read 154 = .ok (.getfield 176, 3) := by decide +kernel
theorem d_MOD_read_157 : decode b_MOD_read 157 = .ok (.if_icmp .ge 17, 3) := by decide +kernel
theorem d_MOD_read_160 : decode b_MOD_read 160 = .ok (.aload_n 0, 1) := by decide +kernel
theorem d_MOD_read_161 : decode b_MOD_read 161 = .ok (.getfield 173, 3) := by decide +kernel
theorem d_MOD_read_164 : decode b_MOD_read 164 = .ok (.ifCond .ne 10, 3) := by decide +kernel
theorem d_MOD_read_167 : decode b_MOD_read 167 = .ok (.aload_n 0, 1) := by decide +kernel
theorem d_MOD_read_168 : decode b_MOD_read 168 = .ok (.invokevirtual 307, 3) := by decide +kernel
theorem d_MOD_read_171 : decode b_MOD_read 171 = .ok (.goto (-22), 3) := by decide +kernel
theorem d_MOD_read_174 : decode b_MOD_read 174 = .ok (.aload_n 0, 1) := by decide +kernel
theorem d_MOD_read_175 : decode b_MOD_read 175 = .ok (.getfield 173, 3) := by decide +kernel
theorem d_MOD_read_178 : decode b_MOD_read 178 = .ok (.ifCond .ne 24, 3) := by decide +kernel
theorem d_MOD_read_181 : decode b_MOD_read 181 = .ok (.aload_n 0, 1) := by decide +kernel
theorem d_MOD_read_182 : decode b_MOD_read 182 = .ok (.getfield 146, 3) := by decide +kernel
theorem d_MOD_read_185 : decode b_MOD_read 185 = .ok (.ifCond .le 17, 3) := by decide +kernel
theorem d_MOD_read_188 : decode b_MOD_read 188 = .ok (.aload_n 0, 1) := by decide +kernel
theorem d_MOD_read_189 : decode b_MOD_read 189 = .ok (.iconst 2, 1) := by decide +kernel
theorem d_MOD_read_190 : decode b_MOD_read 190 = .ok (.aload_n 0, 1) := by decide +kernel
theorem d_MOD_read_191 : decode b_MOD_read 191 = .ok (.getfield 56, 3) := by decide +kernel
theorem d_MOD_read_194 : decode b_MOD_read 194 = .ok (.aload_n 0, 1) := by decide +kernel
theorem d_MOD_read_195 : decode b_MOD_read 195 = .ok (.getfield 146, 3) := by decide +kernel
theorem d_MOD_read_198 : decode b_MOD_read 198 = .ok (.iaload, 1) := by decide +kernel
theorem d_MOD_read_199 : decode b_MOD_read 199 = .ok (.invokevirtual 228, 3) := by decide +kernel
theorem d_MOD_read_202 : decode b_MOD_read 202 = .ok (.aload_n 0, 1) := by decide +kernel
theorem d_MOD_read_203 : decode b_MOD_read 203 = .ok (.getfield 173, 3) := by decide +kernel
theorem d_MOD_read_206 : decode b_MOD_read 206 = .ok (.ifCond .ne 12, 3) := by decide +kernel
theorem d_MOD_read_209 : decode b_MOD_read 209 = .ok (.aload_n 0, 1) := by decide +kernel
theorem d_MOD_read_210 : decode b_MOD_read 210 = .ok (.invokevirtual 283, 3) := by decide +kernel
theorem d_MOD_read_213 : decode b_MOD_read 213 = .ok (.aload_n 0, 1) := by decide +kernel
theorem d_MOD_read_214 : decode b_MOD_read 214 = .ok (.getfield 274, 3) := by decide +kernel
theorem d_MOD_read_217 : decode b_MOD_read 217 = .ok (.ireturn, 1) := by decide +kernel
theorem d_MOD_read_218 : decode b_MOD_read 218 = .ok (.aload_n 0, 1) := by decide +kernel
theorem d_MOD_read_219 : decode b_MOD_read 219 = .ok (.iconst 0, 1) := by decide +kernel
theorem d_MOD_read_220 : decode b_MOD_read 220 = .ok (.putfield 135, 3) := by decide +kernel
theorem d_MOD_read_223 : decode b_MOD_read 223 = .ok (.aload_n 0, 1) := by decide +kernel
theorem d_MOD_read_224 : decode b_MOD_read 224 = .ok (.iconst 0, 1) := by decide +kernel
theorem d_MOD_read_225 : decode b_MOD_read 225 = .ok (.putfield 274, 3) := by decide +kernel
theorem d_MOD_read_228 : decode b_MOD_read 228 = .ok (.aload_n 0, 1) := by decide +kernel
theorem d_MOD_read_229 : decode b_MOD_read 229 = .ok (.iconst 1, 1) := by decide +kernel
theorem d_MOD_read_230 : decode b_MOD_read 230 = .ok (.putfield 92, 3) := by decide +kernel
theorem d_MOD_read_233 : decode b_MOD_read 233 = .ok (.iconst 0, 1) := by decide +kernel
theorem d_MOD_read_234 : decode b_MOD_read 234 = .ok (.ireturn, 1) := by decide +kernel
theorem d_MOD_fault_0 : decode b_MOD_fault 0 = .ok (.aload_n 0, 1) := by decide +kernel
theorem d_MOD_fault_1 : decode b_MOD_fault 1 = .ok (.iconst 0, 1) := by decide +kernel
theorem d_MOD_fault_2 : decode b_MOD_fault 2 = .ok (.putfield 92, 3) := by decide +kernel
theorem d_MOD_fault_5 : decode b_MOD_fault 5 = .ok (.iload_n 1, 1) := by decide +kernel
theorem d_MOD_fault_6 : decode b_MOD_fault 6 = .ok (.ifCond .ne 10, 3) := by decide +kernel
theorem d_MOD_fault_9 : decode b_MOD_fault 9 = .ok (.aload_n 0, 1) := by decide +kernel
theorem d_MOD_fault_10 : decode b_MOD_fault 10 = .ok (.getfield 173, 3) := by decide +kernel
theorem d_MOD_fault_13 : decode b_MOD_fault 13 = .ok (.goto 16, 3) := by decide +kernel
theorem d_MOD_fault_16 : decode b_MOD_fault 16 = .ok (.iload_n 1, 1) := by decide +kernel
theorem d_MOD_fault_17 : decode b_MOD_fault 17 = .ok (.iconst 1, 1) := by decide +kernel
theorem d_MOD_fault_18 : decode b_MOD_fault 18 = .ok (.if_icmp .ne 10, 3) := by decide +kernel
theorem d_MOD_fault_21 : decode b_MOD_fault 21 = .ok (.aload_n 0, 1) := by decide +kernel
theorem d_MOD_fault_22 : decode b_MOD_fault 22 = .ok (.getfield 16, 3) := by decide +kernel
theorem d_MOD_fault_25 : decode b_MOD_fault 25 = .ok (.goto 4, 3) := by decide +kernel
theorem d_MOD_fault_28 : decode b_MOD_fault 28 = .ok (.iconst (-1), 1) := by decide +kernel
theorem d_MOD_fault_29 : decode b_MOD_fault 29 = .ok (.ireturn, 1) := by decide +kernel
theorem d_MOD_count_0 : decode b_MOD_count 0 = .ok (.aload_n 0, 1) := by decide +kernel
theorem d_MOD_count_1 : decode b_MOD_count 1 = .ok (.iconst 0, 1) := by decide +kernel
theorem d_MOD_count_2 : decode b_MOD_count 2 = .ok (.putfield 92, 3) := by decide +kernel
theorem d_MOD_count_5 : decode b_MOD_count 5 = .ok (.iload_n 1, 1) := by decide +kernel
theorem d_MOD_count_6 : decode b_MOD_count 6 = .ok (.ifCond .ne 10, 3) := by decide +kernel
theorem d_MOD_count_9 : decode b_MOD_count 9 = .ok (.aload_n 0, 1) := by decide +kernel
theorem d_MOD_count_10 : decode b_MOD_count 10 = .ok (.getfield 135, 3) := by decide +kernel
theorem d_MOD_count_13 : decode b_MOD_count 13 = .ok (.goto 28, 3) := by decide +kernel
theorem d_MOD_count_16 : decode b_MOD_count 16 = .ok (.iload_n 1, 1) := by decide +kernel
theorem d_MOD_count_17 : decode b_MOD_count 17 = .ok (.iconst 1, 1) := by decide +kernel
theorem d_MOD_count_18 : decode b_MOD_count 18 = .ok (.if_icmp .ne 10, 3) := by decide +kernel
theorem d_MOD_count_21 : decode b_MOD_count 21 = .ok (.aload_n 0, 1) := by decide +kernel
theorem d_MOD_count_22 : decode b_MOD_count 22 = .ok (.getfield 274, 3) := by decide +kernel
theorem d_MOD_count_25 : decode b_MOD_count 25 = .ok (.goto 16, 3) := by decide +kernel
theorem d_MOD_count_28 : decode b_MOD_count 28 = .ok (.iload_n 1, 1) := by decide +kernel
theorem d_MOD_count_29 : decode b_MOD_count 29 = .ok (.iconst 2, 1) := by decide +kernel
theorem d_MOD_count_30 : decode b_MOD_count 30 = .ok (.if_icmp .ne 10, 3) := by decide +kernel
theorem d_MOD_count_33 : decode b_MOD_count 33 = .ok (.aload_n 0, 1) := by decide +kernel
theorem d_MOD_count_34 : decode b_MOD_count 34 = .ok (.getfield 95, 3) := by decide +kernel
theorem d_MOD_count_37 : decode b_MOD_count 37 = .ok (.goto 4, 3) := by decide +kernel
theorem d_MOD_count_40 : decode b_MOD_count 40 = .ok (.iconst (-1), 1) := by decide +kernel
theorem d_MOD_count_41 : decode b_MOD_count 41 = .ok (.ireturn, 1) := by decide +kernel
theorem d_MOD_node_0 : decode b_MOD_node 0 = .ok (.aload_n 0, 1) := by decide +kernel
theorem d_MOD_node_1 : decode b_MOD_node 1 = .ok (.iconst 0, 1) := by decide +kernel
theorem d_MOD_node_2 : decode b_MOD_node 2 = .ok (.putfield 92, 3) := by decide +kernel
theorem d_MOD_node_5 : decode b_MOD_node 5 = .ok (.iload_n 1, 1) := by decide +kernel
theorem d_MOD_node_6 : decode b_MOD_node 6 = .ok (.ifCond .lt 11, 3) := by decide +kernel
theorem d_MOD_node_9 : decode b_MOD_node 9 = .ok (.iload_n 1, 1) := by decide +kernel
theorem d_MOD_node_10 : decode b_MOD_node 10 = .ok (.aload_n 0, 1) := by decide +kernel
theorem d_MOD_node_11 : decode b_MOD_node 11 = .ok (.getfield 135, 3) := by decide +kernel
theorem d_MOD_node_14 : decode b_MOD_node 14 = .ok (.if_icmp .lt 5, 3) := by decide +kernel
theorem d_MOD_node_17 : decode b_MOD_node 17 = .ok (.iconst (-1), 1) := by decide +kernel
theorem d_MOD_node_18 : decode b_MOD_node 18 = .ok (.ireturn, 1) := by decide +kernel
theorem d_MOD_node_19 : decode b_MOD_node 19 = .ok (.iload_n 2, 1) := by decide +kernel
theorem d_MOD_node_20 : decode b_MOD_node 20 = .ok (.tableswitch 82 0 5 #[40, 47, 54, 61, 68, 75], 40) := by decide +kernel
theorem d_MOD_node_60 : decode b_MOD_node 60 = .ok (.aload_n 0, 1) := by decide +kernel
theorem d_MOD_node_61 : decode b_MOD_node 61 = .ok (.getfield 20, 3) := by decide +kernel
theorem d_MOD_node_64 : decode b_MOD_node 64 = .ok (.iload_n 1, 1) := by decide +kernel
theorem d_MOD_node_65 : decode b_MOD_node 65 = .ok (.iaload, 1) := by decide +kernel
theorem d_MOD_node_66 : decode b_MOD_node 66 = .ok (.ireturn, 1) := by decide +kernel
theorem d_MOD_node_67 : decode b_MOD_node 67 = .ok (.aload_n 0, 1) := by decide +kernel
theorem d_MOD_node_68 : decode b_MOD_node 68 = .ok (.getfield 23, 3) := by decide +kernel
theorem d_MOD_node_71 : decode b_MOD_node 71 = .ok (.iload_n 1, 1) := by decide +kernel
theorem d_MOD_node_72 : decode b_MOD_node 72 = .ok (.iaload, 1) := by decide +kernel
theorem d_MOD_node_73 : decode b_MOD_node 73 = .ok (.ireturn, 1) := by decide +kernel
theorem d_MOD_node_74 : decode b_MOD_node 74 = .ok (.aload_n 0, 1) := by decide +kernel
theorem d_MOD_node_75 : decode b_MOD_node 75 = .ok (.getfield 26, 3) := by decide +kernel
theorem d_MOD_node_78 : decode b_MOD_node 78 = .ok (.iload_n 1, 1) := by decide +kernel
theorem d_MOD_node_79 : decode b_MOD_node 79 = .ok (.iaload, 1) := by decide +kernel
theorem d_MOD_node_80 : decode b_MOD_node 80 = .ok (.ireturn, 1) := by decide +kernel
theorem d_MOD_node_81 : decode b_MOD_node 81 = .ok (.aload_n 0, 1) := by decide +kernel
theorem d_MOD_node_82 : decode b_MOD_node 82 = .ok (.getfield 35, 3) := by decide +kernel
theorem d_MOD_node_85 : decode b_MOD_node 85 = .ok (.iload_n 1, 1) := by decide +kernel
theorem d_MOD_node_86 : decode b_MOD_node 86 = .ok (.iaload, 1) := by decide +kernel
theorem d_MOD_node_87 : decode b_MOD_node 87 = .ok (.ireturn, 1) := by decide +kernel
theorem d_MOD_node_88 : decode b_MOD_node 88 = .ok (.aload_n 0, 1) := by decide +kernel
theorem d_MOD_node_89 : decode b_MOD_node 89 = .ok (.getfield 32, 3) := by decide +kernel
theorem d_MOD_node_92 : decode b_MOD_node 92 = .ok (.iload_n 1, 1) := by decide +kernel
theorem d_MOD_node_93 : decode b_MOD_node 93 = .ok (.iaload, 1) := by decide +kernel
theorem d_MOD_node_94 : decode b_MOD_node 94 = .ok (.ireturn, 1) := by decide +kernel
theorem d_MOD_node_95 : decode b_MOD_node 95 = .ok (.aload_n 0, 1) := by decide +kernel
theorem d_MOD_node_96 : decode b_MOD_node 96 = .ok (.getfield 41, 3) := by decide +kernel
theorem d_MOD_node_99 : decode b_MOD_node 99 = .ok (.iload_n 1, 1) := by decide +kernel
theorem d_MOD_node_100 : decode b_MOD_node 100 = .ok (.iaload, 1) := by decide +kernel
theorem d_MOD_node_101 : decode b_MOD_node 101 = .ok (.ireturn, 1) := by decide +kernel
theorem d_MOD_node_102 : decode b_MOD_node 102 = .ok (.iconst (-1), 1) := by decide +kernel
theorem d_MOD_node_103 : decode b_MOD_node 103 = .ok (.ireturn, 1) := by decide +kernel
theorem d_MOD_range_0 : decode b_MOD_range 0 = .ok (.aload_n 0, 1) := by decide +kernel
theorem d_MOD_range_1 : decode b_MOD_range 1 = .ok (.iconst 0, 1) := by decide +kernel
theorem d_MOD_range_2 : decode b_MOD_range 2 = .ok (.putfield 92, 3) := by decide +kernel
theorem d_MOD_range_5 : decode b_MOD_range 5 = .ok (.iload_n 1, 1) := by decide +kernel
theorem d_MOD_range_6 : decode b_MOD_range 6 = .ok (.ifCond .lt 34, 3) := by decide +kernel
theorem d_MOD_range_9 : decode b_MOD_range 9 = .ok (.iload_n 1, 1) := by decide +kernel
theorem d_MOD_range_10 : decode b_MOD_range 10 = .ok (.aload_n 0, 1) := by decide +kernel
theorem d_MOD_range_11 : decode b_MOD_range 11 = .ok (.getfield 135, 3) := by decide +kernel
theorem d_MOD_range_14 : decode b_MOD_range 14 = .ok (.if_icmp .ge 26, 3) := by decide +kernel
theorem d_MOD_range_17 : decode b_MOD_range 17 = .ok (.iload_n 2, 1) := by decide +kernel
theorem d_MOD_range_18 : decode b_MOD_range 18 = .ok (.ifCond .lt 22, 3) := by decide +kernel
theorem d_MOD_range_21 : decode b_MOD_range 21 = .ok (.iload_n 2, 1) := by decide +kernel
theorem d_MOD_range_22 : decode b_MOD_range 22 = .ok (.aload_n 0, 1) := by decide +kernel
theorem d_MOD_range_23 : decode b_MOD_range 23 = .ok (.getfield 41, 3) := by decide +kernel
theorem d_MOD_range_26 : decode b_MOD_range 26 = .ok (.iload_n 1, 1) := by decide +kernel
theorem d_MOD_range_27 : decode b_MOD_range 27 = .ok (.iaload, 1) := by decide +kernel
theorem d_MOD_range_28 : decode b_MOD_range 28 = .ok (.if_icmp .ge 12, 3) := by decide +kernel
theorem d_MOD_range_31 : decode b_MOD_range 31 = .ok (.iload_n 3, 1) := by decide +kernel
theorem d_MOD_range_32 : decode b_MOD_range 32 = .ok (.ifCond .lt 8, 3) := by decide +kernel
theorem d_MOD_range_35 : decode b_MOD_range 35 = .ok (.iload_n 3, 1) := by decide +kernel
theorem d_MOD_range_36 : decode b_MOD_range 36 = .ok (.iconst 1, 1) := by decide +kernel
theorem d_MOD_range_37 : decode b_MOD_range 37 = .ok (.if_icmp .le 5, 3) := by decide +kernel
theorem d_MOD_range_40 : decode b_MOD_range 40 = .ok (.iconst (-1), 1) := by decide +kernel
theorem d_MOD_range_41 : decode b_MOD_range 41 = .ok (.ireturn, 1) := by decide +kernel
theorem d_MOD_range_42 : decode b_MOD_range 42 = .ok (.iload_n 3, 1) := by decide +kernel
theorem d_MOD_range_43 : decode b_MOD_range 43 = .ok (.ifCond .ne 19, 3) := by decide +kernel
theorem d_MOD_range_46 : decode b_MOD_range 46 = .ok (.aload_n 0, 1) := by decide +kernel
theorem d_MOD_range_47 : decode b_MOD_range 47 = .ok (.getfield 44, 3) := by decide +kernel
theorem d_MOD_range_50 : decode b_MOD_range 50 = .ok (.aload_n 0, 1) := by decide +kernel
theorem d_MOD_range_51 : decode b_MOD_range 51 = .ok (.getfield 38, 3) := by decide +kernel
theorem d_MOD_range_54 : decode b_MOD_range 54 = .ok (.iload_n 1, 1) := by decide +kernel
theorem d_MOD_range_55 : decode b_MOD_range 55 = .ok (.iaload, 1) := by decide +kernel
theorem d_MOD_range_56 : decode b_MOD_range 56 = .ok (.iload_n 2, 1) := by decide +kernel
theorem d_MOD_range_57 : decode b_MOD_range 57 = .ok (.iadd, 1) := by decide +kernel
theorem d_MOD_range_58 : decode b_MOD_range 58 = .ok (.iaload, 1) := by decide +kernel
theorem d_MOD_range_59 : decode b_MOD_range 59 = .ok (.goto 16, 3) := by decide +kernel
theorem d_MOD_range_62 : decode b_MOD_range 62 = .ok (.aload_n 0, 1) := by decide +kernel
theorem d_MOD_range_63 : decode b_MOD_range 63 = .ok (.getfield 47, 3) := by decide +kernel
theorem d_MOD_range_66 : decode b_MOD_range 66 = .ok (.aload_n 0, 1) := by decide +kernel
theorem d_MOD_range_67 : decode b_MOD_range 67 = .ok (.getfield 38, 3) := by decide +kernel
theorem d_MOD_range_70 : decode b_MOD_range 70 = .ok (.iload_n 1, 1) := by decide +kernel
theorem d_MOD_range_71 : decode b_MOD_range 71 = .ok (.iaload, 1) := by decide +kernel
theorem d_MOD_range_72 : decode b_MOD_range 72 = .ok (.iload_n 2, 1) := by decide +kernel
theorem d_MOD_range_73 : decode b_MOD_range 73 = .ok (.iadd, 1) := by decide +kernel
theorem d_MOD_range_74 : decode b_MOD_range 74 = .ok (.iaload, 1) := by decide +kernel
theorem d_MOD_range_75 : decode b_MOD_range 75 = .ok (.ireturn, 1) := by decide +kernel
theorem d_MOD_name_0 : decode b_MOD_name 0 = .ok (.aload_n 0, 1) := by decide +kernel
theorem d_MOD_name_1 : decode b_MOD_name 1 = .ok (.iconst 0, 1) := by decide +kernel
theorem d_MOD_name_2 : decode b_MOD_name 2 = .ok (.putfield 92, 3) := by decide +kernel
theorem d_MOD_name_5 : decode b_MOD_name 5 = .ok (.iload_n 1, 1) := by decide +kernel
theorem d_MOD_name_6 : decode b_MOD_name 6 = .ok (.iconst 1, 1) := by decide +kernel
theorem d_MOD_name_7 : decode b_MOD_name 7 = .ok (.if_icmp .lt 25, 3) := by decide +kernel
theorem d_MOD_name_10 : decode b_MOD_name 10 = .ok (.iload_n 1, 1) := by decide +kernel
theorem d_MOD_name_11 : decode b_MOD_name 11 = .ok (.aload_n 0, 1) := by decide +kernel
theorem d_MOD_name_12 : decode b_MOD_name 12 = .ok (.getfield 274, 3) := by decide +kernel
theorem d_MOD_name_15 : decode b_MOD_name 15 = .ok (.if_icmp .gt 17, 3) := by decide +kernel
theorem d_MOD_name_18 : decode b_MOD_name 18 = .ok (.iload_n 2, 1) := by decide +kernel
theorem d_MOD_name_19 : decode b_MOD_name 19 = .ok (.ifCond .lt 13, 3) := by decide +kernel
theorem d_MOD_name_22 : decode b_MOD_name 22 = .ok (.iload_n 2, 1) := by decide +kernel
theorem d_MOD_name_23 : decode b_MOD_name 23 = .ok (.aload_n 0, 1) := by decide +kernel
theorem d_MOD_name_24 : decode b_MOD_name 24 = .ok (.getfield 53, 3) := by decide +kernel
theorem d_MOD_name_27 : decode b_MOD_name 27 = .ok (.iload_n 1, 1) := by decide +kernel
theorem d_MOD_name_28 : decode b_MOD_name 28 = .ok (.iaload, 1) := by decide +kernel
theorem d_MOD_name_29 : decode b_MOD_name 29 = .ok (.if_icmp .lt 7, 3) := by decide +kernel
theorem d_MOD_name_32 : decode b_MOD_name 32 = .ok (.iconst (-1), 1) := by decide +kernel
theorem d_MOD_name_33 : decode b_MOD_name 33 = .ok (.goto 14, 3) := by decide +kernel
theorem d_MOD_name_36 : decode b_MOD_name 36 = .ok (.aload_n 0, 1) := by decide +kernel
theorem d_MOD_name_37 : decode b_MOD_name 37 = .ok (.getfield 50, 3) := by decide +kernel
theorem d_MOD_name_40 : decode b_MOD_name 40 = .ok (.bipush 12, 2) := by decide +kernel
theorem d_MOD_name_42 : decode b_MOD_name 42 = .ok (.iload_n 1, 1) := by decide +kernel
theorem d_MOD_name_43 : decode b_MOD_name 43 = .ok (.imul, 1) := by decide +kernel
theorem d_MOD_name_44 : decode b_MOD_name 44 = .ok (.iload_n 2, 1) := by decide +kernel
theorem d_MOD_name_45 : decode b_MOD_name 45 = .ok (.iadd, 1) := by decide +kernel
theorem d_MOD_name_46 : decode b_MOD_name 46 = .ok (.iaload, 1) := by decide +kernel
theorem d_MOD_name_47 : decode b_MOD_name 47 = .ok (.ireturn, 1) := by decide +kernel
theorem d_PAT_init_0 : decode b_PAT_init 0 = .ok (.aload_n 0, 1) := by decide +kernel
theorem d_PAT_init_1 : decode b_PAT_init 1 = .ok (.invokespecial 3, 3) := by decide +kernel
theorem d_PAT_init_4 : decode b_PAT_init 4 = .ok (.aload_n 0, 1) := by decide +kernel
theorem d_PAT_init_5 : decode b_PAT_init 5 = .ok (.sipush 400, 3) := by decide +kernel
theorem d_PAT_init_8 : decode b_PAT_init 8 = .ok (.newarray .int, 2) := by decide +kernel
theorem d_PAT_init_10 : decode b_PAT_init 10 = .ok (.putfield 9, 3) := by decide +kernel
theorem d_PAT_init_13 : decode b_PAT_init 13 = .ok (.aload_n 0, 1) := by decide +kernel
theorem d_PAT_init_14 : decode b_PAT_init 14 = .ok (.iconst 0, 1) := by decide +kernel
theorem d_PAT_init_15 : decode b_PAT_init 15 = .ok (.putfield 15, 3) := by decide +kernel
theorem d_PAT_init_18 : decode b_PAT_init 18 = .ok (.return_, 1) := by decide +kernel
theorem d_MIS_init_0 : decode b_MIS_init 0 = .ok (.aload_n 0, 1) := by decide +kernel
theorem d_MIS_init_1 : decode b_MIS_init 1 = .ok (.invokespecial 3, 3) := by decide +kernel
theorem d_MIS_init_4 : decode b_MIS_init 4 = .ok (.aload_n 0, 1) := by decide +kernel
theorem d_MIS_init_5 : decode b_MIS_init 5 = .ok (.iconst 0, 1) := by decide +kernel
theorem d_MIS_init_6 : decode b_MIS_init 6 = .ok (.putfield 9, 3) := by decide +kernel
theorem d_MIS_init_9 : decode b_MIS_init 9 = .ok (.aload_n 0, 1) := by decide +kernel
theorem d_MIS_init_10 : decode b_MIS_init 10 = .ok (.iconst (-1), 1) := by decide +kernel
theorem d_MIS_init_11 : decode b_MIS_init 11 = .ok (.putfield 15, 3) := by decide +kernel
theorem d_MIS_init_14 : decode b_MIS_init 14 = .ok (.return_, 1) := by decide +kernel
theorem d_TRE_init_0 : decode b_TRE_init 0 = .ok (.aload_n 0, 1) := by decide +kernel
theorem d_TRE_init_1 : decode b_TRE_init 1 = .ok (.invokespecial 3, 3) := by decide +kernel
theorem d_TRE_init_4 : decode b_TRE_init 4 = .ok (.aload_n 0, 1) := by decide +kernel
theorem d_TRE_init_5 : decode b_TRE_init 5 = .ok (.sipush 512, 3) := by decide +kernel
theorem d_TRE_init_8 : decode b_TRE_init 8 = .ok (.newarray .int, 2) := by decide +kernel
theorem d_TRE_init_10 : decode b_TRE_init 10 = .ok (.putfield 11, 3) := by decide +kernel
theorem d_TRE_init_13 : decode b_TRE_init 13 = .ok (.aload_n 0, 1) := by decide +kernel
theorem d_TRE_init_14 : decode b_TRE_init 14 = .ok (.sipush 512, 3) := by decide +kernel
theorem d_TRE_init_17 : decode b_TRE_init 17 = .ok (.newarray .int, 2) := by decide +kernel
theorem d_TRE_init_19 : decode b_TRE_init 19 = .ok (.putfield 15, 3) := by decide +kernel
theorem d_TRE_init_22 : decode b_TRE_init 22 = .ok (.aload_n 0, 1) := by decide +kernel
theorem d_TRE_init_23 : decode b_TRE_init 23 = .ok (.sipush 512, 3) := by decide +kernel
theorem d_TRE_init_26 : decode b_TRE_init 26 = .ok (.newarray .int, 2) := by decide +kernel
theorem d_TRE_init_28 : decode b_TRE_init 28 = .ok (.putfield 18, 3) := by decide +kernel
theorem d_TRE_init_31 : decode b_TRE_init 31 = .ok (.aload_n 0, 1) := by decide +kernel
theorem d_TRE_init_32 : decode b_TRE_init 32 = .ok (.sipush 512, 3) := by decide +kernel
theorem d_TRE_init_35 : decode b_TRE_init 35 = .ok (.newarray .int, 2) := by decide +kernel
theorem d_TRE_init_37 : decode b_TRE_init 37 = .ok (.putfield 21, 3) := by decide +kernel
theorem d_TRE_init_40 : decode b_TRE_init 40 = .ok (.aload_n 0, 1) := by decide +kernel
theorem d_TRE_init_41 : decode b_TRE_init 41 = .ok (.sipush 512, 3) := by decide +kernel
theorem d_TRE_init_44 : decode b_TRE_init 44 = .ok (.newarray .int, 2) := by decide +kernel
theorem d_TRE_init_46 : decode b_TRE_init 46 = .ok (.putfield 24, 3) := by decide +kernel
theorem d_TRE_init_49 : decode b_TRE_init 49 = .ok (.aload_n 0, 1) := by decide +kernel
theorem d_TRE_init_50 : decode b_TRE_init 50 = .ok (.sipush 512, 3) := by decide +kernel
theorem d_TRE_init_53 : decode b_TRE_init 53 = .ok (.newarray .int, 2) := by decide +kernel
theorem d_TRE_init_55 : decode b_TRE_init 55 = .ok (.putfield 27, 3) := by decide +kernel
theorem d_TRE_init_58 : decode b_TRE_init 58 = .ok (.aload_n 0, 1) := by decide +kernel
theorem d_TRE_init_59 : decode b_TRE_init 59 = .ok (.sipush 512, 3) := by decide +kernel
theorem d_TRE_init_62 : decode b_TRE_init 62 = .ok (.newarray .int, 2) := by decide +kernel
theorem d_TRE_init_64 : decode b_TRE_init 64 = .ok (.putfield 30, 3) := by decide +kernel
theorem d_TRE_init_67 : decode b_TRE_init 67 = .ok (.aload_n 0, 1) := by decide +kernel
theorem d_TRE_init_68 : decode b_TRE_init 68 = .ok (.sipush 1600, 3) := by decide +kernel
theorem d_TRE_init_71 : decode b_TRE_init 71 = .ok (.newarray .int, 2) := by decide +kernel
theorem d_TRE_init_73 : decode b_TRE_init 73 = .ok (.putfield 33, 3) := by decide +kernel
theorem d_TRE_init_76 : decode b_TRE_init 76 = .ok (.aload_n 0, 1) := by decide +kernel
theorem d_TRE_init_77 : decode b_TRE_init 77 = .ok (.sipush 1600, 3) := by decide +kernel
theorem d_TRE_init_80 : decode b_TRE_init 80 = .ok (.newarray .int, 2) := by decide +kernel
theorem d_TRE_init_82 : decode b_TRE_init 82 = .ok (.putfield 36, 3) := by decide +kernel
theorem d_TRE_init_85 : decode b_TRE_init 85 = .ok (.aload_n 0, 1) := by decide +kernel
theorem d_TRE_init_86 : decode b_TRE_init 86 = .ok (.sipush 512, 3) := by decide +kernel
theorem d_TRE_init_89 : decode b_TRE_init 89 = .ok (.newarray .int, 2) := by decide +kernel
theorem d_TRE_init_91 : decode b_TRE_init 91 = .ok (.putfield 39, 3) := by decide +kernel
theorem d_TRE_init_94 : decode b_TRE_init 94 = .ok (.aload_n 0, 1) := by decide +kernel
theorem d_TRE_init_95 : decode b_TRE_init 95 = .ok (.iconst 0, 1) := by decide +kernel
theorem d_TRE_init_96 : decode b_TRE_init 96 = .ok (.putfield 42, 3) := by decide +kernel
theorem d_TRE_init_99 : decode b_TRE_init 99 = .ok (.aload_n 0, 1) := by decide +kernel
theorem d_TRE_init_100 : decode b_TRE_init 100 = .ok (.iconst 0, 1) := by decide +kernel
theorem d_TRE_init_101 : decode b_TRE_init 101 = .ok (.putfield 46, 3) := by decide +kernel
theorem d_TRE_init_104 : decode b_TRE_init 104 = .ok (.aload_n 0, 1) := by decide +kernel
theorem d_TRE_init_105 : decode b_TRE_init 105 = .ok (.iconst 0, 1) := by decide +kernel
theorem d_TRE_init_106 : decode b_TRE_init 106 = .ok (.putfield 49, 3) := by decide +kernel
theorem d_TRE_init_109 : decode b_TRE_init 109 = .ok (.return_, 1) := by decide +kernel
theorem d_GRP_init_0 : decode b_GRP_init 0 = .ok (.aload_n 0, 1) := by decide +kernel
theorem d_GRP_init_1 : decode b_GRP_init 1 = .ok (.invokespecial 3, 3) := by decide +kernel
theorem d_GRP_init_4 : decode b_GRP_init 4 = .ok (.aload_n 0, 1) := by decide +kernel
theorem d_GRP_init_5 : decode b_GRP_init 5 = .ok (.bipush 10, 2) := by decide +kernel
theorem d_GRP_init_7 : decode b_GRP_init 7 = .ok (.newarray .int, 2) := by decide +kernel
theorem d_GRP_init_9 : decode b_GRP_init 9 = .ok (.putfield 9, 3) := by decide +kernel
theorem d_GRP_init_12 : decode b_GRP_init 12 = .ok (.aload_n 0, 1) := by decide +kernel
theorem d_GRP_init_13 : decode b_GRP_init 13 = .ok (.bipush 120, 2) := by decide +kernel
theorem d_GRP_init_15 : decode b_GRP_init 15 = .ok (.newarray .int, 2) := by decide +kernel
theorem d_GRP_init_17 : decode b_GRP_init 17 = .ok (.putfield 15, 3) := by decide +kernel
theorem d_GRP_init_20 : decode b_GRP_init 20 = .ok (.aload_n 0, 1) := by decide +kernel
theorem d_GRP_init_21 : decode b_GRP_init 21 = .ok (.iconst 0, 1) := by decide +kernel
theorem d_GRP_init_22 : decode b_GRP_init 22 = .ok (.putfield 18, 3) := by decide +kernel
theorem d_GRP_init_25 : decode b_GRP_init 25 = .ok (.return_, 1) := by decide +kernel
theorem d_OPN_init_0 : decode b_OPN_init 0 = .ok (.aload_n 0, 1) := by decide +kernel
theorem d_OPN_init_1 : decode b_OPN_init 1 = .ok (.invokespecial 3, 3) := by decide +kernel
theorem d_OPN_init_4 : decode b_OPN_init 4 = .ok (.aload_n 0, 1) := by decide +kernel
theorem d_OPN_init_5 : decode b_OPN_init 5 = .ok (.bipush 31, 2) := by decide +kernel
theorem d_OPN_init_7 : decode b_OPN_init 7 = .ok (.newarray .int, 2) := by decide +kernel
theorem d_OPN_init_9 : decode b_OPN_init 9 = .ok (.putfield 9, 3) := by decide +kernel
theorem d_OPN_init_12 : decode b_OPN_init 12 = .ok (.aload_n 0, 1) := by decide +kernel
theorem d_OPN_init_13 : decode b_OPN_init 13 = .ok (.bipush 31, 2) := by decide +kernel
theorem d_OPN_init_15 : decode b_OPN_init 15 = .ok (.newarray .int, 2) := by decide +kernel
theorem d_OPN_init_17 : decode b_OPN_init 17 = .ok (.putfield 15, 3) := by decide +kernel
theorem d_OPN_init_20 : decode b_OPN_init 20 = .ok (.aload_n 0, 1) := by decide +kernel
theorem d_OPN_init_21 : decode b_OPN_init 21 = .ok (.bipush 31, 2) := by decide +kernel
theorem d_OPN_init_23 : decode b_OPN_init 23 = .ok (.newarray .int, 2) := by decide +kernel
theorem d_OPN_init_25 : decode b_OPN_init 25 = .ok (.putfield 18, 3) := by decide +kernel
theorem d_OPN_init_28 : decode b_OPN_init 28 = .ok (.aload_n 0, 1) := by decide +kernel
theorem d_OPN_init_29 : decode b_OPN_init 29 = .ok (.bipush 31, 2) := by decide +kernel
theorem d_OPN_init_31 : decode b_OPN_init 31 = .ok (.newarray .int, 2) := by decide +kernel
theorem d_OPN_init_33 : decode b_OPN_init 33 = .ok (.putfield 21, 3) := by decide +kernel
theorem d_OPN_init_36 : decode b_OPN_init 36 = .ok (.aload_n 0, 1) := by decide +kernel
theorem d_OPN_init_37 : decode b_OPN_init 37 = .ok (.bipush 31, 2) := by decide +kernel
theorem d_OPN_init_39 : decode b_OPN_init 39 = .ok (.newarray .int, 2) := by decide +kernel
theorem d_OPN_init_41 : decode b_OPN_init 41 = .ok (.putfield 24, 3) := by decide +kernel
theorem d_OPN_init_44 : decode b_OPN_init 44 = .ok (.aload_n 0, 1) := by decide +kernel
theorem d_OPN_init_45 : decode b_OPN_init 45 = .ok (.iconst 0, 1) := by decide +kernel
theorem d_OPN_init_46 : decode b_OPN_init 46 = .ok (.putfield 27, 3) := by decide +kernel
theorem d_OPN_init_49 : decode b_OPN_init 49 = .ok (.return_, 1) := by decide +kernel
theorem d_SET_init_0 : decode b_SET_init 0 = .ok (.aload_n 0, 1) := by decide +kernel
theorem d_SET_init_1 : decode b_SET_init 1 = .ok (.invokespecial 3, 3) := by decide +kernel
theorem d_SET_init_4 : decode b_SET_init 4 = .ok (.aload_n 0, 1) := by decide +kernel
theorem d_SET_init_5 : decode b_SET_init 5 = .ok (.sipush 1024, 3) := by decide +kernel
theorem d_SET_init_8 : decode b_SET_init 8 = .ok (.newarray .int, 2) := by decide +kernel
theorem d_SET_init_10 : decode b_SET_init 10 = .ok (.putfield 11, 3) := by decide +kernel
theorem d_SET_init_13 : decode b_SET_init 13 = .ok (.aload_n 0, 1) := by decide +kernel
theorem d_SET_init_14 : decode b_SET_init 14 = .ok (.sipush 1024, 3) := by decide +kernel
theorem d_SET_init_17 : decode b_SET_init 17 = .ok (.newarray .int, 2) := by decide +kernel
theorem d_SET_init_19 : decode b_SET_init 19 = .ok (.putfield 15, 3) := by decide +kernel
theorem d_SET_init_22 : decode b_SET_init 22 = .ok (.aload_n 0, 1) := by decide +kernel
theorem d_SET_init_23 : decode b_SET_init 23 = .ok (.iconst 0, 1) := by decide +kernel
theorem d_SET_init_24 : decode b_SET_init 24 = .ok (.putfield 18, 3) := by decide +kernel
theorem d_SET_init_27 : decode b_SET_init 27 = .ok (.return_, 1) := by decide +kernel
theorem d_ESC_init_0 : decode b_ESC_init 0 = .ok (.aload_n 0, 1) := by decide +kernel
theorem d_ESC_init_1 : decode b_ESC_init 1 = .ok (.invokespecial 3, 3) := by decide +kernel
theorem d_ESC_init_4 : decode b_ESC_init 4 = .ok (.aload_n 0, 1) := by decide +kernel
theorem d_ESC_init_5 : decode b_ESC_init 5 = .ok (.iconst 0, 1) := by decide +kernel
theorem d_ESC_init_6 : decode b_ESC_init 6 = .ok (.putfield 9, 3) := by decide +kernel
theorem d_ESC_init_9 : decode b_ESC_init 9 = .ok (.aload_n 0, 1) := by decide +kernel
theorem d_ESC_init_10 : decode b_ESC_init 10 = .ok (.iconst (-1), 1) := by decide +kernel
theorem d_ESC_init_11 : decode b_ESC_init 11 = .ok (.putfield 15, 3) := by decide +kernel
theorem d_ESC_init_14 : decode b_ESC_init 14 = .ok (.aload_n 0, 1) := by decide +kernel
theorem d_ESC_init_15 : decode b_ESC_init 15 = .ok (.getstatic 18, 3) := by decide +kernel
theorem d_ESC_init_18 : decode b_ESC_init 18 = .ok (.putfield 22, 3) := by decide +kernel
theorem d_ESC_init_21 : decode b_ESC_init 21 = .ok (.aload_n 0, 1) := by decide +kernel
theorem d_ESC_init_22 : decode b_ESC_init 22 = .ok (.iconst 0, 1) := by decide +kernel
theorem d_ESC_init_23 : decode b_ESC_init 23 = .ok (.putfield 25, 3) := by decide +kernel
theorem d_ESC_init_26 : decode b_ESC_init 26 = .ok (.aload_n 0, 1) := by decide +kernel
theorem d_ESC_init_27 : decode b_ESC_init 27 = .ok (.iconst 0, 1) := by decide +kernel
theorem d_ESC_init_28 : decode b_ESC_init 28 = .ok (.putfield 29, 3) := by decide +kernel
theorem d_ESC_init_31 : decode b_ESC_init 31 = .ok (.aload_n 0, 1) := by decide +kernel
theorem d_ESC_init_32 : decode b_ESC_init 32 = .ok (.aload_n 1, 1) := by decide +kernel
theorem d_ESC_init_33 : decode b_ESC_init 33 = .ok (.putfield 32, 3) := by decide +kernel
theorem d_ESC_init_36 : decode b_ESC_init 36 = .ok (.return_, 1) := by decide +kernel
theorem d_CLS_init_0 : decode b_CLS_init 0 = .ok (.aload_n 0, 1) := by decide +kernel
theorem d_CLS_init_1 : decode b_CLS_init 1 = .ok (.invokespecial 3, 3) := by decide +kernel
theorem d_CLS_init_4 : decode b_CLS_init 4 = .ok (.aload_n 0, 1) := by decide +kernel
theorem d_CLS_init_5 : decode b_CLS_init 5 = .ok (.iconst (-1), 1) := by decide +kernel
theorem d_CLS_init_6 : decode b_CLS_init 6 = .ok (.putfield 9, 3) := by decide +kernel
theorem d_CLS_init_9 : decode b_CLS_init 9 = .ok (.aload_n 0, 1) := by decide +kernel
theorem d_CLS_init_10 : decode b_CLS_init 10 = .ok (.aload_n 1, 1) := by decide +kernel
theorem d_CLS_init_11 : decode b_CLS_init 11 = .ok (.putfield 15, 3) := by decide +kernel
theorem d_CLS_init_14 : decode b_CLS_init 14 = .ok (.aload_n 0, 1) := by decide +kernel
theorem d_CLS_init_15 : decode b_CLS_init 15 = .ok (.aload_n 2, 1) := by decide +kernel
theorem d_CLS_init_16 : decode b_CLS_init 16 = .ok (.putfield 19, 3) := by decide +kernel
theorem d_CLS_init_19 : decode b_CLS_init 19 = .ok (.aload_n 0, 1) := by decide +kernel
theorem d_CLS_init_20 : decode b_CLS_init 20 = .ok (.aload_n 3, 1) := by decide +kernel
theorem d_CLS_init_21 : decode b_CLS_init 21 = .ok (.putfield 23, 3) := by decide +kernel
theorem d_CLS_init_24 : decode b_CLS_init 24 = .ok (.aload_n 0, 1) := by decide +kernel
theorem d_CLS_init_25 : decode b_CLS_init 25 = .ok (.aload 4, 2) := by decide +kernel
theorem d_CLS_init_27 : decode b_CLS_init 27 = .ok (.putfield 27, 3) := by decide +kernel
theorem d_CLS_init_30 : decode b_CLS_init 30 = .ok (.return_, 1) := by decide +kernel
theorem d_OPG_init_0 : decode b_OPG_init 0 = .ok (.aload_n 0, 1) := by decide +kernel
theorem d_OPG_init_1 : decode b_OPG_init 1 = .ok (.invokespecial 3, 3) := by decide +kernel
theorem d_OPG_init_4 : decode b_OPG_init 4 = .ok (.aload_n 0, 1) := by decide +kernel
theorem d_OPG_init_5 : decode b_OPG_init 5 = .ok (.iconst 0, 1) := by decide +kernel
theorem d_OPG_init_6 : decode b_OPG_init 6 = .ok (.putfield 9, 3) := by decide +kernel
theorem d_OPG_init_9 : decode b_OPG_init 9 = .ok (.aload_n 0, 1) := by decide +kernel
theorem d_OPG_init_10 : decode b_OPG_init 10 = .ok (.iconst 0, 1) := by decide +kernel
theorem d_OPG_init_11 : decode b_OPG_init 11 = .ok (.putfield 15, 3) := by decide +kernel
theorem d_OPG_init_14 : decode b_OPG_init 14 = .ok (.aload_n 0, 1) := by decide +kernel
theorem d_OPG_init_15 : decode b_OPG_init 15 = .ok (.iconst 0, 1) := by decide +kernel
theorem d_OPG_init_16 : decode b_OPG_init 16 = .ok (.putfield 18, 3) := by decide +kernel
theorem d_OPG_init_19 : decode b_OPG_init 19 = .ok (.aload_n 0, 1) := by decide +kernel
theorem d_OPG_init_20 : decode b_OPG_init 20 = .ok (.iconst 0, 1) := by decide +kernel
theorem d_OPG_init_21 : decode b_OPG_init 21 = .ok (.putfield 22, 3) := by decide +kernel
theorem d_OPG_init_24 : decode b_OPG_init 24 = .ok (.aload_n 0, 1) := by decide +kernel
theorem d_OPG_init_25 : decode b_OPG_init 25 = .ok (.iconst 0, 1) := by decide +kernel
theorem d_OPG_init_26 : decode b_OPG_init 26 = .ok (.putfield 25, 3) := by decide +kernel
theorem d_OPG_init_29 : decode b_OPG_init 29 = .ok (.aload_n 0, 1) := by decide +kernel
theorem d_OPG_init_30 : decode b_OPG_init 30 = .ok (.iconst 0, 1) := by decide +kernel
theorem d_OPG_init_31 : decode b_OPG_init 31 = .ok (.putfield 28, 3) := by decide +kernel
theorem d_OPG_init_34 : decode b_OPG_init 34 = .ok (.aload_n 0, 1) := by decide +kernel
theorem d_OPG_init_35 : decode b_OPG_init 35 = .ok (.aload_n 1, 1) := by decide +kernel
theorem d_OPG_init_36 : decode b_OPG_init 36 = .ok (.putfield 31, 3) := by decide +kernel
theorem d_OPG_init_39 : decode b_OPG_init 39 = .ok (.return_, 1) := by decide +kernel
theorem d_REP_init_0 : decode b_REP_init 0 = .ok (.aload_n 0, 1) := by decide +kernel
theorem d_REP_init_1 : decode b_REP_init 1 = .ok (.invokespecial 3, 3) := by decide +kernel
theorem d_REP_init_4 : decode b_REP_init 4 = .ok (.aload_n 0, 1) := by decide +kernel
theorem d_REP_init_5 : decode b_REP_init 5 = .ok (.iconst 0, 1) := by decide +kernel
theorem d_REP_init_6 : decode b_REP_init 6 = .ok (.putfield 9, 3) := by decide +kernel
theorem d_REP_init_9 : decode b_REP_init 9 = .ok (.aload_n 0, 1) := by decide +kernel
theorem d_REP_init_10 : decode b_REP_init 10 = .ok (.iconst (-1), 1) := by decide +kernel
theorem d_REP_init_11 : decode b_REP_init 11 = .ok (.putfield 15, 3) := by decide +kernel
theorem d_REP_init_14 : decode b_REP_init 14 = .ok (.aload_n 0, 1) := by decide +kernel
theorem d_REP_init_15 : decode b_REP_init 15 = .ok (.iconst 0, 1) := by decide +kernel
theorem d_REP_init_16 : decode b_REP_init 16 = .ok (.putfield 18, 3) := by decide +kernel
theorem d_REP_init_19 : decode b_REP_init 19 = .ok (.aload_n 0, 1) := by decide +kernel
theorem d_REP_init_20 : decode b_REP_init 20 = .ok (.iconst 0, 1) := by decide +kernel
theorem d_REP_init_21 : decode b_REP_init 21 = .ok (.putfield 22, 3) := by decide +kernel
theorem d_REP_init_24 : decode b_REP_init 24 = .ok (.aload_n 0, 1) := by decide +kernel
theorem d_REP_init_25 : decode b_REP_init 25 = .ok (.iconst 0, 1) := by decide +kernel
theorem d_REP_init_26 : decode b_REP_init 26 = .ok (.putfield 25, 3) := by decide +kernel
theorem d_REP_init_29 : decode b_REP_init 29 = .ok (.aload_n 0, 1) := by decide +kernel
theorem d_REP_init_30 : decode b_REP_init 30 = .ok (.aload_n 1, 1) := by decide +kernel
theorem d_REP_init_31 : decode b_REP_init 31 = .ok (.putfield 28, 3) := by decide +kernel
theorem d_REP_init_34 : decode b_REP_init 34 = .ok (.return_, 1) := by decide +kernel
theorem d_RDR_init_0 : decode b_RDR_init 0 = .ok (.aload_n 0, 1) := by decide +kernel
theorem d_RDR_init_1 : decode b_RDR_init 1 = .ok (.invokespecial 3, 3) := by decide +kernel
theorem d_RDR_init_4 : decode b_RDR_init 4 = .ok (.aload_n 0, 1) := by decide +kernel
theorem d_RDR_init_5 : decode b_RDR_init 5 = .ok (.new 9, 3) := by decide +kernel
theorem d_RDR_init_8 : decode b_RDR_init 8 = .ok (.dup, 1) := by decide +kernel
theorem d_RDR_init_9 : decode b_RDR_init 9 = .ok (.invokespecial 11, 3) := by decide +kernel
theorem d_RDR_init_12 : decode b_RDR_init 12 = .ok (.putfield 12, 3) := by decide +kernel
theorem d_RDR_init_15 : decode b_RDR_init 15 = .ok (.aload_n 0, 1) := by decide +kernel
theorem d_RDR_init_16 : decode b_RDR_init 16 = .ok (.new 18, 3) := by decide +kernel
theorem d_RDR_init_19 : decode b_RDR_init 19 = .ok (.dup, 1) := by decide +kernel
theorem d_RDR_init_20 : decode b_RDR_init 20 = .ok (.invokespecial 20, 3) := by decide +kernel
theorem d_RDR_init_23 : decode b_RDR_init 23 = .ok (.putfield 21, 3) := by decide +kernel
theorem d_RDR_init_26 : decode b_RDR_init 26 = .ok (.aload_n 0, 1) := by decide +kernel
theorem d_RDR_init_27 : decode b_RDR_init 27 = .ok (.iconst 0, 1) := by decide +kernel
theorem d_RDR_init_28 : decode b_RDR_init 28 = .ok (.putfield 25, 3) := by decide +kernel
theorem d_RDR_init_31 : decode b_RDR_init 31 = .ok (.aload_n 0, 1) := by decide +kernel
theorem d_RDR_init_32 : decode b_RDR_init 32 = .ok (.iconst 0, 1) := by decide +kernel
