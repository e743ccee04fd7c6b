theorem d_MOD_keep_5 : decode b_MOD_keep 5 = .ok (.iconst 0, 1) := by decide +kernel
theorem d_MOD_keep_6 : decode b_MOD_keep 6 = .ok (.istore_n 2, 1) := by decide +kernel
theorem d_MOD_keep_7 : decode b_MOD_keep 7 = .ok (.iload_n 2, 1) := by decide +kernel
theorem d_MOD_keep_8 : decode b_MOD_keep 8 = .ok (.aload_n 0, 1) := by decide +kernel
theorem d_MOD_keep_9 : decode b_MOD_keep 9 = .ok (.getfield 77, 3) := by decide +kernel
theorem d_MOD_keep_12 : decode b_MOD_keep 12 = .ok (.iconst 0, 1) := by decide +kernel
theorem d_MOD_keep_13 : decode b_MOD_keep 13 = .ok (.iaload, 1) := by decide +kernel
theorem d_MOD_keep_14 : decode b_MOD_keep 14 = .ok (.if_icmp .ge 95, 3) := by decide +kernel
theorem d_MOD_keep_17 : decode b_MOD_keep 17 = .ok (.aload_n 0, 1) := by decide +kernel
theorem d_MOD_keep_18 : decode b_MOD_keep 18 = .ok (.getfield 71, 3) := by decide +kernel
theorem d_MOD_keep_21 : decode b_MOD_keep 21 = .ok (.iload_n 2, 1) := by decide +kernel
theorem d_MOD_keep_22 : decode b_MOD_keep 22 = .ok (.iaload, 1) := by decide +kernel
theorem d_MOD_keep_23 : decode b_MOD_keep 23 = .ok (.ldc 124, 2) := by decide +kernel
theorem d_MOD_keep_25 : decode b_MOD_keep 25 = .ok (.if_icmp .ge 35, 3) := by decide +kernel
theorem d_MOD_keep_28 : decode b_MOD_keep 28 = .ok (.aload_n 0, 1) := by decide +kernel
theorem d_MOD_keep_29 : decode b_MOD_keep 29 = .ok (.aload_n 0, 1) := by decide +kernel
theorem d_MOD_keep_30 : decode b_MOD_keep 30 = .ok (.getfield 71, 3) := by decide +kernel
theorem d_MOD_keep_33 : decode b_MOD_keep 33 = .ok (.iload_n 2, 1) := by decide +kernel
theorem d_MOD_keep_34 : decode b_MOD_keep 34 = .ok (.iaload, 1) := by decide +kernel
theorem d_MOD_keep_35 : decode b_MOD_keep 35 = .ok (.aload_n 0, 1) := by decide +kernel
theorem d_MOD_keep_36 : decode b_MOD_keep 36 = .ok (.getfield 74, 3) := by decide +kernel
theorem d_MOD_keep_39 : decode b_MOD_keep 39 = .ok (.iload_n 2, 1) := by decide +kernel
theorem d_MOD_keep_40 : decode b_MOD_keep 40 = .ok (.iaload, 1) := by decide +kernel
theorem d_MOD_keep_41 : decode b_MOD_keep 41 = .ok (.ldc 124, 2) := by decide +kernel
theorem d_MOD_keep_43 : decode b_MOD_keep 43 = .ok (.if_icmp .ge 12, 3) := by decide +kernel
theorem d_MOD_keep_46 : decode b_MOD_keep 46 = .ok (.aload_n 0, 1) := by decide +kernel
theorem d_MOD_keep_47 : decode b_MOD_keep 47 = .ok (.getfield 74, 3) := by decide +kernel
theorem d_MOD_keep_50 : decode b_MOD_keep 50 = .ok (.iload_n 2, 1) := by decide +kernel
theorem d_MOD_keep_51 : decode b_MOD_keep 51 = .ok (.iaload, 1) := by decide +kernel
theorem d_MOD_keep_52 : decode b_MOD_keep 52 = .ok (.goto 5, 3) := by decide +kernel
theorem d_MOD_keep_55 : decode b_MOD_keep 55 = .ok (.ldc 125, 2) := by decide +kernel
theorem d_MOD_keep_57 : decode b_MOD_keep 57 = .ok (.invokevirtual 126, 3) := by decide +kernel
theorem d_MOD_keep_60 : decode b_MOD_keep 60 = .ok (.aload_n 0, 1) := by decide +kernel
theorem d_MOD_keep_61 : decode b_MOD_keep 61 = .ok (.getfield 74, 3) := by decide +kernel
theorem d_MOD_keep_64 : decode b_MOD_keep 64 = .ok (.iload_n 2, 1) := by decide +kernel
theorem d_MOD_keep_65 : decode b_MOD_keep 65 = .ok (.iaload, 1) := by decide +kernel
theorem d_MOD_keep_66 : decode b_MOD_keep 66 = .ok (.ldc 130, 2) := by decide +kernel
theorem d_MOD_keep_68 : decode b_MOD_keep 68 = .ok (.if_icmp .le 35, 3) := by decide +kernel
theorem d_MOD_keep_71 : decode b_MOD_keep 71 = .ok (.aload_n 0, 1) := by decide +kernel
theorem d_MOD_keep_72 : decode b_MOD_keep 72 = .ok (.aload_n 0, 1) := by decide +kernel
theorem d_MOD_keep_73 : decode b_MOD_keep 73 = .ok (.getfield 71, 3) := by decide +kernel
theorem d_MOD_keep_76 : decode b_MOD_keep 76 = .ok (.iload_n 2, 1) := by decide +kernel
theorem d_MOD_keep_77 : decode b_MOD_keep 77 = .ok (.iaload, 1) := by decide +kernel
theorem d_MOD_keep_78 : decode b_MOD_keep 78 = .ok (.ldc 130, 2) := by decide +kernel
theorem d_MOD_keep_80 : decode b_MOD_keep 80 = .ok (.if_icmp .le 12, 3) := by decide +kernel
theorem d_MOD_keep_83 : decode b_MOD_keep 83 = .ok (.aload_n 0, 1) := by decide +kernel
theorem d_MOD_keep_84 : decode b_MOD_keep 84 = .ok (.getfield 71, 3) := by decide +kernel
theorem d_MOD_keep_87 : decode b_MOD_keep 87 = .ok (.iload_n 2, 1) := by decide +kernel
theorem d_MOD_keep_88 : decode b_MOD_keep 88 = .ok (.iaload, 1) := by decide +kernel
theorem d_MOD_keep_89 : decode b_MOD_keep 89 = .ok (.goto 5, 3) := by decide +kernel
theorem d_MOD_keep_92 : decode b_MOD_keep 92 = .ok (.ldc 131, 2) := by decide +kernel
theorem d_MOD_keep_94 : decode b_MOD_keep 94 = .ok (.aload_n 0, 1) := by decide +kernel
theorem d_MOD_keep_95 : decode b_MOD_keep 95 = .ok (.getfield 74, 3) := by decide +kernel
theorem d_MOD_keep_98 : decode b_MOD_keep 98 = .ok (.iload_n 2, 1) := by decide +kernel
theorem d_MOD_keep_99 : decode b_MOD_keep 99 = .ok (.iaload, 1) := by decide +kernel
theorem d_MOD_keep_100 : decode b_MOD_keep 100 = .ok (.invokevirtual 126, 3) := by decide +kernel
theorem d_MOD_keep_103 : decode b_MOD_keep 103 = .ok (.iinc 2 1, 3) := by decide +kernel
theorem d_MOD_keep_106 : decode b_MOD_keep 106 = .ok (.goto (-99), 3) := by decide +kernel
theorem d_MOD_keep_109 : decode b_MOD_keep 109 = .ok (.aload_n 0, 1) := by decide +kernel
theorem d_MOD_keep_110 : decode b_MOD_keep 110 = .ok (.getfield 121, 3) := by decide +kernel
theorem d_MOD_keep_113 : decode b_MOD_keep 113 = .ok (.iload_n 1, 1) := by decide +kernel
theorem d_MOD_keep_114 : decode b_MOD_keep 114 = .ok (.isub, 1) := by decide +kernel
theorem d_MOD_keep_115 : decode b_MOD_keep 115 = .ok (.ireturn, 1) := by decide +kernel
theorem d_MOD_atMost_0 : decode b_MOD_atMost 0 = .ok (.lload_n 0, 1) := by decide +kernel
theorem d_MOD_atMost_1 : decode b_MOD_atMost 1 = .ok (.ldc2_w 132, 3) := by decide +kernel
theorem d_MOD_atMost_4 : decode b_MOD_atMost 4 = .ok (.lcmp, 1) := by decide +kernel
theorem d_MOD_atMost_5 : decode b_MOD_atMost 5 = .ok (.ifCond .ge 8, 3) := by decide +kernel
theorem d_MOD_atMost_8 : decode b_MOD_atMost 8 = .ok (.lload_n 0, 1) := by decide +kernel
theorem d_MOD_atMost_9 : decode b_MOD_atMost 9 = .ok (.l2i, 1) := by decide +kernel
theorem d_MOD_atMost_10 : decode b_MOD_atMost 10 = .ok (.goto 5, 3) := by decide +kernel
theorem d_MOD_atMost_13 : decode b_MOD_atMost 13 = .ok (.ldc 134, 2) := by decide +kernel
theorem d_MOD_atMost_15 : decode b_MOD_atMost 15 = .ok (.ireturn, 1) := by decide +kernel
theorem d_MOD_sizeOf_0 : decode b_MOD_sizeOf 0 = .ok (.iload_n 0, 1) := by decide +kernel
theorem d_MOD_sizeOf_1 : decode b_MOD_sizeOf 1 = .ok (.iconst 4, 1) := by decide +kernel
theorem d_MOD_sizeOf_2 : decode b_MOD_sizeOf 2 = .ok (.if_icmp .ne 5, 3) := by decide +kernel
theorem d_MOD_sizeOf_5 : decode b_MOD_sizeOf 5 = .ok (.lload_n 3, 1) := by decide +kernel
theorem d_MOD_sizeOf_6 : decode b_MOD_sizeOf 6 = .ok (.lreturn, 1) := by decide +kernel
theorem d_MOD_sizeOf_7 : decode b_MOD_sizeOf 7 = .ok (.iload_n 0, 1) := by decide +kernel
theorem d_MOD_sizeOf_8 : decode b_MOD_sizeOf 8 = .ok (.iconst 5, 1) := by decide +kernel
theorem d_MOD_sizeOf_9 : decode b_MOD_sizeOf 9 = .ok (.if_icmp .ne 10, 3) := by decide +kernel
theorem d_MOD_sizeOf_12 : decode b_MOD_sizeOf 12 = .ok (.lload_n 3, 1) := by decide +kernel
theorem d_MOD_sizeOf_13 : decode b_MOD_sizeOf 13 = .ok (.iload_n 1, 1) := by decide +kernel
theorem d_MOD_sizeOf_14 : decode b_MOD_sizeOf 14 = .ok (.i2l, 1) := by decide +kernel
theorem d_MOD_sizeOf_15 : decode b_MOD_sizeOf 15 = .ok (.ladd, 1) := by decide +kernel
theorem d_MOD_sizeOf_16 : decode b_MOD_sizeOf 16 = .ok (.lconst 1, 1) := by decide +kernel
theorem d_MOD_sizeOf_17 : decode b_MOD_sizeOf 17 = .ok (.lsub, 1) := by decide +kernel
theorem d_MOD_sizeOf_18 : decode b_MOD_sizeOf 18 = .ok (.lreturn, 1) := by decide +kernel
theorem d_MOD_sizeOf_19 : decode b_MOD_sizeOf 19 = .ok (.iload_n 0, 1) := by decide +kernel
theorem d_MOD_sizeOf_20 : decode b_MOD_sizeOf 20 = .ok (.bipush 6, 2) := by decide +kernel
theorem d_MOD_sizeOf_22 : decode b_MOD_sizeOf 22 = .ok (.if_icmp .ne 16, 3) := by decide +kernel
theorem d_MOD_sizeOf_25 : decode b_MOD_sizeOf 25 = .ok (.lload_n 3, 1) := by decide +kernel
theorem d_MOD_sizeOf_26 : decode b_MOD_sizeOf 26 = .ok (.iload_n 1, 1) := by decide +kernel
theorem d_MOD_sizeOf_27 : decode b_MOD_sizeOf 27 = .ok (.ifCond .le 7, 3) := by decide +kernel
theorem d_MOD_sizeOf_30 : decode b_MOD_sizeOf 30 = .ok (.iconst 2, 1) := by decide +kernel
theorem d_MOD_sizeOf_31 : decode b_MOD_sizeOf 31 = .ok (.goto 4, 3) := by decide +kernel
theorem d_MOD_sizeOf_34 : decode b_MOD_sizeOf 34 = .ok (.iconst 0, 1) := by decide +kernel
theorem d_MOD_sizeOf_35 : decode b_MOD_sizeOf 35 = .ok (.i2l, 1) := by decide +kernel
theorem d_MOD_sizeOf_36 : decode b_MOD_sizeOf 36 = .ok (.ladd, 1) := by decide +kernel
theorem d_MOD_sizeOf_37 : decode b_MOD_sizeOf 37 = .ok (.lreturn, 1) := by decide +kernel
theorem d_MOD_sizeOf_38 : decode b_MOD_sizeOf 38 = .ok (.iload_n 0, 1) := by decide +kernel
theorem d_MOD_sizeOf_39 : decode b_MOD_sizeOf 39 = .ok (.bipush 7, 2) := by decide +kernel
theorem d_MOD_sizeOf_41 : decode b_MOD_sizeOf 41 = .ok (.if_icmp .ge 5, 3) := by decide +kernel
theorem d_MOD_sizeOf_44 : decode b_MOD_sizeOf 44 = .ok (.lconst 1, 1) := by decide +kernel
theorem d_MOD_sizeOf_45 : decode b_MOD_sizeOf 45 = .ok (.lreturn, 1) := by decide +kernel
theorem d_MOD_sizeOf_46 : decode b_MOD_sizeOf 46 = .ok (.iload_n 2, 1) := by decide +kernel
theorem d_MOD_sizeOf_47 : decode b_MOD_sizeOf 47 = .ok (.iconst (-1), 1) := by decide +kernel
theorem d_MOD_sizeOf_48 : decode b_MOD_sizeOf 48 = .ok (.if_icmp .ne 12, 3) := by decide +kernel
theorem d_MOD_sizeOf_51 : decode b_MOD_sizeOf 51 = .ok (.iload_n 1, 1) := by decide +kernel
theorem d_MOD_sizeOf_52 : decode b_MOD_sizeOf 52 = .ok (.i2l, 1) := by decide +kernel
theorem d_MOD_sizeOf_53 : decode b_MOD_sizeOf 53 = .ok (.lload_n 3, 1) := by decide +kernel
theorem d_MOD_sizeOf_54 : decode b_MOD_sizeOf 54 = .ok (.lmul, 1) := by decide +kernel
theorem d_MOD_sizeOf_55 : decode b_MOD_sizeOf 55 = .ok (.lload_n 3, 1) := by decide +kernel
theorem d_MOD_sizeOf_56 : decode b_MOD_sizeOf 56 = .ok (.ladd, 1) := by decide +kernel
theorem d_MOD_sizeOf_57 : decode b_MOD_sizeOf 57 = .ok (.lconst 1, 1) := by decide +kernel
theorem d_MOD_sizeOf_58 : decode b_MOD_sizeOf 58 = .ok (.ladd, 1) := by decide +kernel
theorem d_MOD_sizeOf_59 : decode b_MOD_sizeOf 59 = .ok (.lreturn, 1) := by decide +kernel
theorem d_MOD_sizeOf_60 : decode b_MOD_sizeOf 60 = .ok (.iload_n 2, 1) := by decide +kernel
theorem d_MOD_sizeOf_61 : decode b_MOD_sizeOf 61 = .ok (.i2l, 1) := by decide +kernel
theorem d_MOD_sizeOf_62 : decode b_MOD_sizeOf 62 = .ok (.lload_n 3, 1) := by decide +kernel
theorem d_MOD_sizeOf_63 : decode b_MOD_sizeOf 63 = .ok (.lmul, 1) := by decide +kernel
theorem d_MOD_sizeOf_64 : decode b_MOD_sizeOf 64 = .ok (.iload_n 2, 1) := by decide +kernel
theorem d_MOD_sizeOf_65 : decode b_MOD_sizeOf 65 = .ok (.i2l, 1) := by decide +kernel
theorem d_MOD_sizeOf_66 : decode b_MOD_sizeOf 66 = .ok (.ladd, 1) := by decide +kernel
theorem d_MOD_sizeOf_67 : decode b_MOD_sizeOf 67 = .ok (.iload_n 1, 1) := by decide +kernel
theorem d_MOD_sizeOf_68 : decode b_MOD_sizeOf 68 = .ok (.i2l, 1) := by decide +kernel
theorem d_MOD_sizeOf_69 : decode b_MOD_sizeOf 69 = .ok (.lsub, 1) := by decide +kernel
theorem d_MOD_sizeOf_70 : decode b_MOD_sizeOf 70 = .ok (.lreturn, 1) := by decide +kernel
theorem d_MOD_make_0 : decode b_MOD_make 0 = .ok (.aload_n 0, 1) := by decide +kernel
theorem d_MOD_make_1 : decode b_MOD_make 1 = .ok (.getfield 20, 3) := by decide +kernel
theorem d_MOD_make_4 : decode b_MOD_make 4 = .ok (.aload_n 0, 1) := by decide +kernel
theorem d_MOD_make_5 : decode b_MOD_make 5 = .ok (.getfield 135, 3) := by decide +kernel
theorem d_MOD_make_8 : decode b_MOD_make 8 = .ok (.iload_n 1, 1) := by decide +kernel
theorem d_MOD_make_9 : decode b_MOD_make 9 = .ok (.iastore, 1) := by decide +kernel
theorem d_MOD_make_10 : decode b_MOD_make 10 = .ok (.aload_n 0, 1) := by decide +kernel
theorem d_MOD_make_11 : decode b_MOD_make 11 = .ok (.getfield 23, 3) := by decide +kernel
theorem d_MOD_make_14 : decode b_MOD_make 14 = .ok (.aload_n 0, 1) := by decide +kernel
theorem d_MOD_make_15 : decode b_MOD_make 15 = .ok (.getfield 135, 3) := by decide +kernel
theorem d_MOD_make_18 : decode b_MOD_make 18 = .ok (.iload_n 2, 1) := by decide +kernel
theorem d_MOD_make_19 : decode b_MOD_make 19 = .ok (.iastore, 1) := by decide +kernel
theorem d_MOD_make_20 : decode b_MOD_make 20 = .ok (.aload_n 0, 1) := by decide +kernel
theorem d_MOD_make_21 : decode b_MOD_make 21 = .ok (.getfield 26, 3) := by decide +kernel
theorem d_MOD_make_24 : decode b_MOD_make 24 = .ok (.aload_n 0, 1) := by decide +kernel
theorem d_MOD_make_25 : decode b_MOD_make 25 = .ok (.getfield 135, 3) := by decide +kernel
theorem d_MOD_make_28 : decode b_MOD_make 28 = .ok (.iload_n 3, 1) := by decide +kernel
theorem d_MOD_make_29 : decode b_MOD_make 29 = .ok (.iastore, 1) := by decide +kernel
theorem d_MOD_make_30 : decode b_MOD_make 30 = .ok (.aload_n 0, 1) := by decide +kernel
theorem d_MOD_make_31 : decode b_MOD_make 31 = .ok (.getfield 35, 3) := by decide +kernel
theorem d_MOD_make_34 : decode b_MOD_make 34 = .ok (.aload_n 0, 1) := by decide +kernel
theorem d_MOD_make_35 : decode b_MOD_make 35 = .ok (.getfield 135, 3) := by decide +kernel
theorem d_MOD_make_38 : decode b_MOD_make 38 = .ok (.iconst (-1), 1) := by decide +kernel
theorem d_MOD_make_39 : decode b_MOD_make 39 = .ok (.iastore, 1) := by decide +kernel
theorem d_MOD_make_40 : decode b_MOD_make 40 = .ok (.aload_n 0, 1) := by decide +kernel
theorem d_MOD_make_41 : decode b_MOD_make 41 = .ok (.getfield 38, 3) := by decide +kernel
theorem d_MOD_make_44 : decode b_MOD_make 44 = .ok (.aload_n 0, 1) := by decide +kernel
theorem d_MOD_make_45 : decode b_MOD_make 45 = .ok (.getfield 135, 3) := by decide +kernel
theorem d_MOD_make_48 : decode b_MOD_make 48 = .ok (.aload_n 0, 1) := by decide +kernel
theorem d_MOD_make_49 : decode b_MOD_make 49 = .ok (.getfield 121, 3) := by decide +kernel
theorem d_MOD_make_52 : decode b_MOD_make 52 = .ok (.iastore, 1) := by decide +kernel
theorem d_MOD_make_53 : decode b_MOD_make 53 = .ok (.aload_n 0, 1) := by decide +kernel
theorem d_MOD_make_54 : decode b_MOD_make 54 = .ok (.getfield 41, 3) := by decide +kernel
theorem d_MOD_make_57 : decode b_MOD_make 57 = .ok (.aload_n 0, 1) := by decide +kernel
theorem d_MOD_make_58 : decode b_MOD_make 58 = .ok (.getfield 135, 3) := by decide +kernel
theorem d_MOD_make_61 : decode b_MOD_make 61 = .ok (.iconst 0, 1) := by decide +kernel
theorem d_MOD_make_62 : decode b_MOD_make 62 = .ok (.iastore, 1) := by decide +kernel
theorem d_MOD_make_63 : decode b_MOD_make 63 = .ok (.lconst 0, 1) := by decide +kernel
theorem d_MOD_make_64 : decode b_MOD_make 64 = .ok (.lstore 5, 2) := by decide +kernel
theorem d_MOD_make_66 : decode b_MOD_make 66 = .ok (.aload_n 0, 1) := by decide +kernel
theorem d_MOD_make_67 : decode b_MOD_make 67 = .ok (.getfield 135, 3) := by decide +kernel
theorem d_MOD_make_70 : decode b_MOD_make 70 = .ok (.iconst 1, 1) := by decide +kernel
theorem d_MOD_make_71 : decode b_MOD_make 71 = .ok (.isub, 1) := by decide +kernel
theorem d_MOD_make_72 : decode b_MOD_make 72 = .ok (.istore 7, 2) := by decide +kernel
theorem d_MOD_make_74 : decode b_MOD_make 74 = .ok (.iconst 0, 1) := by decide +kernel
theorem d_MOD_make_75 : decode b_MOD_make 75 = .ok (.istore 8, 2) := by decide +kernel
theorem d_MOD_make_77 : decode b_MOD_make 77 = .ok (.iload 8, 2) := by decide +kernel
theorem d_MOD_make_79 : decode b_MOD_make 79 = .ok (.iload 4, 2) := by decide +kernel
theorem d_MOD_make_81 : decode b_MOD_make 81 = .ok (.if_icmp .ge 45, 3) := by decide +kernel
theorem d_MOD_make_84 : decode b_MOD_make 84 = .ok (.aload_n 0, 1) := by decide +kernel
theorem d_MOD_make_85 : decode b_MOD_make 85 = .ok (.getfield 35, 3) := by decide +kernel
theorem d_MOD_make_88 : decode b_MOD_make 88 = .ok (.iload 7, 2) := by decide +kernel
theorem d_MOD_make_90 : decode b_MOD_make 90 = .ok (.aload_n 0, 1) := by decide +kernel
theorem d_MOD_make_91 : decode b_MOD_make 91 = .ok (.getfield 135, 3) := by decide +kernel
theorem d_MOD_make_94 : decode b_MOD_make 94 = .ok (.iastore, 1) := by decide +kernel
theorem d_MOD_make_95 : decode b_MOD_make 95 = .ok (.lload 5, 2) := by decide +kernel
theorem d_MOD_make_97 : decode b_MOD_make 97 = .ok (.aload_n 0, 1) := by decide +kernel
theorem d_MOD_make_98 : decode b_MOD_make 98 = .ok (.getfield 32, 3) := by decide +kernel
theorem d_MOD_make_101 : decode b_MOD_make 101 = .ok (.iload 7, 2) := by decide +kernel
theorem d_MOD_make_103 : decode b_MOD_make 103 = .ok (.iaload, 1) := by decide +kernel
theorem d_MOD_make_104 : decode b_MOD_make 104 = .ok (.i2l, 1) := by decide +kernel
theorem d_MOD_make_105 : decode b_MOD_make 105 = .ok (.ladd, 1) := by decide +kernel
theorem d_MOD_make_106 : decode b_MOD_make 106 = .ok (.lstore 5, 2) := by decide +kernel
theorem d_MOD_make_108 : decode b_MOD_make 108 = .ok (.iload 7, 2) := by decide +kernel
theorem d_MOD_make_110 : decode b_MOD_make 110 = .ok (.aload_n 0, 1) := by decide +kernel
theorem d_MOD_make_111 : decode b_MOD_make 111 = .ok (.getfield 29, 3) := by decide +kernel
theorem d_MOD_make_114 : decode b_MOD_make 114 = .ok (.iload 7, 2) := by decide +kernel
theorem d_MOD_make_116 : decode b_MOD_make 116 = .ok (.iaload, 1) := by decide +kernel
theorem d_MOD_make_117 : decode b_MOD_make 117 = .ok (.isub, 1) := by decide +kernel
theorem d_MOD_make_118 : decode b_MOD_make 118 = .ok (.istore 7, 2) := by decide +kernel
theorem d_MOD_make_120 : decode b_MOD_make 120 = .ok (.iinc 8 1, 3) := by decide +kernel
theorem d_MOD_make_123 : decode b_MOD_make 123 = .ok (.goto (-46), 3) := by decide +kernel
theorem d_MOD_make_126 : decode b_MOD_make 126 = .ok (.aload_n 0, 1) := by decide +kernel
theorem d_MOD_make_127 : decode b_MOD_make 127 = .ok (.getfield 29, 3) := by decide +kernel
theorem d_MOD_make_130 : decode b_MOD_make 130 = .ok (.aload_n 0, 1) := by decide +kernel
theorem d_MOD_make_131 : decode b_MOD_make 131 = .ok (.getfield 135, 3) := by decide +kernel
theorem d_MOD_make_134 : decode b_MOD_make 134 = .ok (.aload_n 0, 1) := by decide +kernel
theorem d_MOD_make_135 : decode b_MOD_make 135 = .ok (.getfield 135, 3) := by decide +kernel
theorem d_MOD_make_138 : decode b_MOD_make 138 = .ok (.iload 7, 2) := by decide +kernel
theorem d_MOD_make_140 : decode b_MOD_make 140 = .ok (.isub, 1) := by decide +kernel
theorem d_MOD_make_141 : decode b_MOD_make 141 = .ok (.iastore, 1) := by decide +kernel
theorem d_MOD_make_142 : decode b_MOD_make 142 = .ok (.aload_n 0, 1) := by decide +kernel
theorem d_MOD_make_143 : decode b_MOD_make 143 = .ok (.getfield 32, 3) := by decide +kernel
theorem d_MOD_make_146 : decode b_MOD_make 146 = .ok (.aload_n 0, 1) := by decide +kernel
theorem d_MOD_make_147 : decode b_MOD_make 147 = .ok (.getfield 135, 3) := by decide +kernel
theorem d_MOD_make_150 : decode b_MOD_make 150 = .ok (.iload_n 1, 1) := by decide +kernel
theorem d_MOD_make_151 : decode b_MOD_make 151 = .ok (.iload_n 2, 1) := by decide +kernel
theorem d_MOD_make_152 : decode b_MOD_make 152 = .ok (.iload_n 3, 1) := by decide +kernel
theorem d_MOD_make_153 : decode b_MOD_make 153 = .ok (.lload 5, 2) := by decide +kernel
theorem d_MOD_make_155 : decode b_MOD_make 155 = .ok (.invokestatic 138, 3) := by decide +kernel
theorem d_MOD_make_158 : decode b_MOD_make 158 = .ok (.invokestatic 142, 3) := by decide +kernel
theorem d_MOD_make_161 : decode b_MOD_make 161 = .ok (.iastore, 1) := by decide +kernel
theorem d_MOD_make_162 : decode b_MOD_make 162 = .ok (.aload_n 0, 1) := by decide +kernel
theorem d_MOD_make_163 : decode b_MOD_make 163 = .ok (.dup, 1) := by decide +kernel
theorem d_MOD_make_164 : decode b_MOD_make 164 = .ok (.getfield 135, 3) := by decide +kernel
theorem d_MOD_make_167 : decode b_MOD_make 167 = .ok (.iconst 1, 1) := by decide +kernel
theorem d_MOD_make_168 : decode b_MOD_make 168 = .ok (.iadd, 1) := by decide +kernel
theorem d_MOD_make_169 : decode b_MOD_make 169 = .ok (.putfield 135, 3) := by decide +kernel
theorem d_MOD_make_172 : decode b_MOD_make 172 = .ok (.return_, 1) := by decide +kernel
theorem d_MOD_part_0 : decode b_MOD_part 0 = .ok (.aload_n 0, 1) := by decide +kernel
theorem d_MOD_part_1 : decode b_MOD_part 1 = .ok (.getfield 68, 3) := by decide +kernel
theorem d_MOD_part_4 : decode b_MOD_part 4 = .ok (.aload_n 0, 1) := by decide +kernel
theorem d_MOD_part_5 : decode b_MOD_part 5 = .ok (.getfield 146, 3) := by decide +kernel
theorem d_MOD_part_8 : decode b_MOD_part 8 = .ok (.dup2, 1) := by decide +kernel
theorem d_MOD_part_9 : decode b_MOD_part 9 = .ok (.iaload, 1) := by decide +kernel
theorem d_MOD_part_10 : decode b_MOD_part 10 = .ok (.iconst 1, 1) := by decide +kernel
theorem d_MOD_part_11 : decode b_MOD_part 11 = .ok (.iadd, 1) := by decide +kernel
theorem d_MOD_part_12 : decode b_MOD_part 12 = .ok (.iastore, 1) := by decide +kernel
theorem d_MOD_part_13 : decode b_MOD_part 13 = .ok (.aload_n 0, 1) := by decide +kernel
theorem d_MOD_part_14 : decode b_MOD_part 14 = .ok (.iconst 1, 1) := by decide +kernel
theorem d_MOD_part_15 : decode b_MOD_part 15 = .ok (.putfield 149, 3) := by decide +kernel
theorem d_MOD_part_18 : decode b_MOD_part 18 = .ok (.return_, 1) := by decide +kernel
theorem d_MOD_classNode_0 : decode b_MOD_classNode 0 = .ok (.aload_n 0, 1) := by decide +kernel
theorem d_MOD_classNode_1 : decode b_MOD_classNode 1 = .ok (.getfield 121, 3) := by decide +kernel
theorem d_MOD_classNode_4 : decode b_MOD_classNode 4 = .ok (.istore_n 1, 1) := by decide +kernel
theorem d_MOD_classNode_5 : decode b_MOD_classNode 5 = .ok (.aload_n 0, 1) := by decide +kernel
theorem d_MOD_classNode_6 : decode b_MOD_classNode 6 = .ok (.invokevirtual 153, 3) := by decide +kernel
theorem d_MOD_classNode_9 : decode b_MOD_classNode 9 = .ok (.istore_n 2, 1) := by decide +kernel
theorem d_MOD_classNode_10 : decode b_MOD_classNode 10 = .ok (.aload_n 0, 1) := by decide +kernel
theorem d_MOD_classNode_11 : decode b_MOD_classNode 11 = .ok (.iconst 1, 1) := by decide +kernel
theorem d_MOD_classNode_12 : decode b_MOD_classNode 12 = .ok (.iconst (-1), 1) := by decide +kernel
theorem d_MOD_classNode_13 : decode b_MOD_classNode 13 = .ok (.iconst (-1), 1) := by decide +kernel
theorem d_MOD_classNode_14 : decode b_MOD_classNode 14 = .ok (.iconst 0, 1) := by decide +kernel
theorem d_MOD_classNode_15 : decode b_MOD_classNode 15 = .ok (.invokevirtual 157, 3) := by decide +kernel
theorem d_MOD_classNode_18 : decode b_MOD_classNode 18 = .ok (.aload_n 0, 1) := by decide +kernel
theorem d_MOD_classNode_19 : decode b_MOD_classNode 19 = .ok (.getfield 38, 3) := by decide +kernel
theorem d_MOD_classNode_22 : decode b_MOD_classNode 22 = .ok (.aload_n 0, 1) := by decide +kernel
theorem d_MOD_classNode_23 : decode b_MOD_classNode 23 = .ok (.getfield 135, 3) := by decide +kernel
theorem d_MOD_classNode_26 : decode b_MOD_classNode 26 = .ok (.iconst 1, 1) := by decide +kernel
theorem d_MOD_classNode_27 : decode b_MOD_classNode 27 = .ok (.isub, 1) := by decide +kernel
theorem d_MOD_classNode_28 : decode b_MOD_classNode 28 = .ok (.iload_n 1, 1) := by decide +kernel
theorem d_MOD_classNode_29 : decode b_MOD_classNode 29 = .ok (.iastore, 1) := by decide +kernel
theorem d_MOD_classNode_30 : decode b_MOD_classNode 30 = .ok (.aload_n 0, 1) := by decide +kernel
theorem d_MOD_classNode_31 : decode b_MOD_classNode 31 = .ok (.getfield 41, 3) := by decide +kernel
theorem d_MOD_classNode_34 : decode b_MOD_classNode 34 = .ok (.aload_n 0, 1) := by decide +kernel
theorem d_MOD_classNode_35 : decode b_MOD_classNode 35 = .ok (.getfield 135, 3) := by decide +kernel
theorem d_MOD_classNode_38 : decode b_MOD_classNode 38 = .ok (.iconst 1, 1) := by decide +kernel
theorem d_MOD_classNode_39 : decode b_MOD_classNode 39 = .ok (.isub, 1) := by decide +kernel
theorem d_MOD_classNode_40 : decode b_MOD_classNode 40 = .ok (.iload_n 2, 1) := by decide +kernel
theorem d_MOD_classNode_41 : decode b_MOD_classNode 41 = .ok (.iastore, 1) := by decide +kernel
theorem d_MOD_classNode_42 : decode b_MOD_classNode 42 = .ok (.aload_n 0, 1) := by decide +kernel
theorem d_MOD_classNode_43 : decode b_MOD_classNode 43 = .ok (.getfield 32, 3) := by decide +kernel
theorem d_MOD_classNode_46 : decode b_MOD_classNode 46 = .ok (.aload_n 0, 1) := by decide +kernel
theorem d_MOD_classNode_47 : decode b_MOD_classNode 47 = .ok (.getfield 135, 3) := by decide +kernel
theorem d_MOD_classNode_50 : decode b_MOD_classNode 50 = .ok (.iconst 1, 1) := by decide +kernel
theorem d_MOD_classNode_51 : decode b_MOD_classNode 51 = .ok (.isub, 1) := by decide +kernel
theorem d_MOD_classNode_52 : decode b_MOD_classNode 52 = .ok (.iconst 2, 1) := by decide +kernel
theorem d_MOD_classNode_53 : decode b_MOD_classNode 53 = .ok (.iconst 4, 1) := by decide +kernel
theorem d_MOD_classNode_54 : decode b_MOD_classNode 54 = .ok (.iload_n 2, 1) := by decide +kernel
theorem d_MOD_classNode_55 : decode b_MOD_classNode 55 = .ok (.imul, 1) := by decide +kernel
theorem d_MOD_classNode_56 : decode b_MOD_classNode 56 = .ok (.iadd, 1) := by decide +kernel
theorem d_MOD_classNode_57 : decode b_MOD_classNode 57 = .ok (.iastore, 1) := by decide +kernel
theorem d_MOD_classNode_58 : decode b_MOD_classNode 58 = .ok (.aload_n 0, 1) := by decide +kernel
theorem d_MOD_classNode_59 : decode b_MOD_classNode 59 = .ok (.invokevirtual 161, 3) := by decide +kernel
theorem d_MOD_classNode_62 : decode b_MOD_classNode 62 = .ok (.return_, 1) := by decide +kernel
theorem d_MOD_character_0 : decode b_MOD_character 0 = .ok (.aload_n 0, 1) := by decide +kernel
theorem d_MOD_character_1 : decode b_MOD_character 1 = .ok (.iconst 0, 1) := by decide +kernel
theorem d_MOD_character_2 : decode b_MOD_character 2 = .ok (.invokevirtual 103, 3) := by decide +kernel
theorem d_MOD_character_5 : decode b_MOD_character 5 = .ok (.aload_n 0, 1) := by decide +kernel
theorem d_MOD_character_6 : decode b_MOD_character 6 = .ok (.iload_n 1, 1) := by decide +kernel
theorem d_MOD_character_7 : decode b_MOD_character 7 = .ok (.iload_n 1, 1) := by decide +kernel
theorem d_MOD_character_8 : decode b_MOD_character 8 = .ok (.invokevirtual 164, 3) := by decide +kernel
theorem d_MOD_character_11 : decode b_MOD_character 11 = .ok (.aload_n 0, 1) := by decide +kernel
theorem d_MOD_character_12 : decode b_MOD_character 12 = .ok (.getfield 77, 3) := by decide +kernel
theorem d_MOD_character_15 : decode b_MOD_character 15 = .ok (.iconst 0, 1) := by decide +kernel
theorem d_MOD_character_16 : decode b_MOD_character 16 = .ok (.iaload, 1) := by decide +kernel
theorem d_MOD_character_17 : decode b_MOD_character 17 = .ok (.iconst 1, 1) := by decide +kernel
theorem d_MOD_character_18 : decode b_MOD_character 18 = .ok (.if_icmp .gt 18, 3) := by decide +kernel
theorem d_MOD_character_21 : decode b_MOD_character 21 = .ok (.aload_n 0, 1) := by decide +kernel
theorem d_MOD_character_22 : decode b_MOD_character 22 = .ok (.getfield 71, 3) := by decide +kernel
theorem d_MOD_character_25 : decode b_MOD_character 25 = .ok (.iconst 0, 1) := by decide +kernel
theorem d_MOD_character_26 : decode b_MOD_character 26 = .ok (.iaload, 1) := by decide +kernel
theorem d_MOD_character_27 : decode b_MOD_character 27 = .ok (.aload_n 0, 1) := by decide +kernel
theorem d_MOD_character_28 : decode b_MOD_character 28 = .ok (.getfield 74, 3) := by decide +kernel
theorem d_MOD_character_31 : decode b_MOD_character 31 = .ok (.iconst 0, 1) := by decide +kernel
theorem d_MOD_character_32 : decode b_MOD_character 32 = .ok (.iaload, 1) := by decide +kernel
theorem d_MOD_character_33 : decode b_MOD_character 33 = .ok (.if_icmp .eq 8, 3) := by decide +kernel
theorem d_MOD_character_36 : decode b_MOD_character 36 = .ok (.aload_n 0, 1) := by decide +kernel
theorem d_MOD_character_37 : decode b_MOD_character 37 = .ok (.invokevirtual 167, 3) := by decide +kernel
theorem d_MOD_character_40 : decode b_MOD_character 40 = .ok (.return_, 1) := by decide +kernel
theorem d_MOD_character_41 : decode b_MOD_character 41 = .ok (.aload_n 0, 1) := by decide +kernel
theorem d_MOD_character_42 : decode b_MOD_character 42 = .ok (.iconst 0, 1) := by decide +kernel
theorem d_MOD_character_43 : decode b_MOD_character 43 = .ok (.iload_n 1, 1) := by decide +kernel
theorem d_MOD_character_44 : decode b_MOD_character 44 = .ok (.iconst (-1), 1) := by decide +kernel
theorem d_MOD_character_45 : decode b_MOD_character 45 = .ok (.iconst 0, 1) := by decide +kernel
theorem d_MOD_character_46 : decode b_MOD_character 46 = .ok (.invokevirtual 157, 3) := by decide +kernel
theorem d_MOD_character_49 : decode b_MOD_character 49 = .ok (.aload_n 0, 1) := by decide +kernel
theorem d_MOD_character_50 : decode b_MOD_character 50 = .ok (.invokevirtual 161, 3) := by decide +kernel
theorem d_MOD_character_53 : decode b_MOD_character 53 = .ok (.return_, 1) := by decide +kernel
theorem d_MOD_assertion_0 : decode b_MOD_assertion 0 = .ok (.aload_n 0, 1) := by decide +kernel
theorem d_MOD_assertion_1 : decode b_MOD_assertion 1 = .ok (.iconst 3, 1) := by decide +kernel
theorem d_MOD_assertion_2 : decode b_MOD_assertion 2 = .ok (.iload_n 1, 1) := by decide +kernel
theorem d_MOD_assertion_3 : decode b_MOD_assertion 3 = .ok (.iconst (-1), 1) := by decide +kernel
theorem d_MOD_assertion_4 : decode b_MOD_assertion 4 = .ok (.iconst 0, 1) := by decide +kernel
theorem d_MOD_assertion_5 : decode b_MOD_assertion 5 = .ok (.invokevirtual 157, 3) := by decide +kernel
theorem d_MOD_assertion_8 : decode b_MOD_assertion 8 = .ok (.aload_n 0, 1) := by decide +kernel
theorem d_MOD_assertion_9 : decode b_MOD_assertion 9 = .ok (.invokevirtual 161, 3) := by decide +kernel
theorem d_MOD_assertion_12 : decode b_MOD_assertion 12 = .ok (.return_, 1) := by decide +kernel
theorem d_MOD_endRow_0 : decode b_MOD_endRow 0 = .ok (.aload_n 0, 1) := by decide +kernel
theorem d_MOD_endRow_1 : decode b_MOD_endRow 1 = .ok (.iconst 4, 1) := by decide +kernel
theorem d_MOD_endRow_2 : decode b_MOD_endRow 2 = .ok (.aload_n 0, 1) := by decide +kernel
theorem d_MOD_endRow_3 : decode b_MOD_endRow 3 = .ok (.getfield 68, 3) := by decide +kernel
theorem d_MOD_endRow_6 : decode b_MOD_endRow 6 = .ok (.aload_n 0, 1) := by decide +kernel
theorem d_MOD_endRow_7 : decode b_MOD_endRow 7 = .ok (.getfield 146, 3) := by decide +kernel
theorem d_MOD_endRow_10 : decode b_MOD_endRow 10 = .ok (.iaload, 1) := by decide +kernel
theorem d_MOD_endRow_11 : decode b_MOD_endRow 11 = .ok (.iconst (-1), 1) := by decide +kernel
theorem d_MOD_endRow_12 : decode b_MOD_endRow 12 = .ok (.aload_n 0, 1) := by decide +kernel
theorem d_MOD_endRow_13 : decode b_MOD_endRow 13 = .ok (.getfield 68, 3) := by decide +kernel
theorem d_MOD_endRow_16 : decode b_MOD_endRow 16 = .ok (.aload_n 0, 1) := by decide +kernel
theorem d_MOD_endRow_17 : decode b_MOD_endRow 17 = .ok (.getfield 146, 3) := by decide +kernel
theorem d_MOD_endRow_20 : decode b_MOD_endRow 20 = .ok (.iaload, 1) := by decide +kernel
theorem d_MOD_endRow_21 : decode b_MOD_endRow 21 = .ok (.invokevirtual 157, 3) := by decide +kernel
theorem d_MOD_endRow_24 : decode b_MOD_endRow 24 = .ok (.aload_n 0, 1) := by decide +kernel
theorem d_MOD_endRow_25 : decode b_MOD_endRow 25 = .ok (.getfield 65, 3) := by decide +kernel
theorem d_MOD_endRow_28 : decode b_MOD_endRow 28 = .ok (.aload_n 0, 1) := by decide +kernel
theorem d_MOD_endRow_29 : decode b_MOD_endRow 29 = .ok (.getfield 146, 3) := by decide +kernel
theorem d_MOD_endRow_32 : decode b_MOD_endRow 32 = .ok (.dup2, 1) := by decide +kernel
theorem d_MOD_endRow_33 : decode b_MOD_endRow 33 = .ok (.iaload, 1) := by decide +kernel
theorem d_MOD_endRow_34 : decode b_MOD_endRow 34 = .ok (.iconst 1, 1) := by decide +kernel
theorem d_MOD_endRow_35 : decode b_MOD_endRow 35 = .ok (.iadd, 1) := by decide +kernel
theorem d_MOD_endRow_36 : decode b_MOD_endRow 36 = .ok (.iastore, 1) := by decide +kernel
theorem d_MOD_endRow_37 : decode b_MOD_endRow 37 = .ok (.aload_n 0, 1) := by decide +kernel
theorem d_MOD_endRow_38 : decode b_MOD_endRow 38 = .ok (.getfield 68, 3) := by decide +kernel
theorem d_MOD_endRow_41 : decode b_MOD_endRow 41 = .ok (.aload_n 0, 1) := by decide +kernel
theorem d_MOD_endRow_42 : decode b_MOD_endRow 42 = .ok (.getfield 146, 3) := by decide +kernel
theorem d_MOD_endRow_45 : decode b_MOD_endRow 45 = .ok (.iconst 0, 1) := by decide +kernel
theorem d_MOD_endRow_46 : decode b_MOD_endRow 46 = .ok (.iastore, 1) := by decide +kernel
theorem d_MOD_endRow_47 : decode b_MOD_endRow 47 = .ok (.aload_n 0, 1) := by decide +kernel
theorem d_MOD_endRow_48 : decode b_MOD_endRow 48 = .ok (.iconst 0, 1) := by decide +kernel
theorem d_MOD_endRow_49 : decode b_MOD_endRow 49 = .ok (.putfield 149, 3) := by decide +kernel
theorem d_MOD_endRow_52 : decode b_MOD_endRow 52 = .ok (.return_, 1) := by decide +kernel
theorem d_MOD_endAlternatives_0 : decode b_MOD_endAlternatives 0 = .ok (.aload_n 0, 1) := by decide +kernel
theorem d_MOD_endAlternatives_1 : decode b_MOD_endAlternatives 1 = .ok (.invokevirtual 170, 3) := by decide +kernel
theorem d_MOD_endAlternatives_4 : decode b_MOD_endAlternatives 4 = .ok (.aload_n 0, 1) := by decide +kernel
theorem d_MOD_endAlternatives_5 : decode b_MOD_endAlternatives 5 = .ok (.getfield 65, 3) := by decide +kernel
theorem d_MOD_endAlternatives_8 : decode b_MOD_endAlternatives 8 = .ok (.aload_n 0, 1) := by decide +kernel
theorem d_MOD_endAlternatives_9 : decode b_MOD_endAlternatives 9 = .ok (.getfield 146, 3) := by decide +kernel
theorem d_MOD_endAlternatives_12 : decode b_MOD_endAlternatives 12 = .ok (.iaload, 1) := by decide +kernel
theorem d_MOD_endAlternatives_13 : decode b_MOD_endAlternatives 13 = .ok (.iconst 1, 1) := by decide +kernel
theorem d_MOD_endAlternatives_14 : decode b_MOD_endAlternatives 14 = .ok (.if_icmp .le 27, 3) := by decide +kernel
theorem d_MOD_endAlternatives_17 : decode b_MOD_endAlternatives 17 = .ok (.aload_n 0, 1) := by decide +kernel
theorem d_MOD_endAlternatives_18 : decode b_MOD_endAlternatives 18 = .ok (.iconst 5, 1) := by decide +kernel
theorem d_MOD_endAlternatives_19 : decode b_MOD_endAlternatives 19 = .ok (.aload_n 0, 1) := by decide +kernel
theorem d_MOD_endAlternatives_20 : decode b_MOD_endAlternatives 20 = .ok (.getfield 65, 3) := by decide +kernel
theorem d_MOD_endAlternatives_23 : decode b_MOD_endAlternatives 23 = .ok (.aload_n 0, 1) := by decide +kernel
theorem d_MOD_endAlternatives_24 : decode b_MOD_endAlternatives 24 = .ok (.getfield 146, 3) := by decide +kernel
theorem d_MOD_endAlternatives_27 : decode b_MOD_endAlternatives 27 = .ok (.iaload, 1) := by decide +kernel
theorem d_MOD_endAlternatives_28 : decode b_MOD_endAlternatives 28 = .ok (.iconst (-1), 1) := by decide +kernel
theorem d_MOD_endAlternatives_29 : decode b_MOD_endAlternatives 29 = .ok (.aload_n 0, 1) := by decide +kernel
theorem d_MOD_endAlternatives_30 : decode b_MOD_endAlternatives 30 = .ok (.getfield 65, 3) := by decide +kernel
theorem d_MOD_endAlternatives_33 : decode b_MOD_endAlternatives 33 = .ok (.aload_n 0, 1) := by decide +kernel
theorem d_MOD_endAlternatives_34 : decode b_MOD_endAlternatives 34 = .ok (.getfield 146, 3) := by decide +kernel
theorem d_MOD_endAlternatives_37 : decode b_MOD_endAlternatives 37 = .ok (.iaload, 1) := by decide +kernel
theorem d_MOD_endAlternatives_38 : decode b_MOD_endAlternatives 38 = .ok (.invokevirtual 157, 3) := by decide +kernel
theorem d_MOD_endAlternatives_41 : decode b_MOD_endAlternatives 41 = .ok (.return_, 1) := by decide +kernel
theorem d_MOD_fail_0 : decode b_MOD_fail 0 = .ok (.aload_n 0, 1) := by decide +kernel
theorem d_MOD_fail_1 : decode b_MOD_fail 1 = .ok (.iload_n 1, 1) := by decide +kernel
theorem d_MOD_fail_2 : decode b_MOD_fail 2 = .ok (.putfield 173, 3) := by decide +kernel
theorem d_MOD_fail_5 : decode b_MOD_fail 5 = .ok (.aload_n 0, 1) := by decide +kernel
theorem d_MOD_fail_6 : decode b_MOD_fail 6 = .ok (.iload_n 2, 1) := by decide +kernel
theorem d_MOD_fail_7 : decode b_MOD_fail 7 = .ok (.putfield 16, 3) := by decide +kernel
theorem d_MOD_fail_10 : decode b_MOD_fail 10 = .ok (.return_, 1) := by decide +kernel
theorem d_MOD_byteAt_0 : decode b_MOD_byteAt 0 = .ok (.iload_n 1, 1) := by decide +kernel
theorem d_MOD_byteAt_1 : decode b_MOD_byteAt 1 = .ok (.aload_n 0, 1) := by decide +kernel
theorem d_MOD_byteAt_2 : decode b_MOD_byteAt 2 = .ok (.getfield 176, 3) := by decide +kernel
theorem d_MOD_byteAt_5 : decode b_MOD_byteAt 5 = .ok (.if_icmp .ge 12, 3) := by decide +kernel
theorem d_MOD_byteAt_8 : decode b_MOD_byteAt 8 = .ok (.aload_n 0, 1) := by decide +kernel
theorem d_MOD_byteAt_9 : decode b_MOD_byteAt 9 = .ok (.getfield 13, 3) := by decide +kernel
theorem d_MOD_byteAt_12 : decode b_MOD_byteAt 12 = .ok (.iload_n 1, 1) := by decide +kernel
theorem d_MOD_byteAt_13 : decode b_MOD_byteAt 13 = .ok (.iaload, 1) := by decide +kernel
theorem d_MOD_byteAt_14 : decode b_MOD_byteAt 14 = .ok (.goto 4, 3) := by decide +kernel
theorem d_MOD_byteAt_17 : decode b_MOD_byteAt 17 = .ok (.iconst (-1), 1) := by decide +kernel
theorem d_MOD_byteAt_18 : decode b_MOD_byteAt 18 = .ok (.ireturn, 1) := by decide +kernel
theorem d_MOD_isLetter_0 : decode b_MOD_isLetter 0 = .ok (.iload_n 0, 1) := by decide +kernel
theorem d_MOD_isLetter_1 : decode b_MOD_isLetter 1 = .ok (.bipush 97, 2) := by decide +kernel
theorem d_MOD_isLetter_3 : decode b_MOD_isLetter 3 = .ok (.if_icmp .lt 9, 3) := by decide +kernel
theorem d_MOD_isLetter_6 : decode b_MOD_isLetter 6 = .ok (.iload_n 0, 1) := by decide +kernel
theorem d_MOD_isLetter_7 : decode b_MOD_isLetter 7 = .ok (.bipush 122, 2) := by decide +kernel
theorem d_MOD_isLetter_9 : decode b_MOD_isLetter 9 = .ok (.if_icmp .le 15, 3) := by decide +kernel
theorem d_MOD_isLetter_12 : decode b_MOD_isLetter 12 = .ok (.iload_n 0, 1) := by decide +kernel
theorem d_MOD_isLetter_13 : decode b_MOD_isLetter 13 = .ok (.bipush 65, 2) := by decide +kernel
theorem d_MOD_isLetter_15 : decode b_MOD_isLetter 15 = .ok (.if_icmp .lt 13, 3) := by decide +kernel
theorem d_MOD_isLetter_18 : decode b_MOD_isLetter 18 = .ok (.iload_n 0, 1) := by decide +kernel
theorem d_MOD_isLetter_19 : decode b_MOD_isLetter 19 = .ok (.bipush 90, 2) := by decide +kernel
theorem d_MOD_isLetter_21 : decode b_MOD_isLetter 21 = .ok (.if_icmp .gt 7, 3) := by decide +kernel
theorem d_MOD_isLetter_24 : decode b_MOD_isLetter 24 = .ok (.iconst 1, 1) := by decide +kernel
theorem d_MOD_isLetter_25 : decode b_MOD_isLetter 25 = .ok (.goto 4, 3) := by decide +kernel
theorem d_MOD_isLetter_28 : decode b_MOD_isLetter 28 = .ok (.iconst 0, 1) := by decide +kernel
theorem d_MOD_isLetter_29 : decode b_MOD_isLetter 29 = .ok (.ireturn, 1) := by decide +kernel
theorem d_MOD_isDigit_0 : decode b_MOD_isDigit 0 = .ok (.iload_n 0, 1) := by decide +kernel
theorem d_MOD_isDigit_1 : decode b_MOD_isDigit 1 = .ok (.bipush 48, 2) := by decide +kernel
theorem d_MOD_isDigit_3 : decode b_MOD_isDigit 3 = .ok (.if_icmp .lt 13, 3) := by decide +kernel
theorem d_MOD_isDigit_6 : decode b_MOD_isDigit 6 = .ok (.iload_n 0, 1) := by decide +kernel
theorem d_MOD_isDigit_7 : decode b_MOD_isDigit 7 = .ok (.bipush 57, 2) := by decide +kernel
theorem d_MOD_isDigit_9 : decode b_MOD_isDigit 9 = .ok (.if_icmp .gt 7, 3) := by decide +kernel
theorem d_MOD_isDigit_12 : decode b_MOD_isDigit 12 = .ok (.iconst 1, 1) := by decide +kernel
theorem d_MOD_isDigit_13 : decode b_MOD_isDigit 13 = .ok (.goto 4, 3) := by decide +kernel
theorem d_MOD_isDigit_16 : decode b_MOD_isDigit 16 = .ok (.iconst 0, 1) := by decide +kernel
theorem d_MOD_isDigit_17 : decode b_MOD_isDigit 17 = .ok (.ireturn, 1) := by decide +kernel
theorem d_MOD_hexadecimal_0 : decode b_MOD_hexadecimal 0 = .ok (.iload_n 0, 1) := by decide +kernel
theorem d_MOD_hexadecimal_1 : decode b_MOD_hexadecimal 1 = .ok (.invokestatic 179, 3) := by decide +kernel
theorem d_MOD_hexadecimal_4 : decode b_MOD_hexadecimal 4 = .ok (.ifCond .eq 10, 3) := by decide +kernel
theorem d_MOD_hexadecimal_7 : decode b_MOD_hexadecimal 7 = .ok (.iload_n 0, 1) := by decide +kernel
theorem d_MOD_hexadecimal_8 : decode b_MOD_hexadecimal 8 = .ok (.bipush 48, 2) := by decide +kernel
theorem d_MOD_hexadecimal_10 : decode b_MOD_hexadecimal 10 = .ok (.isub, 1) := by decide +kernel
theorem d_MOD_hexadecimal_11 : decode b_MOD_hexadecimal 11 = .ok (.goto 48, 3) := by decide +kernel
theorem d_MOD_hexadecimal_14 : decode b_MOD_hexadecimal 14 = .ok (.iload_n 0, 1) := by decide +kernel
theorem d_MOD_hexadecimal_15 : decode b_MOD_hexadecimal 15 = .ok (.bipush 97, 2) := by decide +kernel
theorem d_MOD_hexadecimal_17 : decode b_MOD_hexadecimal 17 = .ok (.if_icmp .lt 19, 3) := by decide +kernel
theorem d_MOD_hexadecimal_20 : decode b_MOD_hexadecimal 20 = .ok (.iload_n 0, 1) := by decide +kernel
theorem d_MOD_hexadecimal_21 : decode b_MOD_hexadecimal 21 = .ok (.bipush 102, 2) := by decide +kernel
theorem d_MOD_hexadecimal_23 : decode b_MOD_hexadecimal 23 = .ok (.if_icmp .gt 13, 3) := by decide +kernel
theorem d_MOD_hexadecimal_26 : decode b_MOD_hexadecimal 26 = .ok (.iload_n 0, 1) := by decide +kernel
theorem d_MOD_hexadecimal_27 : decode b_MOD_hexadecimal 27 = .ok (.bipush 97, 2) := by decide +kernel
theorem d_MOD_hexadecimal_29 : decode b_MOD_hexadecimal 29 = .ok (.isub, 1) := by decide +kernel
theorem d_MOD_hexadecimal_30 : decode b_MOD_hexadecimal 30 = .ok (.bipush 10, 2) := by decide +kernel
theorem d_MOD_hexadecimal_32 : decode b_MOD_hexadecimal 32 = .ok (.iadd, 1) := by decide +kernel
theorem d_MOD_hexadecimal_33 : decode b_MOD_hexadecimal 33 = .ok (.goto 26, 3) := by decide +kernel
theorem d_MOD_hexadecimal_36 : decode b_MOD_hexadecimal 36 = .ok (.iload_n 0, 1) := by decide +kernel
theorem d_MOD_hexadecimal_37 : decode b_MOD_hexadecimal 37 = .ok (.bipush 65, 2) := by decide +kernel
theorem d_MOD_hexadecimal_39 : decode b_MOD_hexadecimal 39 = .ok (.if_icmp .lt 19, 3) := by decide +kernel
theorem d_MOD_hexadecimal_42 : decode b_MOD_hexadecimal 42 = .ok (.iload_n 0, 1) := by decide +kernel
theorem d_MOD_hexadecimal_43 : decode b_MOD_hexadecimal 43 = .ok (.bipush 70, 2) := by decide +kernel
theorem d_MOD_hexadecimal_45 : decode b_MOD_hexadecimal 45 = .ok (.if_icmp .gt 13, 3) := by decide +kernel
theorem d_MOD_hexadecimal_48 : decode b_MOD_hexadecimal 48 = .ok (.iload_n 0, 1) := by decide +kernel
theorem d_MOD_hexadecimal_49 : decode b_MOD_hexadecimal 49 = .ok (.bipush 65, 2) := by decide +kernel
theorem d_MOD_hexadecimal_51 : decode b_MOD_hexadecimal 51 = .ok (.isub, 1) := by decide +kernel
theorem d_MOD_hexadecimal_52 : decode b_MOD_hexadecimal 52 = .ok (.bipush 10, 2) := by decide +kernel
theorem d_MOD_hexadecimal_54 : decode b_MOD_hexadecimal 54 = .ok (.iadd, 1) := by decide +kernel
theorem d_MOD_hexadecimal_55 : decode b_MOD_hexadecimal 55 = .ok (.goto 4, 3) := by decide +kernel
theorem d_MOD_hexadecimal_58 : decode b_MOD_hexadecimal 58 = .ok (.iconst (-1), 1) := by decide +kernel
theorem d_MOD_hexadecimal_59 : decode b_MOD_hexadecimal 59 = .ok (.ireturn, 1) := by decide +kernel
theorem d_MOD_isMore_0 : decode b_MOD_isMore 0 = .ok (.aload_n 0, 1) := by decide +kernel
theorem d_MOD_isMore_1 : decode b_MOD_isMore 1 = .ok (.iload_n 1, 1) := by decide +kernel
theorem d_MOD_isMore_2 : decode b_MOD_isMore 2 = .ok (.invokevirtual 183, 3) := by decide +kernel
theorem d_MOD_isMore_5 : decode b_MOD_isMore 5 = .ok (.sipush 128, 3) := by decide +kernel
theorem d_MOD_isMore_8 : decode b_MOD_isMore 8 = .ok (.if_icmp .lt 18, 3) := by decide +kernel
theorem d_MOD_isMore_11 : decode b_MOD_isMore 11 = .ok (.aload_n 0, 1) := by decide +kernel
theorem d_MOD_isMore_12 : decode b_MOD_isMore 12 = .ok (.iload_n 1, 1) := by decide +kernel
theorem d_MOD_isMore_13 : decode b_MOD_isMore 13 = .ok (.invokevirtual 183, 3) := by decide +kernel
theorem d_MOD_isMore_16 : decode b_MOD_isMore 16 = .ok (.sipush 192, 3) := by decide +kernel
theorem d_MOD_isMore_19 : decode b_MOD_isMore 19 = .ok (.if_icmp .ge 7, 3) := by decide +kernel
theorem d_MOD_isMore_22 : decode b_MOD_isMore 22 = .ok (.iconst 1, 1) := by decide +kernel
theorem d_MOD_isMore_23 : decode b_MOD_isMore 23 = .ok (.goto 4, 3) := by decide +kernel
theorem d_MOD_isMore_26 : decode b_MOD_isMore 26 = .ok (.iconst 0, 1) := by decide +kernel
theorem d_MOD_isMore_27 : decode b_MOD_isMore 27 = .ok (.ireturn, 1) := by decide +kernel
theorem d_MOD_isCharacter_0 : decode b_MOD_isCharacter 0 = .ok (.iload_n 0, 1) := by decide +kernel
theorem d_MOD_isCharacter_1 : decode b_MOD_isCharacter 1 = .ok (.ldc 102, 2) := by decide +kernel
theorem d_MOD_isCharacter_3 : decode b_MOD_isCharacter 3 = .ok (.if_icmp .gt 19, 3) := by decide +kernel
theorem d_MOD_isCharacter_6 : decode b_MOD_isCharacter 6 = .ok (.iload_n 0, 1) := by decide +kernel
theorem d_MOD_isCharacter_7 : decode b_MOD_isCharacter 7 = .ok (.ldc 124, 2) := by decide +kernel
theorem d_MOD_isCharacter_9 : decode b_MOD_isCharacter 9 = .ok (.if_icmp .lt 9, 3) := by decide +kernel
theorem d_MOD_isCharacter_12 : decode b_MOD_isCharacter 12 = .ok (.iload_n 0, 1) := by decide +kernel
theorem d_MOD_isCharacter_13 : decode b_MOD_isCharacter 13 = .ok (.ldc 130, 2) := by decide +kernel
theorem d_MOD_isCharacter_15 : decode b_MOD_isCharacter 15 = .ok (.if_icmp .le 7, 3) := by decide +kernel
theorem d_MOD_isCharacter_18 : decode b_MOD_isCharacter 18 = .ok (.iconst 1, 1) := by decide +kernel
theorem d_MOD_isCharacter_19 : decode b_MOD_isCharacter 19 = .ok (.goto 4, 3) := by decide +kernel
theorem d_MOD_isCharacter_22 : decode b_MOD_isCharacter 22 = .ok (.iconst 0, 1) := by decide +kernel
theorem d_MOD_isCharacter_23 : decode b_MOD_isCharacter 23 = .ok (.ireturn, 1) := by decide +kernel
theorem d_MOD_characterAt_0 : decode b_MOD_characterAt 0 = .ok (.aload_n 0, 1) := by decide +kernel
theorem d_MOD_characterAt_1 : decode b_MOD_characterAt 1 = .ok (.iload_n 1, 1) := by decide +kernel
theorem d_MOD_characterAt_2 : decode b_MOD_characterAt 2 = .ok (.invokevirtual 183, 3) := by decide +kernel
theorem d_MOD_characterAt_5 : decode b_MOD_characterAt 5 = .ok (.istore_n 2, 1) := by decide +kernel
theorem d_MOD_characterAt_6 : decode b_MOD_characterAt 6 = .ok (.aload_n 0, 1) := by decide +kernel
theorem d_MOD_characterAt_7 : decode b_MOD_characterAt 7 = .ok (.iload_n 1, 1) := by decide +kernel
theorem d_MOD_characterAt_8 : decode b_MOD_characterAt 8 = .ok (.iconst 1, 1) := by decide +kernel
theorem d_MOD_characterAt_9 : decode b_MOD_characterAt 9 = .ok (.iadd, 1) := by decide +kernel
theorem d_MOD_characterAt_10 : decode b_MOD_characterAt 10 = .ok (.putfield 187, 3) := by decide +kernel
theorem d_MOD_characterAt_13 : decode b_MOD_characterAt 13 = .ok (.iload_n 2, 1) := by decide +kernel
theorem d_MOD_characterAt_14 : decode b_MOD_characterAt 14 = .ok (.sipush 128, 3) := by decide +kernel
theorem d_MOD_characterAt_17 : decode b_MOD_characterAt 17 = .ok (.if_icmp .ge 5, 3) := by decide +kernel
theorem d_MOD_characterAt_20 : decode b_MOD_characterAt 20 = .ok (.iload_n 2, 1) := by decide +kernel
theorem d_MOD_characterAt_21 : decode b_MOD_characterAt 21 = .ok (.ireturn, 1) := by decide +kernel
theorem d_MOD_characterAt_22 : decode b_MOD_characterAt 22 = .ok (.iload_n 2, 1) := by decide +kernel
theorem d_MOD_characterAt_23 : decode b_MOD_characterAt 23 = .ok (.sipush 194, 3) := by decide +kernel
theorem d_MOD_characterAt_26 : decode b_MOD_characterAt 26 = .ok (.if_icmp .lt 14, 3) := by decide +kernel
theorem d_MOD_characterAt_29 : decode b_MOD_characterAt 29 = .ok (.iload_n 2, 1) := by decide +kernel
theorem d_MOD_characterAt_30 : decode b_MOD_characterAt 30 = .ok (.sipush 224, 3) := by decide +kernel
theorem d_MOD_characterAt_33 : decode b_MOD_characterAt 33 = .ok (.if_icmp .ge 7, 3) := by decide +kernel
theorem d_MOD_characterAt_36 : decode b_MOD_characterAt 36 = .ok (.iconst 1, 1) := by decide +kernel
theorem d_MOD_characterAt_37 : decode b_MOD_characterAt 37 = .ok (.goto 40, 3) := by decide +kernel
theorem d_MOD_characterAt_40 : decode b_MOD_characterAt 40 = .ok (.iload_n 2, 1) := by decide +kernel
theorem d_MOD_characterAt_41 : decode b_MOD_characterAt 41 = .ok (.sipush 224, 3) := by decide +kernel
theorem d_MOD_characterAt_44 : decode b_MOD_characterAt 44 = .ok (.if_icmp .lt 14, 3) := by decide +kernel
theorem d_MOD_characterAt_47 : decode b_MOD_characterAt 47 = .ok (.iload_n 2, 1) := by decide +kernel
theorem d_MOD_characterAt_48 : decode b_MOD_characterAt 48 = .ok (.sipush 240, 3) := by decide +kernel
theorem d_MOD_characterAt_51 : decode b_MOD_characterAt 51 = .ok (.if_icmp .ge 7, 3) := by decide +kernel
theorem d_MOD_characterAt_54 : decode b_MOD_characterAt 54 = .ok (.iconst 2, 1) := by decide +kernel
theorem d_MOD_characterAt_55 : decode b_MOD_characterAt 55 = .ok (.goto 22, 3) := by decide +kernel
theorem d_MOD_characterAt_58 : decode b_MOD_characterAt 58 = .ok (.iload_n 2, 1) := by decide +kernel
theorem d_MOD_characterAt_59 : decode b_MOD_characterAt 59 = .ok (.sipush 240, 3) := by decide +kernel
theorem d_MOD_characterAt_62 : decode b_MOD_characterAt 62 = .ok (.if_icmp .lt 14, 3) := by decide +kernel
theorem d_MOD_characterAt_65 : decode b_MOD_characterAt 65 = .ok (.iload_n 2, 1) := by decide +kernel
theorem d_MOD_characterAt_66 : decode b_MOD_characterAt 66 = .ok (.sipush 245, 3) := by decide +kernel
theorem d_MOD_characterAt_69 : decode b_MOD_characterAt 69 = .ok (.if_icmp .ge 7, 3) := by decide +kernel
theorem d_MOD_characterAt_72 : decode b_MOD_characterAt 72 = .ok (.iconst 3, 1) := by decide +kernel
theorem d_MOD_characterAt_73 : decode b_MOD_characterAt 73 = .ok (.goto 4, 3) := by decide +kernel
theorem d_MOD_characterAt_76 : decode b_MOD_characterAt 76 = .ok (.iconst 0, 1) := by decide +kernel
theorem d_MOD_characterAt_77 : decode b_MOD_characterAt 77 = .ok (.istore_n 3, 1) := by decide +kernel
theorem d_MOD_characterAt_78 : decode b_MOD_characterAt 78 = .ok (.iload_n 3, 1) := by decide +kernel
theorem d_MOD_characterAt_79 : decode b_MOD_characterAt 79 = .ok (.ifCond .ne 5, 3) := by decide +kernel
theorem d_MOD_characterAt_82 : decode b_MOD_characterAt 82 = .ok (.iconst (-1), 1) := by decide +kernel
theorem d_MOD_characterAt_83 : decode b_MOD_characterAt 83 = .ok (.ireturn, 1) := by decide +kernel
theorem d_MOD_characterAt_84 : decode b_MOD_characterAt 84 = .ok (.iload_n 2, 1) := by decide +kernel
theorem d_MOD_characterAt_85 : decode b_MOD_characterAt 85 = .ok (.iload_n 3, 1) := by decide +kernel
theorem d_MOD_characterAt_86 : decode b_MOD_characterAt 86 = .ok (.iconst 1, 1) := by decide +kernel
theorem d_MOD_characterAt_87 : decode b_MOD_characterAt 87 = .ok (.if_icmp .ne 8, 3) := by decide +kernel
theorem d_MOD_characterAt_90 : decode b_MOD_characterAt 90 = .ok (.bipush 31, 2) := by decide +kernel
theorem d_MOD_characterAt_92 : decode b_MOD_characterAt 92 = .ok (.goto 15, 3) := by decide +kernel
theorem d_MOD_characterAt_95 : decode b_MOD_characterAt 95 = .ok (.iload_n 3, 1) := by decide +kernel
theorem d_MOD_characterAt_96 : decode b_MOD_characterAt 96 = .ok (.iconst 2, 1) := by decide +kernel
theorem d_MOD_characterAt_97 : decode b_MOD_characterAt 97 = .ok (.if_icmp .ne 8, 3) := by decide +kernel
theorem d_MOD_characterAt_100 : decode b_MOD_characterAt 100 = .ok (.bipush 15, 2) := by decide +kernel
theorem d_MOD_characterAt_102 : decode b_MOD_characterAt 102 = .ok (.goto 5, 3) := by decide +kernel
theorem d_MOD_characterAt_105 : decode b_MOD_characterAt 105 = .ok (.bipush 7, 2) := by decide +kernel
theorem d_MOD_characterAt_107 : decode b_MOD_characterAt 107 = .ok (.iand, 1) := by decide +kernel
theorem d_MOD_characterAt_108 : decode b_MOD_characterAt 108 = .ok (.istore 4, 2) := by decide +kernel
theorem d_MOD_characterAt_110 : decode b_MOD_characterAt 110 = .ok (.iconst 1, 1) := by decide +kernel
theorem d_MOD_characterAt_111 : decode b_MOD_characterAt 111 = .ok (.istore 5, 2) := by decide +kernel
theorem d_MOD_characterAt_113 : decode b_MOD_characterAt 113 = .ok (.iload 5, 2) := by decide +kernel
theorem d_MOD_characterAt_115 : decode b_MOD_characterAt 115 = .ok (.iload_n 3, 1) := by decide +kernel
theorem d_MOD_characterAt_116 : decode b_MOD_characterAt 116 = .ok (.if_icmp .gt 41, 3) := by decide +kernel
theorem d_MOD_characterAt_119 : decode b_MOD_characterAt 119 = .ok (.aload_n 0, 1) := by decide +kernel
theorem d_MOD_characterAt_120 : decode b_MOD_characterAt 120 = .ok (.iload_n 1, 1) := by decide +kernel
theorem d_MOD_characterAt_121 : decode b_MOD_characterAt 121 = .ok (.iload 5, 2) := by decide +kernel
theorem d_MOD_characterAt_123 : decode b_MOD_characterAt 123 = .ok (.iadd, 1) := by decide +kernel
theorem d_MOD_characterAt_124 : decode b_MOD_characterAt 124 = .ok (.invokevirtual 190, 3) := by decide +kernel
theorem d_MOD_characterAt_127 : decode b_MOD_characterAt 127 = .ok (.ifCond .ne 5, 3) := by decide +kernel
theorem d_MOD_characterAt_130 : decode b_MOD_characterAt 130 = .ok (.iconst (-1), 1) := by decide +kernel
theorem d_MOD_characterAt_131 : decode b_MOD_characterAt 131 = .ok (.ireturn, 1) := by decide +kernel
theorem d_MOD_characterAt_132 : decode b_MOD_characterAt 132 = .ok (.iload 4, 2) := by decide +kernel
theorem d_MOD_characterAt_134 : decode b_MOD_characterAt 134 = .ok (.bipush 6, 2) := by decide +kernel
theorem d_MOD_characterAt_136 : decode b_MOD_characterAt 136 = .ok (.ishl, 1) := by decide +kernel
theorem d_MOD_characterAt_137 : decode b_MOD_characterAt 137 = .ok (.aload_n 0, 1) := by decide +kernel
theorem d_MOD_characterAt_138 : decode b_MOD_characterAt 138 = .ok (.iload_n 1, 1) := by decide +kernel
theorem d_MOD_characterAt_139 : decode b_MOD_characterAt 139 = .ok (.iload 5, 2) := by decide +kernel
theorem d_MOD_characterAt_141 : decode b_MOD_characterAt 141 = .ok (.iadd, 1) := by decide +kernel
theorem d_MOD_characterAt_142 : decode b_MOD_characterAt 142 = .ok (.invokevirtual 183, 3) := by decide +kernel
theorem d_MOD_characterAt_145 : decode b_MOD_characterAt 145 = .ok (.bipush 63, 2) := by decide +kernel
theorem d_MOD_characterAt_147 : decode b_MOD_characterAt 147 = .ok (.iand, 1) := by decide +kernel
theorem d_MOD_characterAt_148 : decode b_MOD_characterAt 148 = .ok (.ior, 1) := by decide +kernel
theorem d_MOD_characterAt_149 : decode b_MOD_characterAt 149 = .ok (.istore 4, 2) := by decide +kernel
theorem d_MOD_characterAt_151 : decode b_MOD_characterAt 151 = .ok (.iinc 5 1, 3) := by decide +kernel
theorem d_MOD_characterAt_154 : decode b_MOD_characterAt 154 = .ok (.goto (-41), 3) := by decide +kernel
theorem d_MOD_characterAt_157 : decode b_MOD_characterAt 157 = .ok (.aload_n 0, 1) := by decide +kernel
theorem d_MOD_characterAt_158 : decode b_MOD_characterAt 158 = .ok (.iload_n 1, 1) := by decide +kernel
theorem d_MOD_characterAt_159 : decode b_MOD_characterAt 159 = .ok (.iconst 1, 1) := by decide +kernel
theorem d_MOD_characterAt_160 : decode b_MOD_characterAt 160 = .ok (.iadd, 1) := by decide +kernel
theorem d_MOD_characterAt_161 : decode b_MOD_characterAt 161 = .ok (.iload_n 3, 1) := by decide +kernel
theorem d_MOD_characterAt_162 : decode b_MOD_characterAt 162 = .ok (.iadd, 1) := by decide +kernel
theorem d_MOD_characterAt_163 : decode b_MOD_characterAt 163 = .ok (.putfield 187, 3) := by decide +kernel
theorem d_MOD_characterAt_166 : decode b_MOD_characterAt 166 = .ok (.iload_n 3, 1) := by decide +kernel
theorem d_MOD_characterAt_167 : decode b_MOD_characterAt 167 = .ok (.iconst 1, 1) := by decide +kernel
theorem d_MOD_characterAt_168 : decode b_MOD_characterAt 168 = .ok (.if_icmp .ne 9, 3) := by decide +kernel
theorem d_MOD_characterAt_171 : decode b_MOD_characterAt 171 = .ok (.sipush 128, 3) := by decide +kernel
theorem d_MOD_characterAt_174 : decode b_MOD_characterAt 174 = .ok (.goto 16, 3) := by decide +kernel
theorem d_MOD_characterAt_177 : decode b_MOD_characterAt 177 = .ok (.iload_n 3, 1) := by decide +kernel
theorem d_MOD_characterAt_178 : decode b_MOD_characterAt 178 = .ok (.iconst 2, 1) := by decide +kernel
theorem d_MOD_characterAt_179 : decode b_MOD_characterAt 179 = .ok (.if_icmp .ne 9, 3) := by decide +kernel
theorem d_MOD_characterAt_182 : decode b_MOD_characterAt 182 = .ok (.sipush 2048, 3) := by decide +kernel
theorem d_MOD_characterAt_185 : decode b_MOD_characterAt 185 = .ok (.goto 5, 3) := by decide +kernel
theorem d_MOD_characterAt_188 : decode b_MOD_characterAt 188 = .ok (.ldc 193, 2) := by decide +kernel
theorem d_MOD_characterAt_190 : decode b_MOD_characterAt 190 = .ok (.istore 5, 2) := by decide +kernel
theorem d_MOD_characterAt_192 : decode b_MOD_characterAt 192 = .ok (.iload 4, 2) := by decide +kernel
theorem d_MOD_characterAt_194 : decode b_MOD_characterAt 194 = .ok (.iload 5, 2) := by decide +kernel
theorem d_MOD_characterAt_196 : decode b_MOD_characterAt 196 = .ok (.if_icmp .lt 16, 3) := by decide +kernel
theorem d_MOD_characterAt_199 : decode b_MOD_characterAt 199 = .ok (.iload 4, 2) := by decide +kernel
theorem d_MOD_characterAt_201 : decode b_MOD_characterAt 201 = .ok (.invokestatic 194, 3) := by decide +kernel
theorem d_MOD_characterAt_204 : decode b_MOD_characterAt 204 = .ok (.ifCond .eq 8, 3) := by decide +kernel
theorem d_MOD_characterAt_207 : decode b_MOD_characterAt 207 = .ok (.iload 4, 2) := by decide +kernel
theorem d_MOD_characterAt_209 : decode b_MOD_characterAt 209 = .ok (.goto 4, 3) := by decide +kernel
theorem d_MOD_characterAt_212 : decode b_MOD_characterAt 212 = .ok (.iconst (-1), 1) := by decide +kernel
theorem d_MOD_characterAt_213 : decode b_MOD_characterAt 213 = .ok (.ireturn, 1) := by decide +kernel
theorem d_MOD_hexadecimalAt_0 : decode b_MOD_hexadecimalAt 0 = .ok (.aload_n 0, 1) := by decide +kernel
theorem d_MOD_hexadecimalAt_1 : decode b_MOD_hexadecimalAt 1 = .ok (.iload_n 1, 1) := by decide +kernel
theorem d_MOD_hexadecimalAt_2 : decode b_MOD_hexadecimalAt 2 = .ok (.invokevirtual 183, 3) := by decide +kernel
theorem d_MOD_hexadecimalAt_5 : decode b_MOD_hexadecimalAt 5 = .ok (.bipush 123, 2) := by decide +kernel
theorem d_MOD_hexadecimalAt_7 : decode b_MOD_hexadecimalAt 7 = .ok (.if_icmp .ne 7, 3) := by decide +kernel
theorem d_MOD_hexadecimalAt_10 : decode b_MOD_hexadecimalAt 10 = .ok (.iconst 1, 1) := by decide +kernel
theorem d_MOD_hexadecimalAt_11 : decode b_MOD_hexadecimalAt 11 = .ok (.goto 4, 3) := by decide +kernel
theorem d_MOD_hexadecimalAt_14 : decode b_MOD_hexadecimalAt 14 = .ok (.iconst 0, 1) := by decide +kernel
theorem d_MOD_hexadecimalAt_15 : decode b_MOD_hexadecimalAt 15 = .ok (.istore_n 2, 1) := by decide +kernel
theorem d_MOD_hexadecimalAt_16 : decode b_MOD_hexadecimalAt 16 = .ok (.iload_n 2, 1) := by decide +kernel
theorem d_MOD_hexadecimalAt_17 : decode b_MOD_hexadecimalAt 17 = .ok (.ifCond .eq 9, 3) := by decide +kernel
theorem d_MOD_hexadecimalAt_20 : decode b_MOD_hexadecimalAt 20 = .ok (.iload_n 1, 1) := by decide +kernel
theorem d_MOD_hexadecimalAt_21 : decode b_MOD_hexadecimalAt 21 = .ok (.iconst 1, 1) := by decide +kernel
theorem d_MOD_hexadecimalAt_22 : decode b_MOD_hexadecimalAt 22 = .ok (.iadd, 1) := by decide +kernel
theorem d_MOD_hexadecimalAt_23 : decode b_MOD_hexadecimalAt 23 = .ok (.goto 4, 3) := by decide +kernel
theorem d_MOD_hexadecimalAt_26 : decode b_MOD_hexadecimalAt 26 = .ok (.iload_n 1, 1) := by decide +kernel
theorem d_MOD_hexadecimalAt_27 : decode b_MOD_hexadecimalAt 27 = .ok (.istore_n 3, 1) := by decide +kernel
theorem d_MOD_hexadecimalAt_28 : decode b_MOD_hexadecimalAt 28 = .ok (.iload_n 3, 1) := by decide +kernel
theorem d_MOD_hexadecimalAt_29 : decode b_MOD_hexadecimalAt 29 = .ok (.istore 4, 2) := by decide +kernel
theorem d_MOD_hexadecimalAt_31 : decode b_MOD_hexadecimalAt 31 = .ok (.iconst 0, 1) := by decide +kernel
theorem d_MOD_hexadecimalAt_32 : decode b_MOD_hexadecimalAt 32 = .ok (.istore 5, 2) := by decide +kernel
theorem d_MOD_hexadecimalAt_34 : decode b_MOD_hexadecimalAt 34 = .ok (.aload_n 0, 1) := by decide +kernel
theorem d_MOD_hexadecimalAt_35 : decode b_MOD_hexadecimalAt 35 = .ok (.iload_n 3, 1) := by decide +kernel
theorem d_MOD_hexadecimalAt_36 : decode b_MOD_hexadecimalAt 36 = .ok (.invokevirtual 183, 3) := by decide +kernel
theorem d_MOD_hexadecimalAt_39 : decode b_MOD_hexadecimalAt 39 = .ok (.invokestatic 203, 3) := by decide +kernel
theorem d_MOD_hexadecimalAt_42 : decode b_MOD_hexadecimalAt 42 = .ok (.ifCond .lt 42, 3) := by decide +kernel
theorem d_MOD_hexadecimalAt_45 : decode b_MOD_hexadecimalAt 45 = .ok (.iload_n 3, 1) := by decide +kernel
theorem d_MOD_hexadecimalAt_46 : decode b_MOD_hexadecimalAt 46 = .ok (.iload 4, 2) := by decide +kernel
theorem d_MOD_hexadecimalAt_48 : decode b_MOD_hexadecimalAt 48 = .ok (.iload_n 2, 1) := by decide +kernel
theorem d_MOD_hexadecimalAt_49 : decode b_MOD_hexadecimalAt 49 = .ok (.ifCond .eq 8, 3) := by decide +kernel
theorem d_MOD_hexadecimalAt_52 : decode b_MOD_hexadecimalAt 52 = .ok (.bipush 7, 2) := by decide +kernel
theorem d_MOD_hexadecimalAt_54 : decode b_MOD_hexadecimalAt 54 = .ok (.goto 4, 3) := by decide +kernel
theorem d_MOD_hexadecimalAt_57 : decode b_MOD_hexadecimalAt 57 = .ok (.iconst 2, 1) := by decide +kernel
theorem d_MOD_hexadecimalAt_58 : decode b_MOD_hexadecimalAt 58 = .ok (.iadd, 1) := by decide +kernel
theorem d_MOD_hexadecimalAt_59 : decode b_MOD_hexadecimalAt 59 = .ok (.if_icmp .ge 25, 3) := by decide +kernel
theorem d_MOD_hexadecimalAt_62 : decode b_MOD_hexadecimalAt 62 = .ok (.bipush 16, 2) := by decide +kernel
theorem d_MOD_hexadecimalAt_64 : decode b_MOD_hexadecimalAt 64 = .ok (.iload 5, 2) := by decide +kernel
theorem d_MOD_hexadecimalAt_66 : decode b_MOD_hexadecimalAt 66 = .ok (.imul, 1) := by decide +kernel
theorem d_MOD_hexadecimalAt_67 : decode b_MOD_hexadecimalAt 67 = .ok (.aload_n 0, 1) := by decide +kernel
theorem d_MOD_hexadecimalAt_68 : decode b_MOD_hexadecimalAt 68 = .ok (.iload_n 3, 1) := by decide +kernel
theorem d_MOD_hexadecimalAt_69 : decode b_MOD_hexadecimalAt 69 = .ok (.invokevirtual 183, 3) := by decide +kernel
theorem d_MOD_hexadecimalAt_72 : decode b_MOD_hexadecimalAt 72 = .ok (.invokestatic 203, 3) := by decide +kernel
theorem d_MOD_hexadecimalAt_75 : decode b_MOD_hexadecimalAt 75 = .ok (.iadd, 1) := by decide +kernel
theorem d_MOD_hexadecimalAt_76 : decode b_MOD_hexadecimalAt 76 = .ok (.istore 5, 2) := by decide +kernel
theorem d_MOD_hexadecimalAt_78 : decode b_MOD_hexadecimalAt 78 = .ok (.iinc 3 1, 3) := by decide +kernel
theorem d_MOD_hexadecimalAt_81 : decode b_MOD_hexadecimalAt 81 = .ok (.goto (-47), 3) := by decide +kernel
theorem d_MOD_hexadecimalAt_84 : decode b_MOD_hexadecimalAt 84 = .ok (.iload_n 3, 1) := by decide +kernel
theorem d_MOD_hexadecimalAt_85 : decode b_MOD_hexadecimalAt 85 = .ok (.iload 4, 2) := by decide +kernel
theorem d_MOD_hexadecimalAt_87 : decode b_MOD_hexadecimalAt 87 = .ok (.isub, 1) := by decide +kernel
theorem d_MOD_hexadecimalAt_88 : decode b_MOD_hexadecimalAt 88 = .ok (.istore 6, 2) := by decide +kernel
theorem d_MOD_hexadecimalAt_90 : decode b_MOD_hexadecimalAt 90 = .ok (.aload_n 0, 1) := by decide +kernel
theorem d_MOD_hexadecimalAt_91 : decode b_MOD_hexadecimalAt 91 = .ok (.iload_n 2, 1) := by decide +kernel
theorem d_MOD_hexadecimalAt_92 : decode b_MOD_hexadecimalAt 92 = .ok (.ifCond .eq 9, 3) := by decide +kernel
theorem d_MOD_hexadecimalAt_95 : decode b_MOD_hexadecimalAt 95 = .ok (.iload_n 3, 1) := by decide +kernel
theorem d_MOD_hexadecimalAt_96 : decode b_MOD_hexadecimalAt 96 = .ok (.iconst 1, 1) := by decide +kernel
theorem d_MOD_hexadecimalAt_97 : decode b_MOD_hexadecimalAt 97 = .ok (.iadd, 1) := by decide +kernel
theorem d_MOD_hexadecimalAt_98 : decode b_MOD_hexadecimalAt 98 = .ok (.goto 4, 3) := by decide +kernel
theorem d_MOD_hexadecimalAt_101 : decode b_MOD_hexadecimalAt 101 = .ok (.iload_n 3, 1) := by decide +kernel
theorem d_MOD_hexadecimalAt_102 : decode b_MOD_hexadecimalAt 102 = .ok (.putfield 187, 3) := by decide +kernel
theorem d_MOD_hexadecimalAt_105 : decode b_MOD_hexadecimalAt 105 = .ok (.iload_n 2, 1) := by decide +kernel
theorem d_MOD_hexadecimalAt_106 : decode b_MOD_hexadecimalAt 106 = .ok (.ifCond .eq 33, 3) := by decide +kernel
theorem d_MOD_hexadecimalAt_109 : decode b_MOD_hexadecimalAt 109 = .ok (.iload 6, 2) := by decide +kernel
theorem d_MOD_hexadecimalAt_111 : decode b_MOD_hexadecimalAt 111 = .ok (.ifCond .le 24, 3) := by decide +kernel
theorem d_MOD_hexadecimalAt_114 : decode b_MOD_hexadecimalAt 114 = .ok (.iload 6, 2) := by decide +kernel
theorem d_MOD_hexadecimalAt_116 : decode b_MOD_hexadecimalAt 116 = .ok (.bipush 7, 2) := by decide +kernel
theorem d_MOD_hexadecimalAt_118 : decode b_MOD_hexadecimalAt 118 = .ok (.if_icmp .ge 17, 3) := by decide +kernel
theorem d_MOD_hexadecimalAt_121 : decode b_MOD_hexadecimalAt 121 = .ok (.aload_n 0, 1) := by decide +kernel
theorem d_MOD_hexadecimalAt_122 : decode b_MOD_hexadecimalAt 122 = .ok (.iload_n 3, 1) := by decide +kernel
theorem d_MOD_hexadecimalAt_123 : decode b_MOD_hexadecimalAt 123 = .ok (.invokevirtual 183, 3) := by decide +kernel
theorem d_MOD_hexadecimalAt_126 : decode b_MOD_hexadecimalAt 126 = .ok (.bipush 125, 2) := by decide +kernel
theorem d_MOD_hexadecimalAt_128 : decode b_MOD_hexadecimalAt 128 = .ok (.if_icmp .ne 7, 3) := by decide +kernel
theorem d_MOD_hexadecimalAt_131 : decode b_MOD_hexadecimalAt 131 = .ok (.iconst 1, 1) := by decide +kernel
theorem d_MOD_hexadecimalAt_132 : decode b_MOD_hexadecimalAt 132 = .ok (.goto 18, 3) := by decide +kernel
theorem d_MOD_hexadecimalAt_135 : decode b_MOD_hexadecimalAt 135 = .ok (.iconst 0, 1) := by decide +kernel
theorem d_MOD_hexadecimalAt_136 : decode b_MOD_hexadecimalAt 136 = .ok (.goto 14, 3) := by decide +kernel
theorem d_MOD_hexadecimalAt_139 : decode b_MOD_hexadecimalAt 139 = .ok (.iload 6, 2) := by decide +kernel
theorem d_MOD_hexadecimalAt_141 : decode b_MOD_hexadecimalAt 141 = .ok (.iconst 2, 1) := by decide +kernel
theorem d_MOD_hexadecimalAt_142 : decode b_MOD_hexadecimalAt 142 = .ok (.if_icmp .ne 7, 3) := by decide +kernel
theorem d_MOD_hexadecimalAt_145 : decode b_MOD_hexadecimalAt 145 = .ok (.iconst 1, 1) := by decide +kernel
theorem d_MOD_hexadecimalAt_146 : decode b_MOD_hexadecimalAt 146 = .ok (.goto 4, 3) := by decide +kernel
theorem d_MOD_hexadecimalAt_149 : decode b_MOD_hexadecimalAt 149 = .ok (.iconst 0, 1) := by decide +kernel
theorem d_MOD_hexadecimalAt_150 : decode b_MOD_hexadecimalAt 150 = .ok (.istore 7, 2) := by decide +kernel
theorem d_MOD_hexadecimalAt_152 : decode b_MOD_hexadecimalAt 152 = .ok (.iload 7, 2) := by decide +kernel
theorem d_MOD_hexadecimalAt_154 : decode b_MOD_hexadecimalAt 154 = .ok (.ifCond .eq 16, 3) := by decide +kernel
theorem d_MOD_hexadecimalAt_157 : decode b_MOD_hexadecimalAt 157 = .ok (.iload 5, 2) := by decide +kernel
theorem d_MOD_hexadecimalAt_159 : decode b_MOD_hexadecimalAt 159 = .ok (.invokestatic 194, 3) := by decide +kernel
theorem d_MOD_hexadecimalAt_162 : decode b_MOD_hexadecimalAt 162 = .ok (.ifCond .eq 8, 3) := by decide +kernel
theorem d_MOD_hexadecimalAt_165 : decode b_MOD_hexadecimalAt 165 = .ok (.iload 5, 2) := by decide +kernel
theorem d_MOD_hexadecimalAt_167 : decode b_MOD_hexadecimalAt 167 = .ok (.goto 4, 3) := by decide +kernel
theorem d_MOD_hexadecimalAt_170 : decode b_MOD_hexadecimalAt 170 = .ok (.iconst (-1), 1) := by decide +kernel
theorem d_MOD_hexadecimalAt_171 : decode b_MOD_hexadecimalAt 171 = .ok (.ireturn, 1) := by decide +kernel
theorem d_MOD_escaped_0 : decode b_MOD_escaped 0 = .ok (.aload_n 0, 1) := by decide +kernel
theorem d_MOD_escaped_1 : decode b_MOD_escaped 1 = .ok (.iload_n 1, 1) := by decide +kernel
theorem d_MOD_escaped_2 : decode b_MOD_escaped 2 = .ok (.iconst 1, 1) := by decide +kernel
theorem d_MOD_escaped_3 : decode b_MOD_escaped 3 = .ok (.iadd, 1) := by decide +kernel
theorem d_MOD_escaped_4 : decode b_MOD_escaped 4 = .ok (.invokevirtual 183, 3) := by decide +kernel
theorem d_MOD_escaped_7 : decode b_MOD_escaped 7 = .ok (.istore_n 2, 1) := by decide +kernel
theorem d_MOD_escaped_8 : decode b_MOD_escaped 8 = .ok (.aload_n 0, 1) := by decide +kernel
theorem d_MOD_escaped_9 : decode b_MOD_escaped 9 = .ok (.iload_n 1, 1) := by decide +kernel
theorem d_MOD_escaped_10 : decode b_MOD_escaped 10 = .ok (.iconst 2, 1) := by decide +kernel
