theorem d_ESC_init_22 : decode b_ESC_init 22 = .ok (.iconst 0, 1) := by decide +kernel
theorem d_ESC_init_23 : decode b_ESC_init 23 = .ok (.putfield 25, 3) := by decide +kernel
theorem d_ESC_init_26 : decode b_ESC_init 26 = .ok (.aload_n 0, 1) := by decide +kernel
theorem d_ESC_init_27 : decode b_ESC_init 27 = .ok (.iconst 0, 1) := by decide +kernel
theorem d_ESC_init_28 : decode b_ESC_init 28 = .ok (.putfield 29, 3) := by decide +kernel
theorem d_ESC_init_31 : decode b_ESC_init 31 = .ok (.aload_n 0, 1) := by decide +kernel
theorem d_ESC_init_32 : decode b_ESC_init 32 = .ok (.aload_n 1, 1) := by decide +kernel
theorem d_ESC_init_33 : decode b_ESC_init 33 = .ok (.putfield 32, 3) := by decide +kernel
theorem d_ESC_init_36 : decode b_ESC_init 36 = .ok (.return_, 1) := by decide +kernel
theorem d_CLS_init_0 : decode b_CLS_init 0 = .ok (.aload_n 0, 1) := by decide +kernel
theorem d_CLS_init_1 : decode b_CLS_init 1 = .ok (.invokespecial 3, 3) := by decide +kernel
theorem d_CLS_init_4 : decode b_CLS_init 4 = .ok (.aload_n 0, 1) := by decide +kernel
theorem d_CLS_init_5 : decode b_CLS_init 5 = .ok (.iconst (-1), 1) := by decide +kernel
theorem d_CLS_init_6 : decode b_CLS_init 6 = .ok (.putfield 9, 3) := by decide +kernel
theorem d_CLS_init_9 : decode b_CLS_init 9 = .ok (.aload_n 0, 1) := by decide +kernel
theorem d_CLS_init_10 : decode b_CLS_init 10 = .ok (.aload_n 1, 1) := by decide +kernel
theorem d_CLS_init_11 : decode b_CLS_init 11 = .ok (.putfield 15, 3) := by decide +kernel
theorem d_CLS_init_14 : decode b_CLS_init 14 = .ok (.aload_n 0, 1) := by decide +kernel
theorem d_CLS_init_15 : decode b_CLS_init 15 = .ok (.aload_n 2, 1) := by decide +kernel
theorem d_CLS_init_16 : decode b_CLS_init 16 = .ok (.putfield 19, 3) := by decide +kernel
theorem d_CLS_init_19 : decode b_CLS_init 19 = .ok (.aload_n 0, 1) := by decide +kernel
theorem d_CLS_init_20 : decode b_CLS_init 20 = .ok (.aload_n 3, 1) := by decide +kernel
theorem d_CLS_init_21 : decode b_CLS_init 21 = .ok (.putfield 23, 3) := by decide +kernel
theorem d_CLS_init_24 : decode b_CLS_init 24 = .ok (.aload_n 0, 1) := by decide +kernel
theorem d_CLS_init_25 : decode b_CLS_init 25 = .ok (.aload 4, 2) := by decide +kernel
theorem d_CLS_init_27 : decode b_CLS_init 27 = .ok (.putfield 27, 3) := by decide +kernel
theorem d_CLS_init_30 : decode b_CLS_init 30 = .ok (.return_, 1) := by decide +kernel
theorem d_OPG_init_0 : decode b_OPG_init 0 = .ok (.aload_n 0, 1) := by decide +kernel
theorem d_OPG_init_1 : decode b_OPG_init 1 = .ok (.invokespecial 3, 3) := by decide +kernel
theorem d_OPG_init_4 : decode b_OPG_init 4 = .ok (.aload_n 0, 1) := by decide +kernel
theorem d_OPG_init_5 : decode b_OPG_init 5 = .ok (.iconst 0, 1) := by decide +kernel
theorem d_OPG_init_6 : decode b_OPG_init 6 = .ok (.putfield 9, 3) := by decide +kernel
theorem d_OPG_init_9 : decode b_OPG_init 9 = .ok (.aload_n 0, 1) := by decide +kernel
theorem d_OPG_init_10 : decode b_OPG_init 10 = .ok (.iconst 0, 1) := by decide +kernel
theorem d_OPG_init_11 : decode b_OPG_init 11 = .ok (.putfield 15, 3) := by decide +kernel
theorem d_OPG_init_14 : decode b_OPG_init 14 = .ok (.aload_n 0, 1) := by decide +kernel
theorem d_OPG_init_15 : decode b_OPG_init 15 = .ok (.iconst 0, 1) := by decide +kernel
theorem d_OPG_init_16 : decode b_OPG_init 16 = .ok (.putfield 18, 3) := by decide +kernel
theorem d_OPG_init_19 : decode b_OPG_init 19 = .ok (.aload_n 0, 1) := by decide +kernel
theorem d_OPG_init_20 : decode b_OPG_init 20 = .ok (.iconst 0, 1) := by decide +kernel
theorem d_OPG_init_21 : decode b_OPG_init 21 = .ok (.putfield 22, 3) := by decide +kernel
theorem d_OPG_init_24 : decode b_OPG_init 24 = .ok (.aload_n 0, 1) := by decide +kernel
theorem d_OPG_init_25 : decode b_OPG_init 25 = .ok (.iconst 0, 1) := by decide +kernel
theorem d_OPG_init_26 : decode b_OPG_init 26 = .ok (.putfield 25, 3) := by decide +kernel
theorem d_OPG_init_29 : decode b_OPG_init 29 = .ok (.aload_n 0, 1) := by decide +kernel
theorem d_OPG_init_30 : decode b_OPG_init 30 = .ok (.iconst 0, 1) := by decide +kernel
theorem d_OPG_init_31 : decode b_OPG_init 31 = .ok (.putfield 28, 3) := by decide +kernel
theorem d_OPG_init_34 : decode b_OPG_init 34 = .ok (.aload_n 0, 1) := by decide +kernel
theorem d_OPG_init_35 : decode b_OPG_init 35 = .ok (.aload_n 1, 1) := by decide +kernel
theorem d_OPG_init_36 : decode b_OPG_init 36 = .ok (.putfield 31, 3) := by decide +kernel
theorem d_OPG_init_39 : decode b_OPG_init 39 = .ok (.return_, 1) := by decide +kernel
theorem d_REP_init_0 : decode b_REP_init 0 = .ok (.aload_n 0, 1) := by decide +kernel
theorem d_REP_init_1 : decode b_REP_init 1 = .ok (.invokespecial 3, 3) := by decide +kernel
theorem d_REP_init_4 : decode b_REP_init 4 = .ok (.aload_n 0, 1) := by decide +kernel
theorem d_REP_init_5 : decode b_REP_init 5 = .ok (.iconst 0, 1) := by decide +kernel
theorem d_REP_init_6 : decode b_REP_init 6 = .ok (.putfield 9, 3) := by decide +kernel
theorem d_REP_init_9 : decode b_REP_init 9 = .ok (.aload_n 0, 1) := by decide +kernel
theorem d_REP_init_10 : decode b_REP_init 10 = .ok (.iconst (-1), 1) := by decide +kernel
theorem d_REP_init_11 : decode b_REP_init 11 = .ok (.putfield 15, 3) := by decide +kernel
theorem d_REP_init_14 : decode b_REP_init 14 = .ok (.aload_n 0, 1) := by decide +kernel
theorem d_REP_init_15 : decode b_REP_init 15 = .ok (.iconst 0, 1) := by decide +kernel
theorem d_REP_init_16 : decode b_REP_init 16 = .ok (.putfield 18, 3) := by decide +kernel
theorem d_REP_init_19 : decode b_REP_init 19 = .ok (.aload_n 0, 1) := by decide +kernel
theorem d_REP_init_20 : decode b_REP_init 20 = .ok (.iconst 0, 1) := by decide +kernel
theorem d_REP_init_21 : decode b_REP_init 21 = .ok (.putfield 22, 3) := by decide +kernel
theorem d_REP_init_24 : decode b_REP_init 24 = .ok (.aload_n 0, 1) := by decide +kernel
theorem d_REP_init_25 : decode b_REP_init 25 = .ok (.iconst 0, 1) := by decide +kernel
theorem d_REP_init_26 : decode b_REP_init 26 = .ok (.putfield 25, 3) := by decide +kernel
theorem d_REP_init_29 : decode b_REP_init 29 = .ok (.aload_n 0, 1) := by decide +kernel
theorem d_REP_init_30 : decode b_REP_init 30 = .ok (.aload_n 1, 1) := by decide +kernel
theorem d_REP_init_31 : decode b_REP_init 31 = .ok (.putfield 28, 3) := by decide +kernel
theorem d_REP_init_34 : decode b_REP_init 34 = .ok (.return_, 1) := by decide +kernel
theorem d_RDR_init_0 : decode b_RDR_init 0 = .ok (.aload_n 0, 1) := by decide +kernel
theorem d_RDR_init_1 : decode b_RDR_init 1 = .ok (.invokespecial 3, 3) := by decide +kernel
theorem d_RDR_init_4 : decode b_RDR_init 4 = .ok (.aload_n 0, 1) := by decide +kernel
theorem d_RDR_init_5 : decode b_RDR_init 5 = .ok (.new 9, 3) := by decide +kernel
theorem d_RDR_init_8 : decode b_RDR_init 8 = .ok (.dup, 1) := by decide +kernel
theorem d_RDR_init_9 : decode b_RDR_init 9 = .ok (.invokespecial 11, 3) := by decide +kernel
theorem d_RDR_init_12 : decode b_RDR_init 12 = .ok (.putfield 12, 3) := by decide +kernel
theorem d_RDR_init_15 : decode b_RDR_init 15 = .ok (.aload_n 0, 1) := by decide +kernel
theorem d_RDR_init_16 : decode b_RDR_init 16 = .ok (.new 18, 3) := by decide +kernel
theorem d_RDR_init_19 : decode b_RDR_init 19 = .ok (.dup, 1) := by decide +kernel
theorem d_RDR_init_20 : decode b_RDR_init 20 = .ok (.invokespecial 20, 3) := by decide +kernel
theorem d_RDR_init_23 : decode b_RDR_init 23 = .ok (.putfield 21, 3) := by decide +kernel
theorem d_RDR_init_26 : decode b_RDR_init 26 = .ok (.aload_n 0, 1) := by decide +kernel
theorem d_RDR_init_27 : decode b_RDR_init 27 = .ok (.iconst 0, 1) := by decide +kernel
theorem d_RDR_init_28 : decode b_RDR_init 28 = .ok (.putfield 25, 3) := by decide +kernel
theorem d_RDR_init_31 : decode b_RDR_init 31 = .ok (.aload_n 0, 1) := by decide +kernel
theorem d_RDR_init_32 : decode b_RDR_init 32 = .ok (.iconst 0, 1) := by decide +kernel
theorem d_RDR_init_33 : decode b_RDR_init 33 = .ok (.putfield 29, 3) := by decide +kernel
theorem d_RDR_init_36 : decode b_RDR_init 36 = .ok (.aload_n 0, 1) := by decide +kernel
theorem d_RDR_init_37 : decode b_RDR_init 37 = .ok (.iconst 0, 1) := by decide +kernel
theorem d_RDR_init_38 : decode b_RDR_init 38 = .ok (.putfield 32, 3) := by decide +kernel
theorem d_RDR_init_41 : decode b_RDR_init 41 = .ok (.aload_n 0, 1) := by decide +kernel
theorem d_RDR_init_42 : decode b_RDR_init 42 = .ok (.aload_n 1, 1) := by decide +kernel
theorem d_RDR_init_43 : decode b_RDR_init 43 = .ok (.putfield 36, 3) := by decide +kernel
theorem d_RDR_init_46 : decode b_RDR_init 46 = .ok (.aload_n 0, 1) := by decide +kernel
theorem d_RDR_init_47 : decode b_RDR_init 47 = .ok (.aload_n 2, 1) := by decide +kernel
theorem d_RDR_init_48 : decode b_RDR_init 48 = .ok (.putfield 40, 3) := by decide +kernel
theorem d_RDR_init_51 : decode b_RDR_init 51 = .ok (.aload_n 0, 1) := by decide +kernel
theorem d_RDR_init_52 : decode b_RDR_init 52 = .ok (.aload_n 3, 1) := by decide +kernel
theorem d_RDR_init_53 : decode b_RDR_init 53 = .ok (.putfield 44, 3) := by decide +kernel
theorem d_RDR_init_56 : decode b_RDR_init 56 = .ok (.aload_n 0, 1) := by decide +kernel
theorem d_RDR_init_57 : decode b_RDR_init 57 = .ok (.aload 4, 2) := by decide +kernel
theorem d_RDR_init_59 : decode b_RDR_init 59 = .ok (.putfield 48, 3) := by decide +kernel
theorem d_RDR_init_62 : decode b_RDR_init 62 = .ok (.aload_n 0, 1) := by decide +kernel
theorem d_RDR_init_63 : decode b_RDR_init 63 = .ok (.new 52, 3) := by decide +kernel
theorem d_RDR_init_66 : decode b_RDR_init 66 = .ok (.dup, 1) := by decide +kernel
theorem d_RDR_init_67 : decode b_RDR_init 67 = .ok (.aload_n 1, 1) := by decide +kernel
theorem d_RDR_init_68 : decode b_RDR_init 68 = .ok (.invokespecial 54, 3) := by decide +kernel
theorem d_RDR_init_71 : decode b_RDR_init 71 = .ok (.putfield 57, 3) := by decide +kernel
theorem d_RDR_init_74 : decode b_RDR_init 74 = .ok (.aload_n 0, 1) := by decide +kernel
theorem d_RDR_init_75 : decode b_RDR_init 75 = .ok (.new 61, 3) := by decide +kernel
theorem d_RDR_init_78 : decode b_RDR_init 78 = .ok (.dup, 1) := by decide +kernel
theorem d_RDR_init_79 : decode b_RDR_init 79 = .ok (.aload_n 1, 1) := by decide +kernel
theorem d_RDR_init_80 : decode b_RDR_init 80 = .ok (.aload_n 2, 1) := by decide +kernel
theorem d_RDR_init_81 : decode b_RDR_init 81 = .ok (.aload_n 0, 1) := by decide +kernel
theorem d_RDR_init_82 : decode b_RDR_init 82 = .ok (.getfield 57, 3) := by decide +kernel
theorem d_RDR_init_85 : decode b_RDR_init 85 = .ok (.aload_n 0, 1) := by decide +kernel
theorem d_RDR_init_86 : decode b_RDR_init 86 = .ok (.getfield 21, 3) := by decide +kernel
theorem d_RDR_init_89 : decode b_RDR_init 89 = .ok (.invokespecial 63, 3) := by decide +kernel
theorem d_RDR_init_92 : decode b_RDR_init 92 = .ok (.putfield 66, 3) := by decide +kernel
theorem d_RDR_init_95 : decode b_RDR_init 95 = .ok (.aload_n 0, 1) := by decide +kernel
theorem d_RDR_init_96 : decode b_RDR_init 96 = .ok (.new 70, 3) := by decide +kernel
theorem d_RDR_init_99 : decode b_RDR_init 99 = .ok (.dup, 1) := by decide +kernel
theorem d_RDR_init_100 : decode b_RDR_init 100 = .ok (.aload_n 1, 1) := by decide +kernel
theorem d_RDR_init_101 : decode b_RDR_init 101 = .ok (.invokespecial 72, 3) := by decide +kernel
theorem d_RDR_init_104 : decode b_RDR_init 104 = .ok (.putfield 73, 3) := by decide +kernel
theorem d_RDR_init_107 : decode b_RDR_init 107 = .ok (.aload_n 0, 1) := by decide +kernel
theorem d_RDR_init_108 : decode b_RDR_init 108 = .ok (.new 77, 3) := by decide +kernel
theorem d_RDR_init_111 : decode b_RDR_init 111 = .ok (.dup, 1) := by decide +kernel
theorem d_RDR_init_112 : decode b_RDR_init 112 = .ok (.aload_n 1, 1) := by decide +kernel
theorem d_RDR_init_113 : decode b_RDR_init 113 = .ok (.invokespecial 79, 3) := by decide +kernel
theorem d_RDR_init_116 : decode b_RDR_init 116 = .ok (.putfield 80, 3) := by decide +kernel
theorem d_RDR_init_119 : decode b_RDR_init 119 = .ok (.return_, 1) := by decide +kernel
theorem d_PN_init_0 : decode b_PN_init 0 = .ok (.aload_n 0, 1) := by decide +kernel
theorem d_PN_init_1 : decode b_PN_init 1 = .ok (.invokespecial 1, 3) := by decide +kernel
theorem d_PN_init_4 : decode b_PN_init 4 = .ok (.aload_n 0, 1) := by decide +kernel
theorem d_PN_init_5 : decode b_PN_init 5 = .ok (.new 7, 3) := by decide +kernel
theorem d_PN_init_8 : decode b_PN_init 8 = .ok (.dup, 1) := by decide +kernel
theorem d_PN_init_9 : decode b_PN_init 9 = .ok (.invokespecial 9, 3) := by decide +kernel
theorem d_PN_init_12 : decode b_PN_init 12 = .ok (.putfield 10, 3) := by decide +kernel
theorem d_PN_init_15 : decode b_PN_init 15 = .ok (.aload_n 0, 1) := by decide +kernel
theorem d_PN_init_16 : decode b_PN_init 16 = .ok (.new 16, 3) := by decide +kernel
theorem d_PN_init_19 : decode b_PN_init 19 = .ok (.dup, 1) := by decide +kernel
theorem d_PN_init_20 : decode b_PN_init 20 = .ok (.invokespecial 18, 3) := by decide +kernel
theorem d_PN_init_23 : decode b_PN_init 23 = .ok (.putfield 19, 3) := by decide +kernel
theorem d_PN_init_26 : decode b_PN_init 26 = .ok (.aload_n 0, 1) := by decide +kernel
theorem d_PN_init_27 : decode b_PN_init 27 = .ok (.new 23, 3) := by decide +kernel
theorem d_PN_init_30 : decode b_PN_init 30 = .ok (.dup, 1) := by decide +kernel
theorem d_PN_init_31 : decode b_PN_init 31 = .ok (.invokespecial 25, 3) := by decide +kernel
theorem d_PN_init_34 : decode b_PN_init 34 = .ok (.putfield 26, 3) := by decide +kernel
theorem d_PN_init_37 : decode b_PN_init 37 = .ok (.aload_n 0, 1) := by decide +kernel
theorem d_PN_init_38 : decode b_PN_init 38 = .ok (.new 30, 3) := by decide +kernel
theorem d_PN_init_41 : decode b_PN_init 41 = .ok (.dup, 1) := by decide +kernel
theorem d_PN_init_42 : decode b_PN_init 42 = .ok (.invokespecial 32, 3) := by decide +kernel
theorem d_PN_init_45 : decode b_PN_init 45 = .ok (.putfield 33, 3) := by decide +kernel
theorem d_PN_init_48 : decode b_PN_init 48 = .ok (.aload_n 0, 1) := by decide +kernel
theorem d_PN_init_49 : decode b_PN_init 49 = .ok (.new 37, 3) := by decide +kernel
theorem d_PN_init_52 : decode b_PN_init 52 = .ok (.dup, 1) := by decide +kernel
theorem d_PN_init_53 : decode b_PN_init 53 = .ok (.aload_n 0, 1) := by decide +kernel
theorem d_PN_init_54 : decode b_PN_init 54 = .ok (.getfield 10, 3) := by decide +kernel
theorem d_PN_init_57 : decode b_PN_init 57 = .ok (.aload_n 0, 1) := by decide +kernel
theorem d_PN_init_58 : decode b_PN_init 58 = .ok (.getfield 19, 3) := by decide +kernel
theorem d_PN_init_61 : decode b_PN_init 61 = .ok (.aload_n 0, 1) := by decide +kernel
theorem d_PN_init_62 : decode b_PN_init 62 = .ok (.getfield 26, 3) := by decide +kernel
theorem d_PN_init_65 : decode b_PN_init 65 = .ok (.aload_n 0, 1) := by decide +kernel
theorem d_PN_init_66 : decode b_PN_init 66 = .ok (.getfield 33, 3) := by decide +kernel
theorem d_PN_init_69 : decode b_PN_init 69 = .ok (.invokespecial 39, 3) := by decide +kernel
theorem d_PN_init_72 : decode b_PN_init 72 = .ok (.putfield 42, 3) := by decide +kernel
theorem d_PN_init_75 : decode b_PN_init 75 = .ok (.return_, 1) := by decide +kernel
