theorem d_PN_read_44 : decode b_PN_read 44 = .ok (.ifCond .eq 16, 3) := by decide +kernel
theorem d_PN_read_47 : decode b_PN_read 47 = .ok (.aload_n 0, 1) := by decide +kernel
theorem d_PN_read_48 : decode b_PN_read 48 = .ok (.getfield 42, 3) := by decide +kernel
theorem d_PN_read_51 : decode b_PN_read 51 = .ok (.invokevirtual 65, 3) := by decide +kernel
theorem d_PN_read_54 : decode b_PN_read 54 = .ok (.iinc 2 1, 3) := by decide +kernel
theorem d_PN_read_57 : decode b_PN_read 57 = .ok (.goto (-27), 3) := by decide +kernel
theorem d_PN_read_60 : decode b_PN_read 60 = .ok (.aload_n 0, 1) := by decide +kernel
theorem d_PN_read_61 : decode b_PN_read 61 = .ok (.getfield 42, 3) := by decide +kernel
theorem d_PN_read_64 : decode b_PN_read 64 = .ok (.invokevirtual 68, 3) := by decide +kernel
theorem d_PN_read_67 : decode b_PN_read 67 = .ok (.aload_n 0, 1) := by decide +kernel
theorem d_PN_read_68 : decode b_PN_read 68 = .ok (.getfield 10, 3) := by decide +kernel
theorem d_PN_read_71 : decode b_PN_read 71 = .ok (.invokevirtual 71, 3) := by decide +kernel
theorem d_PN_read_74 : decode b_PN_read 74 = .ok (.aload_n 0, 1) := by decide +kernel
theorem d_PN_read_75 : decode b_PN_read 75 = .ok (.getfield 19, 3) := by decide +kernel
theorem d_PN_read_78 : decode b_PN_read 78 = .ok (.getfield 74, 3) := by decide +kernel
theorem d_PN_read_81 : decode b_PN_read 81 = .ok (.ifCond .eq 27, 3) := by decide +kernel
theorem d_PN_read_84 : decode b_PN_read 84 = .ok (.aload_n 0, 1) := by decide +kernel
theorem d_PN_read_85 : decode b_PN_read 85 = .ok (.getfield 26, 3) := by decide +kernel
theorem d_PN_read_88 : decode b_PN_read 88 = .ok (.invokevirtual 78, 3) := by decide +kernel
theorem d_PN_read_91 : decode b_PN_read 91 = .ok (.aload_n 0, 1) := by decide +kernel
theorem d_PN_read_92 : decode b_PN_read 92 = .ok (.getfield 33, 3) := by decide +kernel
theorem d_PN_read_95 : decode b_PN_read 95 = .ok (.invokevirtual 79, 3) := by decide +kernel
theorem d_PN_read_98 : decode b_PN_read 98 = .ok (.new 50, 3) := by decide +kernel
theorem d_PN_read_101 : decode b_PN_read 101 = .ok (.dup, 1) := by decide +kernel
theorem d_PN_read_102 : decode b_PN_read 102 = .ok (.ldc 80, 2) := by decide +kernel
theorem d_PN_read_104 : decode b_PN_read 104 = .ok (.invokespecial 54, 3) := by decide +kernel
theorem d_PN_read_107 : decode b_PN_read 107 = .ok (.athrow, 1) := by decide +kernel
theorem d_PN_read_108 : decode b_PN_read 108 = .ok (.aload_n 0, 1) := by decide +kernel
theorem d_PN_read_109 : decode b_PN_read 109 = .ok (.getfield 33, 3) := by decide +kernel
theorem d_PN_read_112 : decode b_PN_read 112 = .ok (.getfield 82, 3) := by decide +kernel
theorem d_PN_read_115 : decode b_PN_read 115 = .ok (.ireturn, 1) := by decide +kernel
theorem d_PN_fault_0 : decode b_PN_fault 0 = .ok (.iload_n 1, 1) := by decide +kernel
theorem d_PN_fault_1 : decode b_PN_fault 1 = .ok (.ifCond .ne 11, 3) := by decide +kernel
theorem d_PN_fault_4 : decode b_PN_fault 4 = .ok (.aload_n 0, 1) := by decide +kernel
theorem d_PN_fault_5 : decode b_PN_fault 5 = .ok (.getfield 19, 3) := by decide +kernel
theorem d_PN_fault_8 : decode b_PN_fault 8 = .ok (.getfield 74, 3) := by decide +kernel
theorem d_PN_fault_11 : decode b_PN_fault 11 = .ok (.ireturn, 1) := by decide +kernel
theorem d_PN_fault_12 : decode b_PN_fault 12 = .ok (.iload_n 1, 1) := by decide +kernel
theorem d_PN_fault_13 : decode b_PN_fault 13 = .ok (.iconst 1, 1) := by decide +kernel
theorem d_PN_fault_14 : decode b_PN_fault 14 = .ok (.if_icmp .ne 13, 3) := by decide +kernel
theorem d_PN_fault_17 : decode b_PN_fault 17 = .ok (.aload_n 0, 1) := by decide +kernel
theorem d_PN_fault_18 : decode b_PN_fault 18 = .ok (.getfield 19, 3) := by decide +kernel
theorem d_PN_fault_21 : decode b_PN_fault 21 = .ok (.getfield 85, 3) := by decide +kernel
theorem d_PN_fault_24 : decode b_PN_fault 24 = .ok (.goto 4, 3) := by decide +kernel
theorem d_PN_fault_27 : decode b_PN_fault 27 = .ok (.iconst (-1), 1) := by decide +kernel
theorem d_PN_fault_28 : decode b_PN_fault 28 = .ok (.ireturn, 1) := by decide +kernel
theorem d_PN_count_0 : decode b_PN_count 0 = .ok (.iload_n 1, 1) := by decide +kernel
theorem d_PN_count_1 : decode b_PN_count 1 = .ok (.tableswitch 51 0 2 #[27, 35, 43], 27) := by decide +kernel
theorem d_PN_count_28 : decode b_PN_count 28 = .ok (.aload_n 0, 1) := by decide +kernel
theorem d_PN_count_29 : decode b_PN_count 29 = .ok (.getfield 26, 3) := by decide +kernel
theorem d_PN_count_32 : decode b_PN_count 32 = .ok (.getfield 88, 3) := by decide +kernel
theorem d_PN_count_35 : decode b_PN_count 35 = .ok (.ireturn, 1) := by decide +kernel
theorem d_PN_count_36 : decode b_PN_count 36 = .ok (.aload_n 0, 1) := by decide +kernel
theorem d_PN_count_37 : decode b_PN_count 37 = .ok (.getfield 33, 3) := by decide +kernel
theorem d_PN_count_40 : decode b_PN_count 40 = .ok (.getfield 82, 3) := by decide +kernel
theorem d_PN_count_43 : decode b_PN_count 43 = .ok (.ireturn, 1) := by decide +kernel
theorem d_PN_count_44 : decode b_PN_count 44 = .ok (.aload_n 0, 1) := by decide +kernel
theorem d_PN_count_45 : decode b_PN_count 45 = .ok (.getfield 10, 3) := by decide +kernel
theorem d_PN_count_48 : decode b_PN_count 48 = .ok (.getfield 91, 3) := by decide +kernel
theorem d_PN_count_51 : decode b_PN_count 51 = .ok (.ireturn, 1) := by decide +kernel
theorem d_PN_count_52 : decode b_PN_count 52 = .ok (.iconst (-1), 1) := by decide +kernel
theorem d_PN_count_53 : decode b_PN_count 53 = .ok (.ireturn, 1) := by decide +kernel
theorem d_TRE_told_0 : decode b_TRE_told 0 = .ok (.iload_n 1, 1) := by decide +kernel
theorem d_TRE_told_1 : decode b_TRE_told 1 = .ok (.ifCond .lt 11, 3) := by decide +kernel
theorem d_TRE_told_4 : decode b_TRE_told 4 = .ok (.iload_n 1, 1) := by decide +kernel
theorem d_TRE_told_5 : decode b_TRE_told 5 = .ok (.aload_n 0, 1) := by decide +kernel
theorem d_TRE_told_6 : decode b_TRE_told 6 = .ok (.getfield 42, 3) := by decide +kernel
theorem d_TRE_told_9 : decode b_TRE_told 9 = .ok (.if_icmp .lt 5, 3) := by decide +kernel
theorem d_TRE_told_12 : decode b_TRE_told 12 = .ok (.iconst (-1), 1) := by decide +kernel
theorem d_TRE_told_13 : decode b_TRE_told 13 = .ok (.ireturn, 1) := by decide +kernel
theorem d_TRE_told_14 : decode b_TRE_told 14 = .ok (.iload_n 2, 1) := by decide +kernel
theorem d_TRE_told_15 : decode b_TRE_told 15 = .ok (.tableswitch 79 0 5 #[37, 44, 51, 58, 65, 72], 37) := by decide +kernel
theorem d_TRE_told_52 : decode b_TRE_told 52 = .ok (.aload_n 0, 1) := by decide +kernel
theorem d_TRE_told_53 : decode b_TRE_told 53 = .ok (.getfield 11, 3) := by decide +kernel
theorem d_TRE_told_56 : decode b_TRE_told 56 = .ok (.iload_n 1, 1) := by decide +kernel
theorem d_TRE_told_57 : decode b_TRE_told 57 = .ok (.iaload, 1) := by decide +kernel
theorem d_TRE_told_58 : decode b_TRE_told 58 = .ok (.ireturn, 1) := by decide +kernel
theorem d_TRE_told_59 : decode b_TRE_told 59 = .ok (.aload_n 0, 1) := by decide +kernel
theorem d_TRE_told_60 : decode b_TRE_told 60 = .ok (.getfield 15, 3) := by decide +kernel
theorem d_TRE_told_63 : decode b_TRE_told 63 = .ok (.iload_n 1, 1) := by decide +kernel
theorem d_TRE_told_64 : decode b_TRE_told 64 = .ok (.iaload, 1) := by decide +kernel
theorem d_TRE_told_65 : decode b_TRE_told 65 = .ok (.ireturn, 1) := by decide +kernel
theorem d_TRE_told_66 : decode b_TRE_told 66 = .ok (.aload_n 0, 1) := by decide +kernel
theorem d_TRE_told_67 : decode b_TRE_told 67 = .ok (.getfield 18, 3) := by decide +kernel
theorem d_TRE_told_70 : decode b_TRE_told 70 = .ok (.iload_n 1, 1) := by decide +kernel
theorem d_TRE_told_71 : decode b_TRE_told 71 = .ok (.iaload, 1) := by decide +kernel
theorem d_TRE_told_72 : decode b_TRE_told 72 = .ok (.ireturn, 1) := by decide +kernel
theorem d_TRE_told_73 : decode b_TRE_told 73 = .ok (.aload_n 0, 1) := by decide +kernel
theorem d_TRE_told_74 : decode b_TRE_told 74 = .ok (.getfield 21, 3) := by decide +kernel
theorem d_TRE_told_77 : decode b_TRE_told 77 = .ok (.iload_n 1, 1) := by decide +kernel
theorem d_TRE_told_78 : decode b_TRE_told 78 = .ok (.iaload, 1) := by decide +kernel
theorem d_TRE_told_79 : decode b_TRE_told 79 = .ok (.ireturn, 1) := by decide +kernel
theorem d_TRE_told_80 : decode b_TRE_told 80 = .ok (.aload_n 0, 1) := by decide +kernel
theorem d_TRE_told_81 : decode b_TRE_told 81 = .ok (.getfield 24, 3) := by decide +kernel
theorem d_TRE_told_84 : decode b_TRE_told 84 = .ok (.iload_n 1, 1) := by decide +kernel
theorem d_TRE_told_85 : decode b_TRE_told 85 = .ok (.iaload, 1) := by decide +kernel
theorem d_TRE_told_86 : decode b_TRE_told 86 = .ok (.ireturn, 1) := by decide +kernel
theorem d_TRE_told_87 : decode b_TRE_told 87 = .ok (.aload_n 0, 1) := by decide +kernel
theorem d_TRE_told_88 : decode b_TRE_told 88 = .ok (.getfield 30, 3) := by decide +kernel
theorem d_TRE_told_91 : decode b_TRE_told 91 = .ok (.iload_n 1, 1) := by decide +kernel
theorem d_TRE_told_92 : decode b_TRE_told 92 = .ok (.iaload, 1) := by decide +kernel
theorem d_TRE_told_93 : decode b_TRE_told 93 = .ok (.ireturn, 1) := by decide +kernel
theorem d_TRE_told_94 : decode b_TRE_told 94 = .ok (.iconst (-1), 1) := by decide +kernel
theorem d_TRE_told_95 : decode b_TRE_told 95 = .ok (.ireturn, 1) := by decide +kernel
theorem d_PN_node_0 : decode b_PN_node 0 = .ok (.aload_n 0, 1) := by decide +kernel
theorem d_PN_node_1 : decode b_PN_node 1 = .ok (.getfield 26, 3) := by decide +kernel
theorem d_PN_node_4 : decode b_PN_node 4 = .ok (.iload_n 1, 1) := by decide +kernel
theorem d_PN_node_5 : decode b_PN_node 5 = .ok (.iload_n 2, 1) := by decide +kernel
theorem d_PN_node_6 : decode b_PN_node 6 = .ok (.invokevirtual 94, 3) := by decide +kernel
theorem d_PN_node_9 : decode b_PN_node 9 = .ok (.ireturn, 1) := by decide +kernel
theorem d_TRE_rangeEdge_0 : decode b_TRE_rangeEdge 0 = .ok (.iload_n 1, 1) := by decide +kernel
theorem d_TRE_rangeEdge_1 : decode b_TRE_rangeEdge 1 = .ok (.ifCond .lt 25, 3) := by decide +kernel
theorem d_TRE_rangeEdge_4 : decode b_TRE_rangeEdge 4 = .ok (.iload_n 1, 1) := by decide +kernel
theorem d_TRE_rangeEdge_5 : decode b_TRE_rangeEdge 5 = .ok (.aload_n 0, 1) := by decide +kernel
theorem d_TRE_rangeEdge_6 : decode b_TRE_rangeEdge 6 = .ok (.getfield 42, 3) := by decide +kernel
theorem d_TRE_rangeEdge_9 : decode b_TRE_rangeEdge 9 = .ok (.if_icmp .ge 17, 3) := by decide +kernel
theorem d_TRE_rangeEdge_12 : decode b_TRE_rangeEdge 12 = .ok (.iload_n 2, 1) := by decide +kernel
theorem d_TRE_rangeEdge_13 : decode b_TRE_rangeEdge 13 = .ok (.ifCond .lt 13, 3) := by decide +kernel
theorem d_TRE_rangeEdge_16 : decode b_TRE_rangeEdge 16 = .ok (.iload_n 2, 1) := by decide +kernel
theorem d_TRE_rangeEdge_17 : decode b_TRE_rangeEdge 17 = .ok (.aload_n 0, 1) := by decide +kernel
theorem d_TRE_rangeEdge_18 : decode b_TRE_rangeEdge 18 = .ok (.getfield 30, 3) := by decide +kernel
theorem d_TRE_rangeEdge_21 : decode b_TRE_rangeEdge 21 = .ok (.iload_n 1, 1) := by decide +kernel
theorem d_TRE_rangeEdge_22 : decode b_TRE_rangeEdge 22 = .ok (.iaload, 1) := by decide +kernel
theorem d_TRE_rangeEdge_23 : decode b_TRE_rangeEdge 23 = .ok (.if_icmp .lt 5, 3) := by decide +kernel
theorem d_TRE_rangeEdge_26 : decode b_TRE_rangeEdge 26 = .ok (.iconst (-1), 1) := by decide +kernel
theorem d_TRE_rangeEdge_27 : decode b_TRE_rangeEdge 27 = .ok (.ireturn, 1) := by decide +kernel
theorem d_TRE_rangeEdge_28 : decode b_TRE_rangeEdge 28 = .ok (.iload_n 3, 1) := by decide +kernel
theorem d_TRE_rangeEdge_29 : decode b_TRE_rangeEdge 29 = .ok (.ifCond .ne 17, 3) := by decide +kernel
theorem d_TRE_rangeEdge_32 : decode b_TRE_rangeEdge 32 = .ok (.aload_n 0, 1) := by decide +kernel
theorem d_TRE_rangeEdge_33 : decode b_TRE_rangeEdge 33 = .ok (.getfield 33, 3) := by decide +kernel
theorem d_TRE_rangeEdge_36 : decode b_TRE_rangeEdge 36 = .ok (.aload_n 0, 1) := by decide +kernel
theorem d_TRE_rangeEdge_37 : decode b_TRE_rangeEdge 37 = .ok (.getfield 27, 3) := by decide +kernel
theorem d_TRE_rangeEdge_40 : decode b_TRE_rangeEdge 40 = .ok (.iload_n 1, 1) := by decide +kernel
theorem d_TRE_rangeEdge_41 : decode b_TRE_rangeEdge 41 = .ok (.iaload, 1) := by decide +kernel
theorem d_TRE_rangeEdge_42 : decode b_TRE_rangeEdge 42 = .ok (.iload_n 2, 1) := by decide +kernel
theorem d_TRE_rangeEdge_43 : decode b_TRE_rangeEdge 43 = .ok (.iadd, 1) := by decide +kernel
theorem d_TRE_rangeEdge_44 : decode b_TRE_rangeEdge 44 = .ok (.iaload, 1) := by decide +kernel
theorem d_TRE_rangeEdge_45 : decode b_TRE_rangeEdge 45 = .ok (.ireturn, 1) := by decide +kernel
theorem d_TRE_rangeEdge_46 : decode b_TRE_rangeEdge 46 = .ok (.iload_n 3, 1) := by decide +kernel
theorem d_TRE_rangeEdge_47 : decode b_TRE_rangeEdge 47 = .ok (.iconst 1, 1) := by decide +kernel
theorem d_TRE_rangeEdge_48 : decode b_TRE_rangeEdge 48 = .ok (.if_icmp .ne 19, 3) := by decide +kernel
theorem d_TRE_rangeEdge_51 : decode b_TRE_rangeEdge 51 = .ok (.aload_n 0, 1) := by decide +kernel
theorem d_TRE_rangeEdge_52 : decode b_TRE_rangeEdge 52 = .ok (.getfield 36, 3) := by decide +kernel
theorem d_TRE_rangeEdge_55 : decode b_TRE_rangeEdge 55 = .ok (.aload_n 0, 1) := by decide +kernel
theorem d_TRE_rangeEdge_56 : decode b_TRE_rangeEdge 56 = .ok (.getfield 27, 3) := by decide +kernel
theorem d_TRE_rangeEdge_59 : decode b_TRE_rangeEdge 59 = .ok (.iload_n 1, 1) := by decide +kernel
theorem d_TRE_rangeEdge_60 : decode b_TRE_rangeEdge 60 = .ok (.iaload, 1) := by decide +kernel
theorem d_TRE_rangeEdge_61 : decode b_TRE_rangeEdge 61 = .ok (.iload_n 2, 1) := by decide +kernel
theorem d_TRE_rangeEdge_62 : decode b_TRE_rangeEdge 62 = .ok (.iadd, 1) := by decide +kernel
theorem d_TRE_rangeEdge_63 : decode b_TRE_rangeEdge 63 = .ok (.iaload, 1) := by decide +kernel
theorem d_TRE_rangeEdge_64 : decode b_TRE_rangeEdge 64 = .ok (.goto 4, 3) := by decide +kernel
theorem d_TRE_rangeEdge_67 : decode b_TRE_rangeEdge 67 = .ok (.iconst (-1), 1) := by decide +kernel
theorem d_TRE_rangeEdge_68 : decode b_TRE_rangeEdge 68 = .ok (.ireturn, 1) := by decide +kernel
theorem d_PN_range_0 : decode b_PN_range 0 = .ok (.aload_n 0, 1) := by decide +kernel
theorem d_PN_range_1 : decode b_PN_range 1 = .ok (.getfield 26, 3) := by decide +kernel
theorem d_PN_range_4 : decode b_PN_range 4 = .ok (.iload_n 1, 1) := by decide +kernel
theorem d_PN_range_5 : decode b_PN_range 5 = .ok (.iload_n 2, 1) := by decide +kernel
theorem d_PN_range_6 : decode b_PN_range 6 = .ok (.iload_n 3, 1) := by decide +kernel
theorem d_PN_range_7 : decode b_PN_range 7 = .ok (.invokevirtual 98, 3) := by decide +kernel
theorem d_PN_range_10 : decode b_PN_range 10 = .ok (.ireturn, 1) := by decide +kernel
theorem d_GRP_nameByte_0 : decode b_GRP_nameByte 0 = .ok (.iload_n 1, 1) := by decide +kernel
theorem d_GRP_nameByte_1 : decode b_GRP_nameByte 1 = .ok (.iconst 1, 1) := by decide +kernel
theorem d_GRP_nameByte_2 : decode b_GRP_nameByte 2 = .ok (.if_icmp .lt 25, 3) := by decide +kernel
theorem d_GRP_nameByte_5 : decode b_GRP_nameByte 5 = .ok (.iload_n 1, 1) := by decide +kernel
theorem d_GRP_nameByte_6 : decode b_GRP_nameByte 6 = .ok (.aload_n 0, 1) := by decide +kernel
theorem d_GRP_nameByte_7 : decode b_GRP_nameByte 7 = .ok (.getfield 18, 3) := by decide +kernel
theorem d_GRP_nameByte_10 : decode b_GRP_nameByte 10 = .ok (.if_icmp .gt 17, 3) := by decide +kernel
theorem d_GRP_nameByte_13 : decode b_GRP_nameByte 13 = .ok (.iload_n 2, 1) := by decide +kernel
theorem d_GRP_nameByte_14 : decode b_GRP_nameByte 14 = .ok (.ifCond .lt 13, 3) := by decide +kernel
theorem d_GRP_nameByte_17 : decode b_GRP_nameByte 17 = .ok (.iload_n 2, 1) := by decide +kernel
theorem d_GRP_nameByte_18 : decode b_GRP_nameByte 18 = .ok (.aload_n 0, 1) := by decide +kernel
theorem d_GRP_nameByte_19 : decode b_GRP_nameByte 19 = .ok (.getfield 9, 3) := by decide +kernel
theorem d_GRP_nameByte_22 : decode b_GRP_nameByte 22 = .ok (.iload_n 1, 1) := by decide +kernel
theorem d_GRP_nameByte_23 : decode b_GRP_nameByte 23 = .ok (.iaload, 1) := by decide +kernel
theorem d_GRP_nameByte_24 : decode b_GRP_nameByte 24 = .ok (.if_icmp .lt 5, 3) := by decide +kernel
theorem d_GRP_nameByte_27 : decode b_GRP_nameByte 27 = .ok (.iconst (-1), 1) := by decide +kernel
theorem d_GRP_nameByte_28 : decode b_GRP_nameByte 28 = .ok (.ireturn, 1) := by decide +kernel
theorem d_GRP_nameByte_29 : decode b_GRP_nameByte 29 = .ok (.aload_n 0, 1) := by decide +kernel
theorem d_GRP_nameByte_30 : decode b_GRP_nameByte 30 = .ok (.getfield 15, 3) := by decide +kernel
theorem d_GRP_nameByte_33 : decode b_GRP_nameByte 33 = .ok (.iload_n 1, 1) := by decide +kernel
theorem d_GRP_nameByte_34 : decode b_GRP_nameByte 34 = .ok (.bipush 12, 2) := by decide +kernel
theorem d_GRP_nameByte_36 : decode b_GRP_nameByte 36 = .ok (.imul, 1) := by decide +kernel
theorem d_GRP_nameByte_37 : decode b_GRP_nameByte 37 = .ok (.iload_n 2, 1) := by decide +kernel
theorem d_GRP_nameByte_38 : decode b_GRP_nameByte 38 = .ok (.iadd, 1) := by decide +kernel
theorem d_GRP_nameByte_39 : decode b_GRP_nameByte 39 = .ok (.iaload, 1) := by decide +kernel
theorem d_GRP_nameByte_40 : decode b_GRP_nameByte 40 = .ok (.ireturn, 1) := by decide +kernel
theorem d_PN_name_0 : decode b_PN_name 0 = .ok (.aload_n 0, 1) := by decide +kernel
theorem d_PN_name_1 : decode b_PN_name 1 = .ok (.getfield 33, 3) := by decide +kernel
theorem d_PN_name_4 : decode b_PN_name 4 = .ok (.iload_n 1, 1) := by decide +kernel
theorem d_PN_name_5 : decode b_PN_name 5 = .ok (.iload_n 2, 1) := by decide +kernel
theorem d_PN_name_6 : decode b_PN_name 6 = .ok (.invokevirtual 102, 3) := by decide +kernel
theorem d_PN_name_9 : decode b_PN_name 9 = .ok (.ireturn, 1) := by decide +kernel
theorem d_MOD_put_0 : decode b_MOD_put 0 = .ok (.aload_n 0, 1) := by decide +kernel
theorem d_MOD_put_1 : decode b_MOD_put 1 = .ok (.iconst 0, 1) := by decide +kernel
theorem d_MOD_put_2 : decode b_MOD_put 2 = .ok (.putfield 92, 3) := by decide +kernel
theorem d_MOD_put_5 : decode b_MOD_put 5 = .ok (.iload_n 3, 1) := by decide +kernel
theorem d_MOD_put_6 : decode b_MOD_put 6 = .ok (.ifCond .lt 21, 3) := by decide +kernel
theorem d_MOD_put_9 : decode b_MOD_put 9 = .ok (.iload_n 3, 1) := by decide +kernel
theorem d_MOD_put_10 : decode b_MOD_put 10 = .ok (.bipush 8, 2) := by decide +kernel
theorem d_MOD_put_12 : decode b_MOD_put 12 = .ok (.if_icmp .gt 15, 3) := by decide +kernel
theorem d_MOD_put_15 : decode b_MOD_put 15 = .ok (.aload_n 0, 1) := by decide +kernel
theorem d_MOD_put_16 : decode b_MOD_put 16 = .ok (.getfield 95, 3) := by decide +kernel
theorem d_MOD_put_19 : decode b_MOD_put 19 = .ok (.iload_n 3, 1) := by decide +kernel
theorem d_MOD_put_20 : decode b_MOD_put 20 = .ok (.iadd, 1) := by decide +kernel
theorem d_MOD_put_21 : decode b_MOD_put 21 = .ok (.sipush 400, 3) := by decide +kernel
theorem d_MOD_put_24 : decode b_MOD_put 24 = .ok (.if_icmp .le 5, 3) := by decide +kernel
theorem d_MOD_put_27 : decode b_MOD_put 27 = .ok (.iconst 0, 1) := by decide +kernel
theorem d_MOD_put_28 : decode b_MOD_put 28 = .ok (.ireturn, 1) := by decide +kernel
theorem d_MOD_put_29 : decode b_MOD_put 29 = .ok (.iload_n 3, 1) := by decide +kernel
theorem d_MOD_put_30 : decode b_MOD_put 30 = .ok (.iconst 1, 1) := by decide +kernel
theorem d_MOD_put_31 : decode b_MOD_put 31 = .ok (.isub, 1) := by decide +kernel
theorem d_MOD_put_32 : decode b_MOD_put 32 = .ok (.istore 4, 2) := by decide +kernel
theorem d_MOD_put_34 : decode b_MOD_put 34 = .ok (.iload 4, 2) := by decide +kernel
theorem d_MOD_put_36 : decode b_MOD_put 36 = .ok (.ifCond .lt 40, 3) := by decide +kernel
theorem d_MOD_put_39 : decode b_MOD_put 39 = .ok (.aload_n 0, 1) := by decide +kernel
theorem d_MOD_put_40 : decode b_MOD_put 40 = .ok (.getfield 7, 3) := by decide +kernel
theorem d_MOD_put_43 : decode b_MOD_put 43 = .ok (.aload_n 0, 1) := by decide +kernel
theorem d_MOD_put_44 : decode b_MOD_put 44 = .ok (.getfield 95, 3) := by decide +kernel
theorem d_MOD_put_47 : decode b_MOD_put 47 = .ok (.lload_n 1, 1) := by decide +kernel
theorem d_MOD_put_48 : decode b_MOD_put 48 = .ok (.bipush 8, 2) := by decide +kernel
theorem d_MOD_put_50 : decode b_MOD_put 50 = .ok (.iload 4, 2) := by decide +kernel
theorem d_MOD_put_52 : decode b_MOD_put 52 = .ok (.imul, 1) := by decide +kernel
theorem d_MOD_put_53 : decode b_MOD_put 53 = .ok (.lshr, 1) := by decide +kernel
theorem d_MOD_put_54 : decode b_MOD_put 54 = .ok (.l2i, 1) := by decide +kernel
theorem d_MOD_put_55 : decode b_MOD_put 55 = .ok (.sipush 255, 3) := by decide +kernel
theorem d_MOD_put_58 : decode b_MOD_put 58 = .ok (.iand, 1) := by decide +kernel
theorem d_MOD_put_59 : decode b_MOD_put 59 = .ok (.iastore, 1) := by decide +kernel
theorem d_MOD_put_60 : decode b_MOD_put 60 = .ok (.aload_n 0, 1) := by decide +kernel
theorem d_MOD_put_61 : decode b_MOD_put 61 = .ok (.dup, 1) := by decide +kernel
theorem d_MOD_put_62 : decode b_MOD_put 62 = .ok (.getfield 95, 3) := by decide +kernel
theorem d_MOD_put_65 : decode b_MOD_put 65 = .ok (.iconst 1, 1) := by decide +kernel
theorem d_MOD_put_66 : decode b_MOD_put 66 = .ok (.iadd, 1) := by decide +kernel
theorem d_MOD_put_67 : decode b_MOD_put 67 = .ok (.putfield 95, 3) := by decide +kernel
theorem d_MOD_put_70 : decode b_MOD_put 70 = .ok (.iinc 4 (-1), 3) := by decide +kernel
theorem d_MOD_put_73 : decode b_MOD_put 73 = .ok (.goto (-39), 3) := by decide +kernel
theorem d_MOD_put_76 : decode b_MOD_put 76 = .ok (.iconst 1, 1) := by decide +kernel
theorem d_MOD_put_77 : decode b_MOD_put 77 = .ok (.ireturn, 1) := by decide +kernel
theorem d_MOD_empty_0 : decode b_MOD_empty 0 = .ok (.aload_n 0, 1) := by decide +kernel
theorem d_MOD_empty_1 : decode b_MOD_empty 1 = .ok (.getfield 77, 3) := by decide +kernel
theorem d_MOD_empty_4 : decode b_MOD_empty 4 = .ok (.iload_n 1, 1) := by decide +kernel
theorem d_MOD_empty_5 : decode b_MOD_empty 5 = .ok (.iconst 0, 1) := by decide +kernel
theorem d_MOD_empty_6 : decode b_MOD_empty 6 = .ok (.iastore, 1) := by decide +kernel
theorem d_MOD_empty_7 : decode b_MOD_empty 7 = .ok (.return_, 1) := by decide +kernel
theorem d_MOD_add_0 : decode b_MOD_add 0 = .ok (.iload_n 2, 1) := by decide +kernel
theorem d_MOD_add_1 : decode b_MOD_add 1 = .ok (.istore 4, 2) := by decide +kernel
theorem d_MOD_add_3 : decode b_MOD_add 3 = .ok (.iload_n 3, 1) := by decide +kernel
theorem d_MOD_add_4 : decode b_MOD_add 4 = .ok (.istore 5, 2) := by decide +kernel
theorem d_MOD_add_6 : decode b_MOD_add 6 = .ok (.sipush 600, 3) := by decide +kernel
theorem d_MOD_add_9 : decode b_MOD_add 9 = .ok (.iload_n 1, 1) := by decide +kernel
theorem d_MOD_add_10 : decode b_MOD_add 10 = .ok (.imul, 1) := by decide +kernel
theorem d_MOD_add_11 : decode b_MOD_add 11 = .ok (.istore 6, 2) := by decide +kernel
theorem d_MOD_add_13 : decode b_MOD_add 13 = .ok (.iconst 0, 1) := by decide +kernel
theorem d_MOD_add_14 : decode b_MOD_add 14 = .ok (.istore 7, 2) := by decide +kernel
theorem d_MOD_add_16 : decode b_MOD_add 16 = .ok (.iconst 0, 1) := by decide +kernel
theorem d_MOD_add_17 : decode b_MOD_add 17 = .ok (.istore 8, 2) := by decide +kernel
theorem d_MOD_add_19 : decode b_MOD_add 19 = .ok (.iload 8, 2) := by decide +kernel
theorem d_MOD_add_21 : decode b_MOD_add 21 = .ok (.aload_n 0, 1) := by decide +kernel
theorem d_MOD_add_22 : decode b_MOD_add 22 = .ok (.getfield 77, 3) := by decide +kernel
theorem d_MOD_add_25 : decode b_MOD_add 25 = .ok (.iload_n 1, 1) := by decide +kernel
theorem d_MOD_add_26 : decode b_MOD_add 26 = .ok (.iaload, 1) := by decide +kernel
theorem d_MOD_add_27 : decode b_MOD_add 27 = .ok (.if_icmp .ge 111, 3) := by decide +kernel
theorem d_MOD_add_30 : decode b_MOD_add 30 = .ok (.aload_n 0, 1) := by decide +kernel
theorem d_MOD_add_31 : decode b_MOD_add 31 = .ok (.getfield 71, 3) := by decide +kernel
theorem d_MOD_add_34 : decode b_MOD_add 34 = .ok (.iload 6, 2) := by decide +kernel
theorem d_MOD_add_36 : decode b_MOD_add 36 = .ok (.iload 8, 2) := by decide +kernel
theorem d_MOD_add_38 : decode b_MOD_add 38 = .ok (.iadd, 1) := by decide +kernel
theorem d_MOD_add_39 : decode b_MOD_add 39 = .ok (.iaload, 1) := by decide +kernel
theorem d_MOD_add_40 : decode b_MOD_add 40 = .ok (.istore 9, 2) := by decide +kernel
theorem d_MOD_add_42 : decode b_MOD_add 42 = .ok (.aload_n 0, 1) := by decide +kernel
theorem d_MOD_add_43 : decode b_MOD_add 43 = .ok (.getfield 74, 3) := by decide +kernel
theorem d_MOD_add_46 : decode b_MOD_add 46 = .ok (.iload 6, 2) := by decide +kernel
theorem d_MOD_add_48 : decode b_MOD_add 48 = .ok (.iload 8, 2) := by decide +kernel
theorem d_MOD_add_50 : decode b_MOD_add 50 = .ok (.iadd, 1) := by decide +kernel
theorem d_MOD_add_51 : decode b_MOD_add 51 = .ok (.iaload, 1) := by decide +kernel
theorem d_MOD_add_52 : decode b_MOD_add 52 = .ok (.istore 10, 2) := by decide +kernel
theorem d_MOD_add_54 : decode b_MOD_add 54 = .ok (.iload 10, 2) := by decide +kernel
theorem d_MOD_add_56 : decode b_MOD_add 56 = .ok (.iconst 1, 1) := by decide +kernel
theorem d_MOD_add_57 : decode b_MOD_add 57 = .ok (.iadd, 1) := by decide +kernel
theorem d_MOD_add_58 : decode b_MOD_add 58 = .ok (.iload_n 2, 1) := by decide +kernel
theorem d_MOD_add_59 : decode b_MOD_add 59 = .ok (.if_icmp .lt 46, 3) := by decide +kernel
theorem d_MOD_add_62 : decode b_MOD_add 62 = .ok (.iload 9, 2) := by decide +kernel
theorem d_MOD_add_64 : decode b_MOD_add 64 = .ok (.iload_n 3, 1) := by decide +kernel
theorem d_MOD_add_65 : decode b_MOD_add 65 = .ok (.iconst 1, 1) := by decide +kernel
theorem d_MOD_add_66 : decode b_MOD_add 66 = .ok (.iadd, 1) := by decide +kernel
theorem d_MOD_add_67 : decode b_MOD_add 67 = .ok (.if_icmp .gt 38, 3) := by decide +kernel
theorem d_MOD_add_70 : decode b_MOD_add 70 = .ok (.iload 9, 2) := by decide +kernel
theorem d_MOD_add_72 : decode b_MOD_add 72 = .ok (.iload 4, 2) := by decide +kernel
theorem d_MOD_add_74 : decode b_MOD_add 74 = .ok (.if_icmp .ge 8, 3) := by decide +kernel
theorem d_MOD_add_77 : decode b_MOD_add 77 = .ok (.iload 9, 2) := by decide +kernel
theorem d_MOD_add_79 : decode b_MOD_add 79 = .ok (.goto 5, 3) := by decide +kernel
theorem d_MOD_add_82 : decode b_MOD_add 82 = .ok (.iload 4, 2) := by decide +kernel
theorem d_MOD_add_84 : decode b_MOD_add 84 = .ok (.istore 4, 2) := by decide +kernel
theorem d_MOD_add_86 : decode b_MOD_add 86 = .ok (.iload 10, 2) := by decide +kernel
theorem d_MOD_add_88 : decode b_MOD_add 88 = .ok (.iload 5, 2) := by decide +kernel
theorem d_MOD_add_90 : decode b_MOD_add 90 = .ok (.if_icmp .le 8, 3) := by decide +kernel
theorem d_MOD_add_93 : decode b_MOD_add 93 = .ok (.iload 10, 2) := by decide +kernel
theorem d_MOD_add_95 : decode b_MOD_add 95 = .ok (.goto 5, 3) := by decide +kernel
theorem d_MOD_add_98 : decode b_MOD_add 98 = .ok (.iload 5, 2) := by decide +kernel
theorem d_MOD_add_100 : decode b_MOD_add 100 = .ok (.istore 5, 2) := by decide +kernel
theorem d_MOD_add_102 : decode b_MOD_add 102 = .ok (.goto 30, 3) := by decide +kernel
theorem d_MOD_add_105 : decode b_MOD_add 105 = .ok (.aload_n 0, 1) := by decide +kernel
theorem d_MOD_add_106 : decode b_MOD_add 106 = .ok (.getfield 71, 3) := by decide +kernel
theorem d_MOD_add_109 : decode b_MOD_add 109 = .ok (.iload 6, 2) := by decide +kernel
theorem d_MOD_add_111 : decode b_MOD_add 111 = .ok (.iload 7, 2) := by decide +kernel
theorem d_MOD_add_113 : decode b_MOD_add 113 = .ok (.iadd, 1) := by decide +kernel
theorem d_MOD_add_114 : decode b_MOD_add 114 = .ok (.iload 9, 2) := by decide +kernel
theorem d_MOD_add_116 : decode b_MOD_add 116 = .ok (.iastore, 1) := by decide +kernel
theorem d_MOD_add_117 : decode b_MOD_add 117 = .ok (.aload_n 0, 1) := by decide +kernel
theorem d_MOD_add_118 : decode b_MOD_add 118 = .ok (.getfield 74, 3) := by decide +kernel
theorem d_MOD_add_121 : decode b_MOD_add 121 = .ok (.iload 6, 2) := by decide +kernel
theorem d_MOD_add_123 : decode b_MOD_add 123 = .ok (.iload 7, 2) := by decide +kernel
theorem d_MOD_add_125 : decode b_MOD_add 125 = .ok (.iadd, 1) := by decide +kernel
theorem d_MOD_add_126 : decode b_MOD_add 126 = .ok (.iload 10, 2) := by decide +kernel
theorem d_MOD_add_128 : decode b_MOD_add 128 = .ok (.iastore, 1) := by decide +kernel
theorem d_MOD_add_129 : decode b_MOD_add 129 = .ok (.iinc 7 1, 3) := by decide +kernel
theorem d_MOD_add_132 : decode b_MOD_add 132 = .ok (.iinc 8 1, 3) := by decide +kernel
theorem d_MOD_add_135 : decode b_MOD_add 135 = .ok (.goto (-116), 3) := by decide +kernel
theorem d_MOD_add_138 : decode b_MOD_add 138 = .ok (.iload 7, 2) := by decide +kernel
theorem d_MOD_add_140 : decode b_MOD_add 140 = .ok (.istore 8, 2) := by decide +kernel
theorem d_MOD_add_142 : decode b_MOD_add 142 = .ok (.iload 8, 2) := by decide +kernel
theorem d_MOD_add_144 : decode b_MOD_add 144 = .ok (.ifCond .le 70, 3) := by decide +kernel
theorem d_MOD_add_147 : decode b_MOD_add 147 = .ok (.aload_n 0, 1) := by decide +kernel
theorem d_MOD_add_148 : decode b_MOD_add 148 = .ok (.getfield 71, 3) := by decide +kernel
theorem d_MOD_add_151 : decode b_MOD_add 151 = .ok (.iload 6, 2) := by decide +kernel
theorem d_MOD_add_153 : decode b_MOD_add 153 = .ok (.iload 8, 2) := by decide +kernel
theorem d_MOD_add_155 : decode b_MOD_add 155 = .ok (.iadd, 1) := by decide +kernel
theorem d_MOD_add_156 : decode b_MOD_add 156 = .ok (.iconst 1, 1) := by decide +kernel
theorem d_MOD_add_157 : decode b_MOD_add 157 = .ok (.isub, 1) := by decide +kernel
theorem d_MOD_add_158 : decode b_MOD_add 158 = .ok (.iaload, 1) := by decide +kernel
theorem d_MOD_add_159 : decode b_MOD_add 159 = .ok (.iload 4, 2) := by decide +kernel
theorem d_MOD_add_161 : decode b_MOD_add 161 = .ok (.if_icmp .le 53, 3) := by decide +kernel
theorem d_MOD_add_164 : decode b_MOD_add 164 = .ok (.aload_n 0, 1) := by decide +kernel
theorem d_MOD_add_165 : decode b_MOD_add 165 = .ok (.getfield 71, 3) := by decide +kernel
theorem d_MOD_add_168 : decode b_MOD_add 168 = .ok (.iload 6, 2) := by decide +kernel
theorem d_MOD_add_170 : decode b_MOD_add 170 = .ok (.iload 8, 2) := by decide +kernel
theorem d_MOD_add_172 : decode b_MOD_add 172 = .ok (.iadd, 1) := by decide +kernel
theorem d_MOD_add_173 : decode b_MOD_add 173 = .ok (.aload_n 0, 1) := by decide +kernel
theorem d_MOD_add_174 : decode b_MOD_add 174 = .ok (.getfield 71, 3) := by decide +kernel
theorem d_MOD_add_177 : decode b_MOD_add 177 = .ok (.iload 6, 2) := by decide +kernel
theorem d_MOD_add_179 : decode b_MOD_add 179 = .ok (.iload 8, 2) := by decide +kernel
theorem d_MOD_add_181 : decode b_MOD_add 181 = .ok (.iadd, 1) := by decide +kernel
theorem d_MOD_add_182 : decode b_MOD_add 182 = .ok (.iconst 1, 1) := by decide +kernel
theorem d_MOD_add_183 : decode b_MOD_add 183 = .ok (.isub, 1) := by decide +kernel
theorem d_MOD_add_184 : decode b_MOD_add 184 = .ok (.iaload, 1) := by decide +kernel
theorem d_MOD_add_185 : decode b_MOD_add 185 = .ok (.iastore, 1) := by decide +kernel
theorem d_MOD_add_186 : decode b_MOD_add 186 = .ok (.aload_n 0, 1) := by decide +kernel
theorem d_MOD_add_187 : decode b_MOD_add 187 = .ok (.getfield 74, 3) := by decide +kernel
theorem d_MOD_add_190 : decode b_MOD_add 190 = .ok (.iload 6, 2) := by decide +kernel
theorem d_MOD_add_192 : decode b_MOD_add 192 = .ok (.iload 8, 2) := by decide +kernel
theorem d_MOD_add_194 : decode b_MOD_add 194 = .ok (.iadd, 1) := by decide +kernel
theorem d_MOD_add_195 : decode b_MOD_add 195 = .ok (.aload_n 0, 1) := by decide +kernel
theorem d_MOD_add_196 : decode b_MOD_add 196 = .ok (.getfield 74, 3) := by decide +kernel
theorem d_MOD_add_199 : decode b_MOD_add 199 = .ok (.iload 6, 2) := by decide +kernel
theorem d_MOD_add_201 : decode b_MOD_add 201 = .ok (.iload 8, 2) := by decide +kernel
theorem d_MOD_add_203 : decode b_MOD_add 203 = .ok (.iadd, 1) := by decide +kernel
theorem d_MOD_add_204 : decode b_MOD_add 204 = .ok (.iconst 1, 1) := by decide +kernel
theorem d_MOD_add_205 : decode b_MOD_add 205 = .ok (.isub, 1) := by decide +kernel
theorem d_MOD_add_206 : decode b_MOD_add 206 = .ok (.iaload, 1) := by decide +kernel
theorem d_MOD_add_207 : decode b_MOD_add 207 = .ok (.iastore, 1) := by decide +kernel
theorem d_MOD_add_208 : decode b_MOD_add 208 = .ok (.iinc 8 (-1), 3) := by decide +kernel
theorem d_MOD_add_211 : decode b_MOD_add 211 = .ok (.goto (-69), 3) := by decide +kernel
theorem d_MOD_add_214 : decode b_MOD_add 214 = .ok (.aload_n 0, 1) := by decide +kernel
theorem d_MOD_add_215 : decode b_MOD_add 215 = .ok (.getfield 71, 3) := by decide +kernel
theorem d_MOD_add_218 : decode b_MOD_add 218 = .ok (.iload 6, 2) := by decide +kernel
theorem d_MOD_add_220 : decode b_MOD_add 220 = .ok (.iload 8, 2) := by decide +kernel
theorem d_MOD_add_222 : decode b_MOD_add 222 = .ok (.iadd, 1) := by decide +kernel
theorem d_MOD_add_223 : decode b_MOD_add 223 = .ok (.iload 4, 2) := by decide +kernel
theorem d_MOD_add_225 : decode b_MOD_add 225 = .ok (.iastore, 1) := by decide +kernel
theorem d_MOD_add_226 : decode b_MOD_add 226 = .ok (.aload_n 0, 1) := by decide +kernel
theorem d_MOD_add_227 : decode b_MOD_add 227 = .ok (.getfield 74, 3) := by decide +kernel
theorem d_MOD_add_230 : decode b_MOD_add 230 = .ok (.iload 6, 2) := by decide +kernel
theorem d_MOD_add_232 : decode b_MOD_add 232 = .ok (.iload 8, 2) := by decide +kernel
theorem d_MOD_add_234 : decode b_MOD_add 234 = .ok (.iadd, 1) := by decide +kernel
theorem d_MOD_add_235 : decode b_MOD_add 235 = .ok (.iload 5, 2) := by decide +kernel
theorem d_MOD_add_237 : decode b_MOD_add 237 = .ok (.iastore, 1) := by decide +kernel
theorem d_MOD_add_238 : decode b_MOD_add 238 = .ok (.aload_n 0, 1) := by decide +kernel
theorem d_MOD_add_239 : decode b_MOD_add 239 = .ok (.getfield 77, 3) := by decide +kernel
theorem d_MOD_add_242 : decode b_MOD_add 242 = .ok (.iload_n 1, 1) := by decide +kernel
theorem d_MOD_add_243 : decode b_MOD_add 243 = .ok (.iload 7, 2) := by decide +kernel
theorem d_MOD_add_245 : decode b_MOD_add 245 = .ok (.iconst 1, 1) := by decide +kernel
theorem d_MOD_add_246 : decode b_MOD_add 246 = .ok (.iadd, 1) := by decide +kernel
theorem d_MOD_add_247 : decode b_MOD_add 247 = .ok (.iastore, 1) := by decide +kernel
theorem d_MOD_add_248 : decode b_MOD_add 248 = .ok (.return_, 1) := by decide +kernel
theorem d_MOD_has_0 : decode b_MOD_has 0 = .ok (.iconst 0, 1) := by decide +kernel
theorem d_MOD_has_1 : decode b_MOD_has 1 = .ok (.istore 4, 2) := by decide +kernel
theorem d_MOD_has_3 : decode b_MOD_has 3 = .ok (.iconst 0, 1) := by decide +kernel
theorem d_MOD_has_4 : decode b_MOD_has 4 = .ok (.istore 5, 2) := by decide +kernel
theorem d_MOD_has_6 : decode b_MOD_has 6 = .ok (.iload 5, 2) := by decide +kernel
theorem d_MOD_has_8 : decode b_MOD_has 8 = .ok (.aload_n 0, 1) := by decide +kernel
theorem d_MOD_has_9 : decode b_MOD_has 9 = .ok (.getfield 77, 3) := by decide +kernel
theorem d_MOD_has_12 : decode b_MOD_has 12 = .ok (.iload_n 1, 1) := by decide +kernel
theorem d_MOD_has_13 : decode b_MOD_has 13 = .ok (.iaload, 1) := by decide +kernel
theorem d_MOD_has_14 : decode b_MOD_has 14 = .ok (.if_icmp .ge 55, 3) := by decide +kernel
theorem d_MOD_has_17 : decode b_MOD_has 17 = .ok (.iload 4, 2) := by decide +kernel
theorem d_MOD_has_19 : decode b_MOD_has 19 = .ok (.ifCond .ne 37, 3) := by decide +kernel
theorem d_MOD_has_22 : decode b_MOD_has 22 = .ok (.aload_n 0, 1) := by decide +kernel
theorem d_MOD_has_23 : decode b_MOD_has 23 = .ok (.getfield 71, 3) := by decide +kernel
theorem d_MOD_has_26 : decode b_MOD_has 26 = .ok (.sipush 600, 3) := by decide +kernel
theorem d_MOD_has_29 : decode b_MOD_has 29 = .ok (.iload_n 1, 1) := by decide +kernel
theorem d_MOD_has_30 : decode b_MOD_has 30 = .ok (.imul, 1) := by decide +kernel
theorem d_MOD_has_31 : decode b_MOD_has 31 = .ok (.iload 5, 2) := by decide +kernel
theorem d_MOD_has_33 : decode b_MOD_has 33 = .ok (.iadd, 1) := by decide +kernel
theorem d_MOD_has_34 : decode b_MOD_has 34 = .ok (.iaload, 1) := by decide +kernel
theorem d_MOD_has_35 : decode b_MOD_has 35 = .ok (.iload_n 2, 1) := by decide +kernel
theorem d_MOD_has_36 : decode b_MOD_has 36 = .ok (.if_icmp .gt 24, 3) := by decide +kernel
theorem d_MOD_has_39 : decode b_MOD_has 39 = .ok (.iload_n 3, 1) := by decide +kernel
theorem d_MOD_has_40 : decode b_MOD_has 40 = .ok (.aload_n 0, 1) := by decide +kernel
theorem d_MOD_has_41 : decode b_MOD_has 41 = .ok (.getfield 74, 3) := by decide +kernel
theorem d_MOD_has_44 : decode b_MOD_has 44 = .ok (.sipush 600, 3) := by decide +kernel
theorem d_MOD_has_47 : decode b_MOD_has 47 = .ok (.iload_n 1, 1) := by decide +kernel
theorem d_MOD_has_48 : decode b_MOD_has 48 = .ok (.imul, 1) := by decide +kernel
theorem d_MOD_has_49 : decode b_MOD_has 49 = .ok (.iload 5, 2) := by decide +kernel
theorem d_MOD_has_51 : decode b_MOD_has 51 = .ok (.iadd, 1) := by decide +kernel
theorem d_MOD_has_52 : decode b_MOD_has 52 = .ok (.iaload, 1) := by decide +kernel
theorem d_MOD_has_53 : decode b_MOD_has 53 = .ok (.if_icmp .gt 7, 3) := by decide +kernel
theorem d_MOD_has_56 : decode b_MOD_has 56 = .ok (.iconst 1, 1) := by decide +kernel
theorem d_MOD_has_57 : decode b_MOD_has 57 = .ok (.goto 4, 3) := by decide +kernel
theorem d_MOD_has_60 : decode b_MOD_has 60 = .ok (.iconst 0, 1) := by decide +kernel
theorem d_MOD_has_61 : decode b_MOD_has 61 = .ok (.istore 4, 2) := by decide +kernel
theorem d_MOD_has_63 : decode b_MOD_has 63 = .ok (.iinc 5 1, 3) := by decide +kernel
theorem d_MOD_has_66 : decode b_MOD_has 66 = .ok (.goto (-60), 3) := by decide +kernel
theorem d_MOD_has_69 : decode b_MOD_has 69 = .ok (.iload 4, 2) := by decide +kernel
theorem d_MOD_has_71 : decode b_MOD_has 71 = .ok (.ireturn, 1) := by decide +kernel
theorem d_MOD_give_0 : decode b_MOD_give 0 = .ok (.iconst 0, 1) := by decide +kernel
theorem d_MOD_give_1 : decode b_MOD_give 1 = .ok (.istore_n 2, 1) := by decide +kernel
theorem d_MOD_give_2 : decode b_MOD_give 2 = .ok (.iconst 0, 1) := by decide +kernel
theorem d_MOD_give_3 : decode b_MOD_give 3 = .ok (.istore_n 3, 1) := by decide +kernel
theorem d_MOD_give_4 : decode b_MOD_give 4 = .ok (.iload_n 3, 1) := by decide +kernel
theorem d_MOD_give_5 : decode b_MOD_give 5 = .ok (.aload_n 0, 1) := by decide +kernel
theorem d_MOD_give_6 : decode b_MOD_give 6 = .ok (.getfield 77, 3) := by decide +kernel
theorem d_MOD_give_9 : decode b_MOD_give 9 = .ok (.iconst 1, 1) := by decide +kernel
theorem d_MOD_give_10 : decode b_MOD_give 10 = .ok (.iaload, 1) := by decide +kernel
theorem d_MOD_give_11 : decode b_MOD_give 11 = .ok (.if_icmp .ge 71, 3) := by decide +kernel
theorem d_MOD_give_14 : decode b_MOD_give 14 = .ok (.aload_n 0, 1) := by decide +kernel
theorem d_MOD_give_15 : decode b_MOD_give 15 = .ok (.getfield 71, 3) := by decide +kernel
theorem d_MOD_give_18 : decode b_MOD_give 18 = .ok (.sipush 600, 3) := by decide +kernel
theorem d_MOD_give_21 : decode b_MOD_give 21 = .ok (.iload_n 3, 1) := by decide +kernel
theorem d_MOD_give_22 : decode b_MOD_give 22 = .ok (.iadd, 1) := by decide +kernel
theorem d_MOD_give_23 : decode b_MOD_give 23 = .ok (.iaload, 1) := by decide +kernel
theorem d_MOD_give_24 : decode b_MOD_give 24 = .ok (.istore 4, 2) := by decide +kernel
theorem d_MOD_give_26 : decode b_MOD_give 26 = .ok (.aload_n 0, 1) := by decide +kernel
theorem d_MOD_give_27 : decode b_MOD_give 27 = .ok (.getfield 74, 3) := by decide +kernel
theorem d_MOD_give_30 : decode b_MOD_give 30 = .ok (.sipush 600, 3) := by decide +kernel
theorem d_MOD_give_33 : decode b_MOD_give 33 = .ok (.iload_n 3, 1) := by decide +kernel
theorem d_MOD_give_34 : decode b_MOD_give 34 = .ok (.iadd, 1) := by decide +kernel
theorem d_MOD_give_35 : decode b_MOD_give 35 = .ok (.iaload, 1) := by decide +kernel
theorem d_MOD_give_36 : decode b_MOD_give 36 = .ok (.istore 5, 2) := by decide +kernel
theorem d_MOD_give_38 : decode b_MOD_give 38 = .ok (.iload_n 1, 1) := by decide +kernel
theorem d_MOD_give_39 : decode b_MOD_give 39 = .ok (.ifCond .ne 12, 3) := by decide +kernel
theorem d_MOD_give_42 : decode b_MOD_give 42 = .ok (.aload_n 0, 1) := by decide +kernel
theorem d_MOD_give_43 : decode b_MOD_give 43 = .ok (.iconst 0, 1) := by decide +kernel
theorem d_MOD_give_44 : decode b_MOD_give 44 = .ok (.iload 4, 2) := by decide +kernel
theorem d_MOD_give_46 : decode b_MOD_give 46 = .ok (.iload 5, 2) := by decide +kernel
theorem d_MOD_give_48 : decode b_MOD_give 48 = .ok (.invokevirtual 98, 3) := by decide +kernel
theorem d_MOD_give_51 : decode b_MOD_give 51 = .ok (.iload_n 1, 1) := by decide +kernel
theorem d_MOD_give_52 : decode b_MOD_give 52 = .ok (.ifCond .eq 19, 3) := by decide +kernel
theorem d_MOD_give_55 : decode b_MOD_give 55 = .ok (.iload 4, 2) := by decide +kernel
theorem d_MOD_give_57 : decode b_MOD_give 57 = .ok (.iload_n 2, 1) := by decide +kernel
theorem d_MOD_give_58 : decode b_MOD_give 58 = .ok (.if_icmp .le 13, 3) := by decide +kernel
theorem d_MOD_give_61 : decode b_MOD_give 61 = .ok (.aload_n 0, 1) := by decide +kernel
theorem d_MOD_give_62 : decode b_MOD_give 62 = .ok (.iconst 0, 1) := by decide +kernel
theorem d_MOD_give_63 : decode b_MOD_give 63 = .ok (.iload_n 2, 1) := by decide +kernel
theorem d_MOD_give_64 : decode b_MOD_give 64 = .ok (.iload 4, 2) := by decide +kernel
theorem d_MOD_give_66 : decode b_MOD_give 66 = .ok (.iconst 1, 1) := by decide +kernel
theorem d_MOD_give_67 : decode b_MOD_give 67 = .ok (.isub, 1) := by decide +kernel
theorem d_MOD_give_68 : decode b_MOD_give 68 = .ok (.invokevirtual 98, 3) := by decide +kernel
theorem d_MOD_give_71 : decode b_MOD_give 71 = .ok (.iload 5, 2) := by decide +kernel
theorem d_MOD_give_73 : decode b_MOD_give 73 = .ok (.iconst 1, 1) := by decide +kernel
theorem d_MOD_give_74 : decode b_MOD_give 74 = .ok (.iadd, 1) := by decide +kernel
theorem d_MOD_give_75 : decode b_MOD_give 75 = .ok (.istore_n 2, 1) := by decide +kernel
theorem d_MOD_give_76 : decode b_MOD_give 76 = .ok (.iinc 3 1, 3) := by decide +kernel
theorem d_MOD_give_79 : decode b_MOD_give 79 = .ok (.goto (-75), 3) := by decide +kernel
theorem d_MOD_give_82 : decode b_MOD_give 82 = .ok (.iload_n 1, 1) := by decide +kernel
theorem d_MOD_give_83 : decode b_MOD_give 83 = .ok (.ifCond .eq 17, 3) := by decide +kernel
theorem d_MOD_give_86 : decode b_MOD_give 86 = .ok (.iload_n 2, 1) := by decide +kernel
theorem d_MOD_give_87 : decode b_MOD_give 87 = .ok (.ldc 102, 2) := by decide +kernel
theorem d_MOD_give_89 : decode b_MOD_give 89 = .ok (.if_icmp .gt 11, 3) := by decide +kernel
theorem d_MOD_give_92 : decode b_MOD_give 92 = .ok (.aload_n 0, 1) := by decide +kernel
theorem d_MOD_give_93 : decode b_MOD_give 93 = .ok (.iconst 0, 1) := by decide +kernel
theorem d_MOD_give_94 : decode b_MOD_give 94 = .ok (.iload_n 2, 1) := by decide +kernel
theorem d_MOD_give_95 : decode b_MOD_give 95 = .ok (.ldc 102, 2) := by decide +kernel
theorem d_MOD_give_97 : decode b_MOD_give 97 = .ok (.invokevirtual 98, 3) := by decide +kernel
theorem d_MOD_give_100 : decode b_MOD_give 100 = .ok (.return_, 1) := by decide +kernel
theorem d_MOD_negate_0 : decode b_MOD_negate 0 = .ok (.aload_n 0, 1) := by decide +kernel
theorem d_MOD_negate_1 : decode b_MOD_negate 1 = .ok (.iconst 1, 1) := by decide +kernel
theorem d_MOD_negate_2 : decode b_MOD_negate 2 = .ok (.invokevirtual 103, 3) := by decide +kernel
theorem d_MOD_negate_5 : decode b_MOD_negate 5 = .ok (.iconst 0, 1) := by decide +kernel
theorem d_MOD_negate_6 : decode b_MOD_negate 6 = .ok (.istore_n 1, 1) := by decide +kernel
theorem d_MOD_negate_7 : decode b_MOD_negate 7 = .ok (.iload_n 1, 1) := by decide +kernel
theorem d_MOD_negate_8 : decode b_MOD_negate 8 = .ok (.aload_n 0, 1) := by decide +kernel
theorem d_MOD_negate_9 : decode b_MOD_negate 9 = .ok (.getfield 77, 3) := by decide +kernel
theorem d_MOD_negate_12 : decode b_MOD_negate 12 = .ok (.iconst 0, 1) := by decide +kernel
theorem d_MOD_negate_13 : decode b_MOD_negate 13 = .ok (.iaload, 1) := by decide +kernel
theorem d_MOD_negate_14 : decode b_MOD_negate 14 = .ok (.if_icmp .ge 26, 3) := by decide +kernel
theorem d_MOD_negate_17 : decode b_MOD_negate 17 = .ok (.aload_n 0, 1) := by decide +kernel
theorem d_MOD_negate_18 : decode b_MOD_negate 18 = .ok (.iconst 1, 1) := by decide +kernel
theorem d_MOD_negate_19 : decode b_MOD_negate 19 = .ok (.aload_n 0, 1) := by decide +kernel
theorem d_MOD_negate_20 : decode b_MOD_negate 20 = .ok (.getfield 71, 3) := by decide +kernel
theorem d_MOD_negate_23 : decode b_MOD_negate 23 = .ok (.iload_n 1, 1) := by decide +kernel
theorem d_MOD_negate_24 : decode b_MOD_negate 24 = .ok (.iaload, 1) := by decide +kernel
theorem d_MOD_negate_25 : decode b_MOD_negate 25 = .ok (.aload_n 0, 1) := by decide +kernel
theorem d_MOD_negate_26 : decode b_MOD_negate 26 = .ok (.getfield 74, 3) := by decide +kernel
theorem d_MOD_negate_29 : decode b_MOD_negate 29 = .ok (.iload_n 1, 1) := by decide +kernel
theorem d_MOD_negate_30 : decode b_MOD_negate 30 = .ok (.iaload, 1) := by decide +kernel
theorem d_MOD_negate_31 : decode b_MOD_negate 31 = .ok (.invokevirtual 98, 3) := by decide +kernel
theorem d_MOD_negate_34 : decode b_MOD_negate 34 = .ok (.iinc 1 1, 3) := by decide +kernel
theorem d_MOD_negate_37 : decode b_MOD_negate 37 = .ok (.goto (-30), 3) := by decide +kernel
theorem d_MOD_negate_40 : decode b_MOD_negate 40 = .ok (.aload_n 0, 1) := by decide +kernel
theorem d_MOD_negate_41 : decode b_MOD_negate 41 = .ok (.iconst 0, 1) := by decide +kernel
theorem d_MOD_negate_42 : decode b_MOD_negate 42 = .ok (.invokevirtual 103, 3) := by decide +kernel
theorem d_MOD_negate_45 : decode b_MOD_negate 45 = .ok (.aload_n 0, 1) := by decide +kernel
theorem d_MOD_negate_46 : decode b_MOD_negate 46 = .ok (.iconst 1, 1) := by decide +kernel
theorem d_MOD_negate_47 : decode b_MOD_negate 47 = .ok (.invokevirtual 107, 3) := by decide +kernel
theorem d_MOD_negate_50 : decode b_MOD_negate 50 = .ok (.return_, 1) := by decide +kernel
theorem d_MOD_shift_0 : decode b_MOD_shift 0 = .ok (.iconst 0, 1) := by decide +kernel
theorem d_MOD_shift_1 : decode b_MOD_shift 1 = .ok (.istore 4, 2) := by decide +kernel
theorem d_MOD_shift_3 : decode b_MOD_shift 3 = .ok (.iload 4, 2) := by decide +kernel
theorem d_MOD_shift_5 : decode b_MOD_shift 5 = .ok (.aload_n 0, 1) := by decide +kernel
theorem d_MOD_shift_6 : decode b_MOD_shift 6 = .ok (.getfield 77, 3) := by decide +kernel
theorem d_MOD_shift_9 : decode b_MOD_shift 9 = .ok (.iconst 1, 1) := by decide +kernel
theorem d_MOD_shift_10 : decode b_MOD_shift 10 = .ok (.iaload, 1) := by decide +kernel
theorem d_MOD_shift_11 : decode b_MOD_shift 11 = .ok (.if_icmp .ge 114, 3) := by decide +kernel
theorem d_MOD_shift_14 : decode b_MOD_shift 14 = .ok (.aload_n 0, 1) := by decide +kernel
theorem d_MOD_shift_15 : decode b_MOD_shift 15 = .ok (.getfield 71, 3) := by decide +kernel
theorem d_MOD_shift_18 : decode b_MOD_shift 18 = .ok (.sipush 600, 3) := by decide +kernel
theorem d_MOD_shift_21 : decode b_MOD_shift 21 = .ok (.iload 4, 2) := by decide +kernel
theorem d_MOD_shift_23 : decode b_MOD_shift 23 = .ok (.iadd, 1) := by decide +kernel
theorem d_MOD_shift_24 : decode b_MOD_shift 24 = .ok (.iaload, 1) := by decide +kernel
theorem d_MOD_shift_25 : decode b_MOD_shift 25 = .ok (.iload_n 1, 1) := by decide +kernel
theorem d_MOD_shift_26 : decode b_MOD_shift 26 = .ok (.if_icmp .le 17, 3) := by decide +kernel
theorem d_MOD_shift_29 : decode b_MOD_shift 29 = .ok (.aload_n 0, 1) := by decide +kernel
theorem d_MOD_shift_30 : decode b_MOD_shift 30 = .ok (.getfield 71, 3) := by decide +kernel
theorem d_MOD_shift_33 : decode b_MOD_shift 33 = .ok (.sipush 600, 3) := by decide +kernel
theorem d_MOD_shift_36 : decode b_MOD_shift 36 = .ok (.iload 4, 2) := by decide +kernel
theorem d_MOD_shift_38 : decode b_MOD_shift 38 = .ok (.iadd, 1) := by decide +kernel
theorem d_MOD_shift_39 : decode b_MOD_shift 39 = .ok (.iaload, 1) := by decide +kernel
theorem d_MOD_shift_40 : decode b_MOD_shift 40 = .ok (.goto 4, 3) := by decide +kernel
theorem d_MOD_shift_43 : decode b_MOD_shift 43 = .ok (.iload_n 1, 1) := by decide +kernel
theorem d_MOD_shift_44 : decode b_MOD_shift 44 = .ok (.istore 5, 2) := by decide +kernel
theorem d_MOD_shift_46 : decode b_MOD_shift 46 = .ok (.aload_n 0, 1) := by decide +kernel
theorem d_MOD_shift_47 : decode b_MOD_shift 47 = .ok (.getfield 74, 3) := by decide +kernel
theorem d_MOD_shift_50 : decode b_MOD_shift 50 = .ok (.sipush 600, 3) := by decide +kernel
theorem d_MOD_shift_53 : decode b_MOD_shift 53 = .ok (.iload 4, 2) := by decide +kernel
theorem d_MOD_shift_55 : decode b_MOD_shift 55 = .ok (.iadd, 1) := by decide +kernel
theorem d_MOD_shift_56 : decode b_MOD_shift 56 = .ok (.iaload, 1) := by decide +kernel
theorem d_MOD_shift_57 : decode b_MOD_shift 57 = .ok (.iload_n 2, 1) := by decide +kernel
theorem d_MOD_shift_58 : decode b_MOD_shift 58 = .ok (.if_icmp .ge 17, 3) := by decide +kernel
theorem d_MOD_shift_61 : decode b_MOD_shift 61 = .ok (.aload_n 0, 1) := by decide +kernel
theorem d_MOD_shift_62 : decode b_MOD_shift 62 = .ok (.getfield 74, 3) := by decide +kernel
theorem d_MOD_shift_65 : decode b_MOD_shift 65 = .ok (.sipush 600, 3) := by decide +kernel
theorem d_MOD_shift_68 : decode b_MOD_shift 68 = .ok (.iload 4, 2) := by decide +kernel
theorem d_MOD_shift_70 : decode b_MOD_shift 70 = .ok (.iadd, 1) := by decide +kernel
theorem d_MOD_shift_71 : decode b_MOD_shift 71 = .ok (.iaload, 1) := by decide +kernel
theorem d_MOD_shift_72 : decode b_MOD_shift 72 = .ok (.goto 4, 3) := by decide +kernel
theorem d_MOD_shift_75 : decode b_MOD_shift 75 = .ok (.iload_n 2, 1) := by decide +kernel
theorem d_MOD_shift_76 : decode b_MOD_shift 76 = .ok (.istore 6, 2) := by decide +kernel
theorem d_MOD_shift_78 : decode b_MOD_shift 78 = .ok (.iload 5, 2) := by decide +kernel
theorem d_MOD_shift_80 : decode b_MOD_shift 80 = .ok (.iload 6, 2) := by decide +kernel
theorem d_MOD_shift_82 : decode b_MOD_shift 82 = .ok (.if_icmp .gt 37, 3) := by decide +kernel
theorem d_MOD_shift_85 : decode b_MOD_shift 85 = .ok (.aload_n 0, 1) := by decide +kernel
theorem d_MOD_shift_86 : decode b_MOD_shift 86 = .ok (.iconst 1, 1) := by decide +kernel
theorem d_MOD_shift_87 : decode b_MOD_shift 87 = .ok (.iload 5, 2) := by decide +kernel
theorem d_MOD_shift_89 : decode b_MOD_shift 89 = .ok (.iload_n 3, 1) := by decide +kernel
theorem d_MOD_shift_90 : decode b_MOD_shift 90 = .ok (.isub, 1) := by decide +kernel
theorem d_MOD_shift_91 : decode b_MOD_shift 91 = .ok (.iload 6, 2) := by decide +kernel
theorem d_MOD_shift_93 : decode b_MOD_shift 93 = .ok (.iload_n 3, 1) := by decide +kernel
theorem d_MOD_shift_94 : decode b_MOD_shift 94 = .ok (.isub, 1) := by decide +kernel
theorem d_MOD_shift_95 : decode b_MOD_shift 95 = .ok (.invokevirtual 111, 3) := by decide +kernel
theorem d_MOD_shift_98 : decode b_MOD_shift 98 = .ok (.ifCond .eq 6, 3) := by decide +kernel
theorem d_MOD_shift_101 : decode b_MOD_shift 101 = .ok (.goto 18, 3) := by decide +kernel
theorem d_MOD_shift_104 : decode b_MOD_shift 104 = .ok (.aload_n 0, 1) := by decide +kernel
theorem d_MOD_shift_105 : decode b_MOD_shift 105 = .ok (.iconst 1, 1) := by decide +kernel
theorem d_MOD_shift_106 : decode b_MOD_shift 106 = .ok (.iload 5, 2) := by decide +kernel
theorem d_MOD_shift_108 : decode b_MOD_shift 108 = .ok (.iload_n 3, 1) := by decide +kernel
theorem d_MOD_shift_109 : decode b_MOD_shift 109 = .ok (.isub, 1) := by decide +kernel
theorem d_MOD_shift_110 : decode b_MOD_shift 110 = .ok (.iload 6, 2) := by decide +kernel
theorem d_MOD_shift_112 : decode b_MOD_shift 112 = .ok (.iload_n 3, 1) := by decide +kernel
theorem d_MOD_shift_113 : decode b_MOD_shift 113 = .ok (.isub, 1) := by decide +kernel
theorem d_MOD_shift_114 : decode b_MOD_shift 114 = .ok (.invokevirtual 98, 3) := by decide +kernel
theorem d_MOD_shift_117 : decode b_MOD_shift 117 = .ok (.iconst 1, 1) := by decide +kernel
theorem d_MOD_shift_118 : decode b_MOD_shift 118 = .ok (.ireturn, 1) := by decide +kernel
theorem d_MOD_shift_119 : decode b_MOD_shift 119 = .ok (.iinc 4 1, 3) := by decide +kernel
theorem d_MOD_shift_122 : decode b_MOD_shift 122 = .ok (.goto (-119), 3) := by decide +kernel
theorem d_MOD_shift_125 : decode b_MOD_shift 125 = .ok (.iconst 0, 1) := by decide +kernel
theorem d_MOD_shift_126 : decode b_MOD_shift 126 = .ok (.ireturn, 1) := by decide +kernel
theorem d_MOD_take_0 : decode b_MOD_take 0 = .ok (.aload_n 0, 1) := by decide +kernel
theorem d_MOD_take_1 : decode b_MOD_take 1 = .ok (.iconst 1, 1) := by decide +kernel
theorem d_MOD_take_2 : decode b_MOD_take 2 = .ok (.invokevirtual 103, 3) := by decide +kernel
theorem d_MOD_take_5 : decode b_MOD_take 5 = .ok (.aload_n 0, 1) := by decide +kernel
theorem d_MOD_take_6 : decode b_MOD_take 6 = .ok (.iconst 1, 1) := by decide +kernel
theorem d_MOD_take_7 : decode b_MOD_take 7 = .ok (.iload_n 1, 1) := by decide +kernel
theorem d_MOD_take_8 : decode b_MOD_take 8 = .ok (.iload_n 2, 1) := by decide +kernel
theorem d_MOD_take_9 : decode b_MOD_take 9 = .ok (.invokevirtual 98, 3) := by decide +kernel
theorem d_MOD_take_12 : decode b_MOD_take 12 = .ok (.aload_n 0, 1) := by decide +kernel
theorem d_MOD_take_13 : decode b_MOD_take 13 = .ok (.getfield 115, 3) := by decide +kernel
theorem d_MOD_take_16 : decode b_MOD_take 16 = .ok (.iconst 1, 1) := by decide +kernel
theorem d_MOD_take_17 : decode b_MOD_take 17 = .ok (.iand, 1) := by decide +kernel
theorem d_MOD_take_18 : decode b_MOD_take 18 = .ok (.iconst 1, 1) := by decide +kernel
theorem d_MOD_take_19 : decode b_MOD_take 19 = .ok (.if_icmp .ne 7, 3) := by decide +kernel
theorem d_MOD_take_22 : decode b_MOD_take 22 = .ok (.iconst 1, 1) := by decide +kernel
theorem d_MOD_take_23 : decode b_MOD_take 23 = .ok (.goto 4, 3) := by decide +kernel
theorem d_MOD_take_26 : decode b_MOD_take 26 = .ok (.iconst 0, 1) := by decide +kernel
theorem d_MOD_take_27 : decode b_MOD_take 27 = .ok (.istore_n 3, 1) := by decide +kernel
theorem d_MOD_take_28 : decode b_MOD_take 28 = .ok (.iload_n 3, 1) := by decide +kernel
theorem d_MOD_take_29 : decode b_MOD_take 29 = .ok (.ifCond .eq 116, 3) := by decide +kernel
theorem d_MOD_take_32 : decode b_MOD_take 32 = .ok (.iconst 0, 1) := by decide +kernel
theorem d_MOD_take_33 : decode b_MOD_take 33 = .ok (.istore_n 3, 1) := by decide +kernel
theorem d_MOD_take_34 : decode b_MOD_take 34 = .ok (.iconst 0, 1) := by decide +kernel
theorem d_MOD_take_35 : decode b_MOD_take 35 = .ok (.istore 4, 2) := by decide +kernel
theorem d_MOD_take_37 : decode b_MOD_take 37 = .ok (.iload 4, 2) := by decide +kernel
theorem d_MOD_take_39 : decode b_MOD_take 39 = .ok (.aload_n 0, 1) := by decide +kernel
theorem d_MOD_take_40 : decode b_MOD_take 40 = .ok (.getfield 80, 3) := by decide +kernel
theorem d_MOD_take_43 : decode b_MOD_take 43 = .ok (.arraylength, 1) := by decide +kernel
theorem d_MOD_take_44 : decode b_MOD_take 44 = .ok (.if_icmp .ge 98, 3) := by decide +kernel
theorem d_MOD_take_47 : decode b_MOD_take 47 = .ok (.aload_n 0, 1) := by decide +kernel
theorem d_MOD_take_48 : decode b_MOD_take 48 = .ok (.aload_n 0, 1) := by decide +kernel
theorem d_MOD_take_49 : decode b_MOD_take 49 = .ok (.getfield 80, 3) := by decide +kernel
theorem d_MOD_take_52 : decode b_MOD_take 52 = .ok (.iload 4, 2) := by decide +kernel
theorem d_MOD_take_54 : decode b_MOD_take 54 = .ok (.iaload, 1) := by decide +kernel
theorem d_MOD_take_55 : decode b_MOD_take 55 = .ok (.aload_n 0, 1) := by decide +kernel
theorem d_MOD_take_56 : decode b_MOD_take 56 = .ok (.getfield 80, 3) := by decide +kernel
theorem d_MOD_take_59 : decode b_MOD_take 59 = .ok (.iload 4, 2) := by decide +kernel
theorem d_MOD_take_61 : decode b_MOD_take 61 = .ok (.iconst 1, 1) := by decide +kernel
theorem d_MOD_take_62 : decode b_MOD_take 62 = .ok (.iadd, 1) := by decide +kernel
theorem d_MOD_take_63 : decode b_MOD_take 63 = .ok (.iaload, 1) := by decide +kernel
theorem d_MOD_take_64 : decode b_MOD_take 64 = .ok (.aload_n 0, 1) := by decide +kernel
theorem d_MOD_take_65 : decode b_MOD_take 65 = .ok (.getfield 80, 3) := by decide +kernel
theorem d_MOD_take_68 : decode b_MOD_take 68 = .ok (.iload 4, 2) := by decide +kernel
theorem d_MOD_take_70 : decode b_MOD_take 70 = .ok (.iconst 2, 1) := by decide +kernel
theorem d_MOD_take_71 : decode b_MOD_take 71 = .ok (.iadd, 1) := by decide +kernel
theorem d_MOD_take_72 : decode b_MOD_take 72 = .ok (.iaload, 1) := by decide +kernel
theorem d_MOD_take_73 : decode b_MOD_take 73 = .ok (.invokevirtual 118, 3) := by decide +kernel
theorem d_MOD_take_76 : decode b_MOD_take 76 = .ok (.ifCond .eq 5, 3) := by decide +kernel
theorem d_MOD_take_79 : decode b_MOD_take 79 = .ok (.iconst 1, 1) := by decide +kernel
theorem d_MOD_take_80 : decode b_MOD_take 80 = .ok (.istore_n 3, 1) := by decide +kernel
theorem d_MOD_take_81 : decode b_MOD_take 81 = .ok (.aload_n 0, 1) := by decide +kernel
theorem d_MOD_take_82 : decode b_MOD_take 82 = .ok (.aload_n 0, 1) := by decide +kernel
theorem d_MOD_take_83 : decode b_MOD_take 83 = .ok (.getfield 80, 3) := by decide +kernel
theorem d_MOD_take_86 : decode b_MOD_take 86 = .ok (.iload 4, 2) := by decide +kernel
theorem d_MOD_take_88 : decode b_MOD_take 88 = .ok (.iaload, 1) := by decide +kernel
theorem d_MOD_take_89 : decode b_MOD_take 89 = .ok (.aload_n 0, 1) := by decide +kernel
theorem d_MOD_take_90 : decode b_MOD_take 90 = .ok (.getfield 80, 3) := by decide +kernel
theorem d_MOD_take_93 : decode b_MOD_take 93 = .ok (.iload 4, 2) := by decide +kernel
theorem d_MOD_take_95 : decode b_MOD_take 95 = .ok (.iconst 2, 1) := by decide +kernel
theorem d_MOD_take_96 : decode b_MOD_take 96 = .ok (.iadd, 1) := by decide +kernel
theorem d_MOD_take_97 : decode b_MOD_take 97 = .ok (.iaload, 1) := by decide +kernel
theorem d_MOD_take_98 : decode b_MOD_take 98 = .ok (.isub, 1) := by decide +kernel
theorem d_MOD_take_99 : decode b_MOD_take 99 = .ok (.aload_n 0, 1) := by decide +kernel
theorem d_MOD_take_100 : decode b_MOD_take 100 = .ok (.getfield 80, 3) := by decide +kernel
theorem d_MOD_take_103 : decode b_MOD_take 103 = .ok (.iload 4, 2) := by decide +kernel
theorem d_MOD_take_105 : decode b_MOD_take 105 = .ok (.iconst 1, 1) := by decide +kernel
theorem d_MOD_take_106 : decode b_MOD_take 106 = .ok (.iadd, 1) := by decide +kernel
theorem d_MOD_take_107 : decode b_MOD_take 107 = .ok (.iaload, 1) := by decide +kernel
theorem d_MOD_take_108 : decode b_MOD_take 108 = .ok (.aload_n 0, 1) := by decide +kernel
theorem d_MOD_take_109 : decode b_MOD_take 109 = .ok (.getfield 80, 3) := by decide +kernel
theorem d_MOD_take_112 : decode b_MOD_take 112 = .ok (.iload 4, 2) := by decide +kernel
theorem d_MOD_take_114 : decode b_MOD_take 114 = .ok (.iconst 2, 1) := by decide +kernel
theorem d_MOD_take_115 : decode b_MOD_take 115 = .ok (.iadd, 1) := by decide +kernel
theorem d_MOD_take_116 : decode b_MOD_take 116 = .ok (.iaload, 1) := by decide +kernel
theorem d_MOD_take_117 : decode b_MOD_take 117 = .ok (.isub, 1) := by decide +kernel
theorem d_MOD_take_118 : decode b_MOD_take 118 = .ok (.aload_n 0, 1) := by decide +kernel
theorem d_MOD_take_119 : decode b_MOD_take 119 = .ok (.getfield 80, 3) := by decide +kernel
theorem d_MOD_take_122 : decode b_MOD_take 122 = .ok (.iload 4, 2) := by decide +kernel
theorem d_MOD_take_124 : decode b_MOD_take 124 = .ok (.iconst 2, 1) := by decide +kernel
theorem d_MOD_take_125 : decode b_MOD_take 125 = .ok (.iadd, 1) := by decide +kernel
theorem d_MOD_take_126 : decode b_MOD_take 126 = .ok (.iaload, 1) := by decide +kernel
theorem d_MOD_take_127 : decode b_MOD_take 127 = .ok (.ineg, 1) := by decide +kernel
theorem d_MOD_take_128 : decode b_MOD_take 128 = .ok (.invokevirtual 118, 3) := by decide +kernel
theorem d_MOD_take_131 : decode b_MOD_take 131 = .ok (.ifCond .eq 5, 3) := by decide +kernel
theorem d_MOD_take_134 : decode b_MOD_take 134 = .ok (.iconst 1, 1) := by decide +kernel
theorem d_MOD_take_135 : decode b_MOD_take 135 = .ok (.istore_n 3, 1) := by decide +kernel
theorem d_MOD_take_136 : decode b_MOD_take 136 = .ok (.iinc 4 3, 3) := by decide +kernel
theorem d_MOD_take_139 : decode b_MOD_take 139 = .ok (.goto (-102), 3) := by decide +kernel
theorem d_MOD_take_142 : decode b_MOD_take 142 = .ok (.goto (-114), 3) := by decide +kernel
theorem d_MOD_take_145 : decode b_MOD_take 145 = .ok (.aload_n 0, 1) := by decide +kernel
theorem d_MOD_take_146 : decode b_MOD_take 146 = .ok (.iconst 0, 1) := by decide +kernel
theorem d_MOD_take_147 : decode b_MOD_take 147 = .ok (.invokevirtual 107, 3) := by decide +kernel
theorem d_MOD_take_150 : decode b_MOD_take 150 = .ok (.return_, 1) := by decide +kernel
theorem d_MOD_keepRange_0 : decode b_MOD_keepRange 0 = .ok (.aload_n 0, 1) := by decide +kernel
theorem d_MOD_keepRange_1 : decode b_MOD_keepRange 1 = .ok (.getfield 44, 3) := by decide +kernel
theorem d_MOD_keepRange_4 : decode b_MOD_keepRange 4 = .ok (.aload_n 0, 1) := by decide +kernel
theorem d_MOD_keepRange_5 : decode b_MOD_keepRange 5 = .ok (.getfield 121, 3) := by decide +kernel
theorem d_MOD_keepRange_8 : decode b_MOD_keepRange 8 = .ok (.iload_n 1, 1) := by decide +kernel
theorem d_MOD_keepRange_9 : decode b_MOD_keepRange 9 = .ok (.iastore, 1) := by decide +kernel
theorem d_MOD_keepRange_10 : decode b_MOD_keepRange 10 = .ok (.aload_n 0, 1) := by decide +kernel
theorem d_MOD_keepRange_11 : decode b_MOD_keepRange 11 = .ok (.getfield 47, 3) := by decide +kernel
theorem d_MOD_keepRange_14 : decode b_MOD_keepRange 14 = .ok (.aload_n 0, 1) := by decide +kernel
theorem d_MOD_keepRange_15 : decode b_MOD_keepRange 15 = .ok (.getfield 121, 3) := by decide +kernel
theorem d_MOD_keepRange_18 : decode b_MOD_keepRange 18 = .ok (.iload_n 2, 1) := by decide +kernel
theorem d_MOD_keepRange_19 : decode b_MOD_keepRange 19 = .ok (.iastore, 1) := by decide +kernel
theorem d_MOD_keepRange_20 : decode b_MOD_keepRange 20 = .ok (.aload_n 0, 1) := by decide +kernel
theorem d_MOD_keepRange_21 : decode b_MOD_keepRange 21 = .ok (.dup, 1) := by decide +kernel
theorem d_MOD_keepRange_22 : decode b_MOD_keepRange 22 = .ok (.getfield 121, 3) := by decide +kernel
theorem d_MOD_keepRange_25 : decode b_MOD_keepRange 25 = .ok (.iconst 1, 1) := by decide +kernel
theorem d_MOD_keepRange_26 : decode b_MOD_keepRange 26 = .ok (.iadd, 1) := by decide +kernel
theorem d_MOD_keepRange_27 : decode b_MOD_keepRange 27 = .ok (.putfield 121, 3) := by decide +kernel
theorem d_MOD_keepRange_30 : decode b_MOD_keepRange 30 = .ok (.return_, 1) := by decide +kernel
theorem d_MOD_keep_0 : decode b_MOD_keep 0 = .ok (.aload_n 0, 1) := by decide +kernel
theorem d_MOD_keep_1 : decode b_MOD_keep 1 = .ok (.getfield 121, 3) := by decide +kernel
theorem d_MOD_keep_4 : decode b_MOD_keep 4 = .ok (.istore_n 1, 1) := by decide +kernel
