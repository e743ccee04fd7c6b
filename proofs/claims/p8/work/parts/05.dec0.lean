theorem d_PAT_append_0 : decode b_PAT_append 0 = .ok (.iload_n 3, 1) := by decide +kernel
theorem d_PAT_append_1 : decode b_PAT_append 1 = .ok (.ifCond .lt 21, 3) := by decide +kernel
theorem d_PAT_append_4 : decode b_PAT_append 4 = .ok (.iload_n 3, 1) := by decide +kernel
theorem d_PAT_append_5 : decode b_PAT_append 5 = .ok (.bipush 8, 2) := by decide +kernel
theorem d_PAT_append_7 : decode b_PAT_append 7 = .ok (.if_icmp .gt 15, 3) := by decide +kernel
theorem d_PAT_append_10 : decode b_PAT_append 10 = .ok (.iload_n 3, 1) := by decide +kernel
theorem d_PAT_append_11 : decode b_PAT_append 11 = .ok (.sipush 400, 3) := by decide +kernel
theorem d_PAT_append_14 : decode b_PAT_append 14 = .ok (.aload_n 0, 1) := by decide +kernel
theorem d_PAT_append_15 : decode b_PAT_append 15 = .ok (.getfield 15, 3) := by decide +kernel
theorem d_PAT_append_18 : decode b_PAT_append 18 = .ok (.isub, 1) := by decide +kernel
theorem d_PAT_append_19 : decode b_PAT_append 19 = .ok (.if_icmp .le 5, 3) := by decide +kernel
theorem d_PAT_append_22 : decode b_PAT_append 22 = .ok (.iconst 0, 1) := by decide +kernel
theorem d_PAT_append_23 : decode b_PAT_append 23 = .ok (.ireturn, 1) := by decide +kernel
theorem d_PAT_append_24 : decode b_PAT_append 24 = .ok (.iload_n 3, 1) := by decide +kernel
theorem d_PAT_append_25 : decode b_PAT_append 25 = .ok (.iconst 1, 1) := by decide +kernel
theorem d_PAT_append_26 : decode b_PAT_append 26 = .ok (.isub, 1) := by decide +kernel
theorem d_PAT_append_27 : decode b_PAT_append 27 = .ok (.istore 4, 2) := by decide +kernel
theorem d_PAT_append_29 : decode b_PAT_append 29 = .ok (.iload 4, 2) := by decide +kernel
theorem d_PAT_append_31 : decode b_PAT_append 31 = .ok (.ifCond .lt 40, 3) := by decide +kernel
theorem d_PAT_append_34 : decode b_PAT_append 34 = .ok (.aload_n 0, 1) := by decide +kernel
theorem d_PAT_append_35 : decode b_PAT_append 35 = .ok (.getfield 9, 3) := by decide +kernel
theorem d_PAT_append_38 : decode b_PAT_append 38 = .ok (.aload_n 0, 1) := by decide +kernel
theorem d_PAT_append_39 : decode b_PAT_append 39 = .ok (.getfield 15, 3) := by decide +kernel
theorem d_PAT_append_42 : decode b_PAT_append 42 = .ok (.lload_n 1, 1) := by decide +kernel
theorem d_PAT_append_43 : decode b_PAT_append 43 = .ok (.bipush 8, 2) := by decide +kernel
theorem d_PAT_append_45 : decode b_PAT_append 45 = .ok (.iload 4, 2) := by decide +kernel
theorem d_PAT_append_47 : decode b_PAT_append 47 = .ok (.imul, 1) := by decide +kernel
theorem d_PAT_append_48 : decode b_PAT_append 48 = .ok (.lushr, 1) := by decide +kernel
theorem d_PAT_append_49 : decode b_PAT_append 49 = .ok (.l2i, 1) := by decide +kernel
theorem d_PAT_append_50 : decode b_PAT_append 50 = .ok (.sipush 255, 3) := by decide +kernel
theorem d_PAT_append_53 : decode b_PAT_append 53 = .ok (.iand, 1) := by decide +kernel
theorem d_PAT_append_54 : decode b_PAT_append 54 = .ok (.iastore, 1) := by decide +kernel
theorem d_PAT_append_55 : decode b_PAT_append 55 = .ok (.aload_n 0, 1) := by decide +kernel
theorem d_PAT_append_56 : decode b_PAT_append 56 = .ok (.dup, 1) := by decide +kernel
theorem d_PAT_append_57 : decode b_PAT_append 57 = .ok (.getfield 15, 3) := by decide +kernel
theorem d_PAT_append_60 : decode b_PAT_append 60 = .ok (.iconst 1, 1) := by decide +kernel
theorem d_PAT_append_61 : decode b_PAT_append 61 = .ok (.iadd, 1) := by decide +kernel
theorem d_PAT_append_62 : decode b_PAT_append 62 = .ok (.putfield 15, 3) := by decide +kernel
theorem d_PAT_append_65 : decode b_PAT_append 65 = .ok (.iinc 4 (-1), 3) := by decide +kernel
theorem d_PAT_append_68 : decode b_PAT_append 68 = .ok (.goto (-39), 3) := by decide +kernel
theorem d_PAT_append_71 : decode b_PAT_append 71 = .ok (.iconst 1, 1) := by decide +kernel
theorem d_PAT_append_72 : decode b_PAT_append 72 = .ok (.ireturn, 1) := by decide +kernel
theorem d_PN_put_0 : decode b_PN_put 0 = .ok (.aload_n 0, 1) := by decide +kernel
theorem d_PN_put_1 : decode b_PN_put 1 = .ok (.getfield 10, 3) := by decide +kernel
theorem d_PN_put_4 : decode b_PN_put 4 = .ok (.lload_n 1, 1) := by decide +kernel
theorem d_PN_put_5 : decode b_PN_put 5 = .ok (.iload_n 3, 1) := by decide +kernel
theorem d_PN_put_6 : decode b_PN_put 6 = .ok (.invokevirtual 46, 3) := by decide +kernel
theorem d_PN_put_9 : decode b_PN_put 9 = .ok (.ireturn, 1) := by decide +kernel
theorem d_MIS_clear_0 : decode b_MIS_clear 0 = .ok (.aload_n 0, 1) := by decide +kernel
theorem d_MIS_clear_1 : decode b_MIS_clear 1 = .ok (.iconst 0, 1) := by decide +kernel
theorem d_MIS_clear_2 : decode b_MIS_clear 2 = .ok (.putfield 9, 3) := by decide +kernel
theorem d_MIS_clear_5 : decode b_MIS_clear 5 = .ok (.aload_n 0, 1) := by decide +kernel
theorem d_MIS_clear_6 : decode b_MIS_clear 6 = .ok (.iconst (-1), 1) := by decide +kernel
theorem d_MIS_clear_7 : decode b_MIS_clear 7 = .ok (.putfield 15, 3) := by decide +kernel
theorem d_MIS_clear_10 : decode b_MIS_clear 10 = .ok (.return_, 1) := by decide +kernel
theorem d_TRE_clear_0 : decode b_TRE_clear 0 = .ok (.aload_n 0, 1) := by decide +kernel
theorem d_TRE_clear_1 : decode b_TRE_clear 1 = .ok (.iconst 0, 1) := by decide +kernel
theorem d_TRE_clear_2 : decode b_TRE_clear 2 = .ok (.putfield 42, 3) := by decide +kernel
theorem d_TRE_clear_5 : decode b_TRE_clear 5 = .ok (.aload_n 0, 1) := by decide +kernel
theorem d_TRE_clear_6 : decode b_TRE_clear 6 = .ok (.iconst 0, 1) := by decide +kernel
theorem d_TRE_clear_7 : decode b_TRE_clear 7 = .ok (.putfield 46, 3) := by decide +kernel
theorem d_TRE_clear_10 : decode b_TRE_clear 10 = .ok (.aload_n 0, 1) := by decide +kernel
theorem d_TRE_clear_11 : decode b_TRE_clear 11 = .ok (.iconst 0, 1) := by decide +kernel
theorem d_TRE_clear_12 : decode b_TRE_clear 12 = .ok (.putfield 49, 3) := by decide +kernel
theorem d_TRE_clear_15 : decode b_TRE_clear 15 = .ok (.return_, 1) := by decide +kernel
theorem d_GRP_clear_0 : decode b_GRP_clear 0 = .ok (.aload_n 0, 1) := by decide +kernel
theorem d_GRP_clear_1 : decode b_GRP_clear 1 = .ok (.iconst 0, 1) := by decide +kernel
theorem d_GRP_clear_2 : decode b_GRP_clear 2 = .ok (.putfield 18, 3) := by decide +kernel
theorem d_GRP_clear_5 : decode b_GRP_clear 5 = .ok (.return_, 1) := by decide +kernel
theorem d_OPN_begin_0 : decode b_OPN_begin 0 = .ok (.aload_n 0, 1) := by decide +kernel
theorem d_OPN_begin_1 : decode b_OPN_begin 1 = .ok (.iconst 0, 1) := by decide +kernel
theorem d_OPN_begin_2 : decode b_OPN_begin 2 = .ok (.putfield 27, 3) := by decide +kernel
theorem d_OPN_begin_5 : decode b_OPN_begin 5 = .ok (.aload_n 0, 1) := by decide +kernel
theorem d_OPN_begin_6 : decode b_OPN_begin 6 = .ok (.getfield 21, 3) := by decide +kernel
theorem d_OPN_begin_9 : decode b_OPN_begin 9 = .ok (.iconst 0, 1) := by decide +kernel
theorem d_OPN_begin_10 : decode b_OPN_begin 10 = .ok (.iconst 0, 1) := by decide +kernel
theorem d_OPN_begin_11 : decode b_OPN_begin 11 = .ok (.iastore, 1) := by decide +kernel
theorem d_OPN_begin_12 : decode b_OPN_begin 12 = .ok (.aload_n 0, 1) := by decide +kernel
theorem d_OPN_begin_13 : decode b_OPN_begin 13 = .ok (.getfield 24, 3) := by decide +kernel
theorem d_OPN_begin_16 : decode b_OPN_begin 16 = .ok (.iconst 0, 1) := by decide +kernel
theorem d_OPN_begin_17 : decode b_OPN_begin 17 = .ok (.iconst 0, 1) := by decide +kernel
theorem d_OPN_begin_18 : decode b_OPN_begin 18 = .ok (.iastore, 1) := by decide +kernel
theorem d_OPN_begin_19 : decode b_OPN_begin 19 = .ok (.return_, 1) := by decide +kernel
theorem d_RDR_begin_0 : decode b_RDR_begin 0 = .ok (.aload_n 0, 1) := by decide +kernel
theorem d_RDR_begin_1 : decode b_RDR_begin 1 = .ok (.getfield 40, 3) := by decide +kernel
theorem d_RDR_begin_4 : decode b_RDR_begin 4 = .ok (.invokevirtual 84, 3) := by decide +kernel
theorem d_RDR_begin_7 : decode b_RDR_begin 7 = .ok (.aload_n 0, 1) := by decide +kernel
theorem d_RDR_begin_8 : decode b_RDR_begin 8 = .ok (.getfield 44, 3) := by decide +kernel
theorem d_RDR_begin_11 : decode b_RDR_begin 11 = .ok (.invokevirtual 89, 3) := by decide +kernel
theorem d_RDR_begin_14 : decode b_RDR_begin 14 = .ok (.aload_n 0, 1) := by decide +kernel
theorem d_RDR_begin_15 : decode b_RDR_begin 15 = .ok (.getfield 48, 3) := by decide +kernel
theorem d_RDR_begin_18 : decode b_RDR_begin 18 = .ok (.invokevirtual 92, 3) := by decide +kernel
theorem d_RDR_begin_21 : decode b_RDR_begin 21 = .ok (.aload_n 0, 1) := by decide +kernel
theorem d_RDR_begin_22 : decode b_RDR_begin 22 = .ok (.getfield 12, 3) := by decide +kernel
theorem d_RDR_begin_25 : decode b_RDR_begin 25 = .ok (.invokevirtual 95, 3) := by decide +kernel
theorem d_RDR_begin_28 : decode b_RDR_begin 28 = .ok (.aload_n 0, 1) := by decide +kernel
theorem d_RDR_begin_29 : decode b_RDR_begin 29 = .ok (.iconst 0, 1) := by decide +kernel
theorem d_RDR_begin_30 : decode b_RDR_begin 30 = .ok (.putfield 25, 3) := by decide +kernel
theorem d_RDR_begin_33 : decode b_RDR_begin 33 = .ok (.aload_n 0, 1) := by decide +kernel
theorem d_RDR_begin_34 : decode b_RDR_begin 34 = .ok (.iload_n 1, 1) := by decide +kernel
theorem d_RDR_begin_35 : decode b_RDR_begin 35 = .ok (.putfield 29, 3) := by decide +kernel
theorem d_RDR_begin_38 : decode b_RDR_begin 38 = .ok (.aload_n 0, 1) := by decide +kernel
theorem d_RDR_begin_39 : decode b_RDR_begin 39 = .ok (.iconst 0, 1) := by decide +kernel
theorem d_RDR_begin_40 : decode b_RDR_begin 40 = .ok (.putfield 32, 3) := by decide +kernel
theorem d_RDR_begin_43 : decode b_RDR_begin 43 = .ok (.return_, 1) := by decide +kernel
theorem d_RDR_hasMore_0 : decode b_RDR_hasMore 0 = .ok (.aload_n 0, 1) := by decide +kernel
theorem d_RDR_hasMore_1 : decode b_RDR_hasMore 1 = .ok (.getfield 40, 3) := by decide +kernel
theorem d_RDR_hasMore_4 : decode b_RDR_hasMore 4 = .ok (.getfield 98, 3) := by decide +kernel
theorem d_RDR_hasMore_7 : decode b_RDR_hasMore 7 = .ok (.ifCond .ne 21, 3) := by decide +kernel
theorem d_RDR_hasMore_10 : decode b_RDR_hasMore 10 = .ok (.aload_n 0, 1) := by decide +kernel
theorem d_RDR_hasMore_11 : decode b_RDR_hasMore 11 = .ok (.getfield 25, 3) := by decide +kernel
theorem d_RDR_hasMore_14 : decode b_RDR_hasMore 14 = .ok (.aload_n 0, 1) := by decide +kernel
theorem d_RDR_hasMore_15 : decode b_RDR_hasMore 15 = .ok (.getfield 36, 3) := by decide +kernel
theorem d_RDR_hasMore_18 : decode b_RDR_hasMore 18 = .ok (.getfield 101, 3) := by decide +kernel
theorem d_RDR_hasMore_21 : decode b_RDR_hasMore 21 = .ok (.if_icmp .ge 7, 3) := by decide +kernel
theorem d_RDR_hasMore_24 : decode b_RDR_hasMore 24 = .ok (.iconst 1, 1) := by decide +kernel
theorem d_RDR_hasMore_25 : decode b_RDR_hasMore 25 = .ok (.goto 4, 3) := by decide +kernel
theorem d_RDR_hasMore_28 : decode b_RDR_hasMore 28 = .ok (.iconst 0, 1) := by decide +kernel
theorem d_RDR_hasMore_29 : decode b_RDR_hasMore 29 = .ok (.ireturn, 1) := by decide +kernel
theorem d_PAT_at_0 : decode b_PAT_at 0 = .ok (.iload_n 1, 1) := by decide +kernel
theorem d_PAT_at_1 : decode b_PAT_at 1 = .ok (.ifCond .lt 20, 3) := by decide +kernel
theorem d_PAT_at_4 : decode b_PAT_at 4 = .ok (.iload_n 1, 1) := by decide +kernel
theorem d_PAT_at_5 : decode b_PAT_at 5 = .ok (.aload_n 0, 1) := by decide +kernel
theorem d_PAT_at_6 : decode b_PAT_at 6 = .ok (.getfield 15, 3) := by decide +kernel
theorem d_PAT_at_9 : decode b_PAT_at 9 = .ok (.if_icmp .ge 12, 3) := by decide +kernel
theorem d_PAT_at_12 : decode b_PAT_at 12 = .ok (.aload_n 0, 1) := by decide +kernel
theorem d_PAT_at_13 : decode b_PAT_at 13 = .ok (.getfield 9, 3) := by decide +kernel
theorem d_PAT_at_16 : decode b_PAT_at 16 = .ok (.iload_n 1, 1) := by decide +kernel
theorem d_PAT_at_17 : decode b_PAT_at 17 = .ok (.iaload, 1) := by decide +kernel
theorem d_PAT_at_18 : decode b_PAT_at 18 = .ok (.goto 4, 3) := by decide +kernel
theorem d_PAT_at_21 : decode b_PAT_at 21 = .ok (.iconst (-1), 1) := by decide +kernel
theorem d_PAT_at_22 : decode b_PAT_at 22 = .ok (.ireturn, 1) := by decide +kernel
theorem d_TRE_waitingSize_0 : decode b_TRE_waitingSize 0 = .ok (.iconst 0, 1) := by decide +kernel
theorem d_TRE_waitingSize_1 : decode b_TRE_waitingSize 1 = .ok (.istore_n 2, 1) := by decide +kernel
theorem d_TRE_waitingSize_2 : decode b_TRE_waitingSize 2 = .ok (.iconst 1, 1) := by decide +kernel
theorem d_TRE_waitingSize_3 : decode b_TRE_waitingSize 3 = .ok (.istore_n 3, 1) := by decide +kernel
theorem d_TRE_waitingSize_4 : decode b_TRE_waitingSize 4 = .ok (.iload_n 3, 1) := by decide +kernel
theorem d_TRE_waitingSize_5 : decode b_TRE_waitingSize 5 = .ok (.iload_n 1, 1) := by decide +kernel
theorem d_TRE_waitingSize_6 : decode b_TRE_waitingSize 6 = .ok (.if_icmp .gt 36, 3) := by decide +kernel
theorem d_TRE_waitingSize_9 : decode b_TRE_waitingSize 9 = .ok (.iload_n 3, 1) := by decide +kernel
theorem d_TRE_waitingSize_10 : decode b_TRE_waitingSize 10 = .ok (.aload_n 0, 1) := by decide +kernel
theorem d_TRE_waitingSize_11 : decode b_TRE_waitingSize 11 = .ok (.getfield 49, 3) := by decide +kernel
theorem d_TRE_waitingSize_14 : decode b_TRE_waitingSize 14 = .ok (.if_icmp .gt 28, 3) := by decide +kernel
theorem d_TRE_waitingSize_17 : decode b_TRE_waitingSize 17 = .ok (.iload_n 2, 1) := by decide +kernel
theorem d_TRE_waitingSize_18 : decode b_TRE_waitingSize 18 = .ok (.aload_n 0, 1) := by decide +kernel
theorem d_TRE_waitingSize_19 : decode b_TRE_waitingSize 19 = .ok (.getfield 24, 3) := by decide +kernel
theorem d_TRE_waitingSize_22 : decode b_TRE_waitingSize 22 = .ok (.aload_n 0, 1) := by decide +kernel
theorem d_TRE_waitingSize_23 : decode b_TRE_waitingSize 23 = .ok (.getfield 39, 3) := by decide +kernel
theorem d_TRE_waitingSize_26 : decode b_TRE_waitingSize 26 = .ok (.aload_n 0, 1) := by decide +kernel
theorem d_TRE_waitingSize_27 : decode b_TRE_waitingSize 27 = .ok (.getfield 49, 3) := by decide +kernel
theorem d_TRE_waitingSize_30 : decode b_TRE_waitingSize 30 = .ok (.iload_n 3, 1) := by decide +kernel
theorem d_TRE_waitingSize_31 : decode b_TRE_waitingSize 31 = .ok (.isub, 1) := by decide +kernel
theorem d_TRE_waitingSize_32 : decode b_TRE_waitingSize 32 = .ok (.iaload, 1) := by decide +kernel
theorem d_TRE_waitingSize_33 : decode b_TRE_waitingSize 33 = .ok (.iaload, 1) := by decide +kernel
theorem d_TRE_waitingSize_34 : decode b_TRE_waitingSize 34 = .ok (.iadd, 1) := by decide +kernel
theorem d_TRE_waitingSize_35 : decode b_TRE_waitingSize 35 = .ok (.istore_n 2, 1) := by decide +kernel
theorem d_TRE_waitingSize_36 : decode b_TRE_waitingSize 36 = .ok (.iinc 3 1, 3) := by decide +kernel
theorem d_TRE_waitingSize_39 : decode b_TRE_waitingSize 39 = .ok (.goto (-35), 3) := by decide +kernel
theorem d_TRE_waitingSize_42 : decode b_TRE_waitingSize 42 = .ok (.iload_n 2, 1) := by decide +kernel
theorem d_TRE_waitingSize_43 : decode b_TRE_waitingSize 43 = .ok (.ireturn, 1) := by decide +kernel
theorem d_TRE_addOver_0 : decode b_TRE_addOver 0 = .ok (.aload_n 0, 1) := by decide +kernel
theorem d_TRE_addOver_1 : decode b_TRE_addOver 1 = .ok (.getfield 42, 3) := by decide +kernel
theorem d_TRE_addOver_4 : decode b_TRE_addOver 4 = .ok (.sipush 512, 3) := by decide +kernel
theorem d_TRE_addOver_7 : decode b_TRE_addOver 7 = .ok (.if_icmp .ge 11, 3) := by decide +kernel
theorem d_TRE_addOver_10 : decode b_TRE_addOver 10 = .ok (.iload_n 1, 1) := by decide +kernel
theorem d_TRE_addOver_11 : decode b_TRE_addOver 11 = .ok (.aload_n 0, 1) := by decide +kernel
theorem d_TRE_addOver_12 : decode b_TRE_addOver 12 = .ok (.getfield 49, 3) := by decide +kernel
theorem d_TRE_addOver_15 : decode b_TRE_addOver 15 = .ok (.if_icmp .le 4, 3) := by decide +kernel
theorem d_TRE_addOver_18 : decode b_TRE_addOver 18 = .ok (.return_, 1) := by decide +kernel
theorem d_TRE_addOver_19 : decode b_TRE_addOver 19 = .ok (.iconst 0, 1) := by decide +kernel
theorem d_TRE_addOver_20 : decode b_TRE_addOver 20 = .ok (.istore 6, 2) := by decide +kernel
theorem d_TRE_addOver_22 : decode b_TRE_addOver 22 = .ok (.iload 6, 2) := by decide +kernel
theorem d_TRE_addOver_24 : decode b_TRE_addOver 24 = .ok (.iload_n 1, 1) := by decide +kernel
theorem d_TRE_addOver_25 : decode b_TRE_addOver 25 = .ok (.if_icmp .ge 37, 3) := by decide +kernel
theorem d_TRE_addOver_28 : decode b_TRE_addOver 28 = .ok (.aload_n 0, 1) := by decide +kernel
theorem d_TRE_addOver_29 : decode b_TRE_addOver 29 = .ok (.dup, 1) := by decide +kernel
theorem d_TRE_addOver_30 : decode b_TRE_addOver 30 = .ok (.getfield 49, 3) := by decide +kernel
theorem d_TRE_addOver_33 : decode b_TRE_addOver 33 = .ok (.iconst 1, 1) := by decide +kernel
theorem d_TRE_addOver_34 : decode b_TRE_addOver 34 = .ok (.isub, 1) := by decide +kernel
theorem d_TRE_addOver_35 : decode b_TRE_addOver 35 = .ok (.putfield 49, 3) := by decide +kernel
theorem d_TRE_addOver_38 : decode b_TRE_addOver 38 = .ok (.aload_n 0, 1) := by decide +kernel
theorem d_TRE_addOver_39 : decode b_TRE_addOver 39 = .ok (.getfield 21, 3) := by decide +kernel
theorem d_TRE_addOver_42 : decode b_TRE_addOver 42 = .ok (.aload_n 0, 1) := by decide +kernel
theorem d_TRE_addOver_43 : decode b_TRE_addOver 43 = .ok (.getfield 39, 3) := by decide +kernel
theorem d_TRE_addOver_46 : decode b_TRE_addOver 46 = .ok (.aload_n 0, 1) := by decide +kernel
theorem d_TRE_addOver_47 : decode b_TRE_addOver 47 = .ok (.getfield 49, 3) := by decide +kernel
theorem d_TRE_addOver_50 : decode b_TRE_addOver 50 = .ok (.iaload, 1) := by decide +kernel
theorem d_TRE_addOver_51 : decode b_TRE_addOver 51 = .ok (.aload_n 0, 1) := by decide +kernel
theorem d_TRE_addOver_52 : decode b_TRE_addOver 52 = .ok (.getfield 42, 3) := by decide +kernel
theorem d_TRE_addOver_55 : decode b_TRE_addOver 55 = .ok (.iastore, 1) := by decide +kernel
theorem d_TRE_addOver_56 : decode b_TRE_addOver 56 = .ok (.iinc 6 1, 3) := by decide +kernel
theorem d_TRE_addOver_59 : decode b_TRE_addOver 59 = .ok (.goto (-37), 3) := by decide +kernel
theorem d_TRE_addOver_62 : decode b_TRE_addOver 62 = .ok (.aload_n 0, 1) := by decide +kernel
theorem d_TRE_addOver_63 : decode b_TRE_addOver 63 = .ok (.getfield 11, 3) := by decide +kernel
theorem d_TRE_addOver_66 : decode b_TRE_addOver 66 = .ok (.aload_n 0, 1) := by decide +kernel
theorem d_TRE_addOver_67 : decode b_TRE_addOver 67 = .ok (.getfield 42, 3) := by decide +kernel
theorem d_TRE_addOver_70 : decode b_TRE_addOver 70 = .ok (.iload_n 2, 1) := by decide +kernel
theorem d_TRE_addOver_71 : decode b_TRE_addOver 71 = .ok (.iastore, 1) := by decide +kernel
theorem d_TRE_addOver_72 : decode b_TRE_addOver 72 = .ok (.aload_n 0, 1) := by decide +kernel
theorem d_TRE_addOver_73 : decode b_TRE_addOver 73 = .ok (.getfield 15, 3) := by decide +kernel
theorem d_TRE_addOver_76 : decode b_TRE_addOver 76 = .ok (.aload_n 0, 1) := by decide +kernel
theorem d_TRE_addOver_77 : decode b_TRE_addOver 77 = .ok (.getfield 42, 3) := by decide +kernel
theorem d_TRE_addOver_80 : decode b_TRE_addOver 80 = .ok (.iload_n 3, 1) := by decide +kernel
theorem d_TRE_addOver_81 : decode b_TRE_addOver 81 = .ok (.iastore, 1) := by decide +kernel
theorem d_TRE_addOver_82 : decode b_TRE_addOver 82 = .ok (.aload_n 0, 1) := by decide +kernel
theorem d_TRE_addOver_83 : decode b_TRE_addOver 83 = .ok (.getfield 18, 3) := by decide +kernel
theorem d_TRE_addOver_86 : decode b_TRE_addOver 86 = .ok (.aload_n 0, 1) := by decide +kernel
theorem d_TRE_addOver_87 : decode b_TRE_addOver 87 = .ok (.getfield 42, 3) := by decide +kernel
theorem d_TRE_addOver_90 : decode b_TRE_addOver 90 = .ok (.iload 4, 2) := by decide +kernel
theorem d_TRE_addOver_92 : decode b_TRE_addOver 92 = .ok (.iastore, 1) := by decide +kernel
theorem d_TRE_addOver_93 : decode b_TRE_addOver 93 = .ok (.aload_n 0, 1) := by decide +kernel
theorem d_TRE_addOver_94 : decode b_TRE_addOver 94 = .ok (.getfield 21, 3) := by decide +kernel
theorem d_TRE_addOver_97 : decode b_TRE_addOver 97 = .ok (.aload_n 0, 1) := by decide +kernel
theorem d_TRE_addOver_98 : decode b_TRE_addOver 98 = .ok (.getfield 42, 3) := by decide +kernel
theorem d_TRE_addOver_101 : decode b_TRE_addOver 101 = .ok (.iconst (-1), 1) := by decide +kernel
theorem d_TRE_addOver_102 : decode b_TRE_addOver 102 = .ok (.iastore, 1) := by decide +kernel
theorem d_TRE_addOver_103 : decode b_TRE_addOver 103 = .ok (.aload_n 0, 1) := by decide +kernel
theorem d_TRE_addOver_104 : decode b_TRE_addOver 104 = .ok (.getfield 24, 3) := by decide +kernel
theorem d_TRE_addOver_107 : decode b_TRE_addOver 107 = .ok (.aload_n 0, 1) := by decide +kernel
theorem d_TRE_addOver_108 : decode b_TRE_addOver 108 = .ok (.getfield 42, 3) := by decide +kernel
theorem d_TRE_addOver_111 : decode b_TRE_addOver 111 = .ok (.iload 5, 2) := by decide +kernel
theorem d_TRE_addOver_113 : decode b_TRE_addOver 113 = .ok (.ldc 56, 2) := by decide +kernel
theorem d_TRE_addOver_115 : decode b_TRE_addOver 115 = .ok (.invokestatic 57, 3) := by decide +kernel
theorem d_TRE_addOver_118 : decode b_TRE_addOver 118 = .ok (.iastore, 1) := by decide +kernel
theorem d_TRE_addOver_119 : decode b_TRE_addOver 119 = .ok (.aload_n 0, 1) := by decide +kernel
theorem d_TRE_addOver_120 : decode b_TRE_addOver 120 = .ok (.getfield 27, 3) := by decide +kernel
theorem d_TRE_addOver_123 : decode b_TRE_addOver 123 = .ok (.aload_n 0, 1) := by decide +kernel
theorem d_TRE_addOver_124 : decode b_TRE_addOver 124 = .ok (.getfield 42, 3) := by decide +kernel
theorem d_TRE_addOver_127 : decode b_TRE_addOver 127 = .ok (.aload_n 0, 1) := by decide +kernel
theorem d_TRE_addOver_128 : decode b_TRE_addOver 128 = .ok (.getfield 46, 3) := by decide +kernel
theorem d_TRE_addOver_131 : decode b_TRE_addOver 131 = .ok (.iastore, 1) := by decide +kernel
theorem d_TRE_addOver_132 : decode b_TRE_addOver 132 = .ok (.aload_n 0, 1) := by decide +kernel
theorem d_TRE_addOver_133 : decode b_TRE_addOver 133 = .ok (.getfield 30, 3) := by decide +kernel
theorem d_TRE_addOver_136 : decode b_TRE_addOver 136 = .ok (.aload_n 0, 1) := by decide +kernel
theorem d_TRE_addOver_137 : decode b_TRE_addOver 137 = .ok (.getfield 42, 3) := by decide +kernel
theorem d_TRE_addOver_140 : decode b_TRE_addOver 140 = .ok (.iconst 0, 1) := by decide +kernel
theorem d_TRE_addOver_141 : decode b_TRE_addOver 141 = .ok (.iastore, 1) := by decide +kernel
theorem d_TRE_addOver_142 : decode b_TRE_addOver 142 = .ok (.aload_n 0, 1) := by decide +kernel
theorem d_TRE_addOver_143 : decode b_TRE_addOver 143 = .ok (.getfield 39, 3) := by decide +kernel
theorem d_TRE_addOver_146 : decode b_TRE_addOver 146 = .ok (.aload_n 0, 1) := by decide +kernel
theorem d_TRE_addOver_147 : decode b_TRE_addOver 147 = .ok (.getfield 49, 3) := by decide +kernel
theorem d_TRE_addOver_150 : decode b_TRE_addOver 150 = .ok (.aload_n 0, 1) := by decide +kernel
theorem d_TRE_addOver_151 : decode b_TRE_addOver 151 = .ok (.getfield 42, 3) := by decide +kernel
theorem d_TRE_addOver_154 : decode b_TRE_addOver 154 = .ok (.iastore, 1) := by decide +kernel
theorem d_TRE_addOver_155 : decode b_TRE_addOver 155 = .ok (.aload_n 0, 1) := by decide +kernel
theorem d_TRE_addOver_156 : decode b_TRE_addOver 156 = .ok (.dup, 1) := by decide +kernel
theorem d_TRE_addOver_157 : decode b_TRE_addOver 157 = .ok (.getfield 49, 3) := by decide +kernel
theorem d_TRE_addOver_160 : decode b_TRE_addOver 160 = .ok (.iconst 1, 1) := by decide +kernel
theorem d_TRE_addOver_161 : decode b_TRE_addOver 161 = .ok (.iadd, 1) := by decide +kernel
theorem d_TRE_addOver_162 : decode b_TRE_addOver 162 = .ok (.putfield 49, 3) := by decide +kernel
theorem d_TRE_addOver_165 : decode b_TRE_addOver 165 = .ok (.aload_n 0, 1) := by decide +kernel
theorem d_TRE_addOver_166 : decode b_TRE_addOver 166 = .ok (.dup, 1) := by decide +kernel
theorem d_TRE_addOver_167 : decode b_TRE_addOver 167 = .ok (.getfield 42, 3) := by decide +kernel
theorem d_TRE_addOver_170 : decode b_TRE_addOver 170 = .ok (.iconst 1, 1) := by decide +kernel
theorem d_TRE_addOver_171 : decode b_TRE_addOver 171 = .ok (.iadd, 1) := by decide +kernel
theorem d_TRE_addOver_172 : decode b_TRE_addOver 172 = .ok (.putfield 42, 3) := by decide +kernel
theorem d_TRE_addOver_175 : decode b_TRE_addOver 175 = .ok (.return_, 1) := by decide +kernel
theorem d_RDR_endRow_0 : decode b_RDR_endRow 0 = .ok (.aload_n 0, 1) := by decide +kernel
theorem d_RDR_endRow_1 : decode b_RDR_endRow 1 = .ok (.getfield 12, 3) := by decide +kernel
theorem d_RDR_endRow_4 : decode b_RDR_endRow 4 = .ok (.getfield 163, 3) := by decide +kernel
theorem d_RDR_endRow_7 : decode b_RDR_endRow 7 = .ok (.aload_n 0, 1) := by decide +kernel
theorem d_RDR_endRow_8 : decode b_RDR_endRow 8 = .ok (.getfield 12, 3) := by decide +kernel
theorem d_RDR_endRow_11 : decode b_RDR_endRow 11 = .ok (.getfield 106, 3) := by decide +kernel
theorem d_RDR_endRow_14 : decode b_RDR_endRow 14 = .ok (.iaload, 1) := by decide +kernel
theorem d_RDR_endRow_15 : decode b_RDR_endRow 15 = .ok (.istore_n 1, 1) := by decide +kernel
theorem d_RDR_endRow_16 : decode b_RDR_endRow 16 = .ok (.aload_n 0, 1) := by decide +kernel
theorem d_RDR_endRow_17 : decode b_RDR_endRow 17 = .ok (.getfield 44, 3) := by decide +kernel
theorem d_RDR_endRow_20 : decode b_RDR_endRow 20 = .ok (.iload_n 1, 1) := by decide +kernel
theorem d_RDR_endRow_21 : decode b_RDR_endRow 21 = .ok (.iconst 4, 1) := by decide +kernel
theorem d_RDR_endRow_22 : decode b_RDR_endRow 22 = .ok (.iload_n 1, 1) := by decide +kernel
theorem d_RDR_endRow_23 : decode b_RDR_endRow 23 = .ok (.iconst (-1), 1) := by decide +kernel
theorem d_RDR_endRow_24 : decode b_RDR_endRow 24 = .ok (.aload_n 0, 1) := by decide +kernel
theorem d_RDR_endRow_25 : decode b_RDR_endRow 25 = .ok (.getfield 44, 3) := by decide +kernel
theorem d_RDR_endRow_28 : decode b_RDR_endRow 28 = .ok (.iload_n 1, 1) := by decide +kernel
theorem d_RDR_endRow_29 : decode b_RDR_endRow 29 = .ok (.invokevirtual 166, 3) := by decide +kernel
theorem d_RDR_endRow_32 : decode b_RDR_endRow 32 = .ok (.invokevirtual 169, 3) := by decide +kernel
theorem d_RDR_endRow_35 : decode b_RDR_endRow 35 = .ok (.aload_n 0, 1) := by decide +kernel
theorem d_RDR_endRow_36 : decode b_RDR_endRow 36 = .ok (.getfield 12, 3) := by decide +kernel
theorem d_RDR_endRow_39 : decode b_RDR_endRow 39 = .ok (.getfield 163, 3) := by decide +kernel
theorem d_RDR_endRow_42 : decode b_RDR_endRow 42 = .ok (.aload_n 0, 1) := by decide +kernel
theorem d_RDR_endRow_43 : decode b_RDR_endRow 43 = .ok (.getfield 12, 3) := by decide +kernel
theorem d_RDR_endRow_46 : decode b_RDR_endRow 46 = .ok (.getfield 106, 3) := by decide +kernel
theorem d_RDR_endRow_49 : decode b_RDR_endRow 49 = .ok (.iconst 0, 1) := by decide +kernel
theorem d_RDR_endRow_50 : decode b_RDR_endRow 50 = .ok (.iastore, 1) := by decide +kernel
theorem d_RDR_endRow_51 : decode b_RDR_endRow 51 = .ok (.aload_n 0, 1) := by decide +kernel
theorem d_RDR_endRow_52 : decode b_RDR_endRow 52 = .ok (.getfield 12, 3) := by decide +kernel
theorem d_RDR_endRow_55 : decode b_RDR_endRow 55 = .ok (.getfield 173, 3) := by decide +kernel
theorem d_RDR_endRow_58 : decode b_RDR_endRow 58 = .ok (.aload_n 0, 1) := by decide +kernel
theorem d_RDR_endRow_59 : decode b_RDR_endRow 59 = .ok (.getfield 12, 3) := by decide +kernel
theorem d_RDR_endRow_62 : decode b_RDR_endRow 62 = .ok (.getfield 106, 3) := by decide +kernel
theorem d_RDR_endRow_65 : decode b_RDR_endRow 65 = .ok (.dup2, 1) := by decide +kernel
theorem d_RDR_endRow_66 : decode b_RDR_endRow 66 = .ok (.iaload, 1) := by decide +kernel
theorem d_RDR_endRow_67 : decode b_RDR_endRow 67 = .ok (.iconst 1, 1) := by decide +kernel
theorem d_RDR_endRow_68 : decode b_RDR_endRow 68 = .ok (.iadd, 1) := by decide +kernel
theorem d_RDR_endRow_69 : decode b_RDR_endRow 69 = .ok (.iastore, 1) := by decide +kernel
theorem d_RDR_endRow_70 : decode b_RDR_endRow 70 = .ok (.aload_n 0, 1) := by decide +kernel
theorem d_RDR_endRow_71 : decode b_RDR_endRow 71 = .ok (.iconst 0, 1) := by decide +kernel
theorem d_RDR_endRow_72 : decode b_RDR_endRow 72 = .ok (.putfield 32, 3) := by decide +kernel
theorem d_RDR_endRow_75 : decode b_RDR_endRow 75 = .ok (.return_, 1) := by decide +kernel
theorem d_PN_isDigit_0 : decode b_PN_isDigit 0 = .ok (.iload_n 0, 1) := by decide +kernel
theorem d_PN_isDigit_1 : decode b_PN_isDigit 1 = .ok (.bipush 48, 2) := by decide +kernel
theorem d_PN_isDigit_3 : decode b_PN_isDigit 3 = .ok (.if_icmp .lt 13, 3) := by decide +kernel
theorem d_PN_isDigit_6 : decode b_PN_isDigit 6 = .ok (.iload_n 0, 1) := by decide +kernel
theorem d_PN_isDigit_7 : decode b_PN_isDigit 7 = .ok (.bipush 57, 2) := by decide +kernel
theorem d_PN_isDigit_9 : decode b_PN_isDigit 9 = .ok (.if_icmp .gt 7, 3) := by decide +kernel
theorem d_PN_isDigit_12 : decode b_PN_isDigit 12 = .ok (.iconst 1, 1) := by decide +kernel
theorem d_PN_isDigit_13 : decode b_PN_isDigit 13 = .ok (.goto 4, 3) := by decide +kernel
theorem d_PN_isDigit_16 : decode b_PN_isDigit 16 = .ok (.iconst 0, 1) := by decide +kernel
theorem d_PN_isDigit_17 : decode b_PN_isDigit 17 = .ok (.ireturn, 1) := by decide +kernel
theorem d_PN_isWord_0 : decode b_PN_isWord 0 = .ok (.iload_n 0, 1) := by decide +kernel
theorem d_PN_isWord_1 : decode b_PN_isWord 1 = .ok (.invokestatic 109, 3) := by decide +kernel
theorem d_PN_isWord_4 : decode b_PN_isWord 4 = .ok (.ifCond .ne 33, 3) := by decide +kernel
theorem d_PN_isWord_7 : decode b_PN_isWord 7 = .ok (.iload_n 0, 1) := by decide +kernel
theorem d_PN_isWord_8 : decode b_PN_isWord 8 = .ok (.bipush 65, 2) := by decide +kernel
theorem d_PN_isWord_10 : decode b_PN_isWord 10 = .ok (.if_icmp .lt 9, 3) := by decide +kernel
theorem d_PN_isWord_13 : decode b_PN_isWord 13 = .ok (.iload_n 0, 1) := by decide +kernel
theorem d_PN_isWord_14 : decode b_PN_isWord 14 = .ok (.bipush 90, 2) := by decide +kernel
theorem d_PN_isWord_16 : decode b_PN_isWord 16 = .ok (.if_icmp .le 21, 3) := by decide +kernel
theorem d_PN_isWord_19 : decode b_PN_isWord 19 = .ok (.iload_n 0, 1) := by decide +kernel
theorem d_PN_isWord_20 : decode b_PN_isWord 20 = .ok (.bipush 97, 2) := by decide +kernel
theorem d_PN_isWord_22 : decode b_PN_isWord 22 = .ok (.if_icmp .lt 9, 3) := by decide +kernel
theorem d_PN_isWord_25 : decode b_PN_isWord 25 = .ok (.iload_n 0, 1) := by decide +kernel
theorem d_PN_isWord_26 : decode b_PN_isWord 26 = .ok (.bipush 122, 2) := by decide +kernel
theorem d_PN_isWord_28 : decode b_PN_isWord 28 = .ok (.if_icmp .le 9, 3) := by decide +kernel
theorem d_PN_isWord_31 : decode b_PN_isWord 31 = .ok (.iload_n 0, 1) := by decide +kernel
theorem d_PN_isWord_32 : decode b_PN_isWord 32 = .ok (.bipush 95, 2) := by decide +kernel
theorem d_PN_isWord_34 : decode b_PN_isWord 34 = .ok (.if_icmp .ne 7, 3) := by decide +kernel
theorem d_PN_isWord_37 : decode b_PN_isWord 37 = .ok (.iconst 1, 1) := by decide +kernel
theorem d_PN_isWord_38 : decode b_PN_isWord 38 = .ok (.goto 4, 3) := by decide +kernel
theorem d_PN_isWord_41 : decode b_PN_isWord 41 = .ok (.iconst 0, 1) := by decide +kernel
theorem d_PN_isWord_42 : decode b_PN_isWord 42 = .ok (.ireturn, 1) := by decide +kernel
theorem d_OPG_readName_0 : decode b_OPG_readName 0 = .ok (.aload_n 0, 1) := by decide +kernel
theorem d_OPG_readName_1 : decode b_OPG_readName 1 = .ok (.iload_n 1, 1) := by decide +kernel
theorem d_OPG_readName_2 : decode b_OPG_readName 2 = .ok (.iconst 1, 1) := by decide +kernel
theorem d_OPG_readName_3 : decode b_OPG_readName 3 = .ok (.iadd, 1) := by decide +kernel
theorem d_OPG_readName_4 : decode b_OPG_readName 4 = .ok (.putfield 18, 3) := by decide +kernel
theorem d_OPG_readName_7 : decode b_OPG_readName 7 = .ok (.aload_n 0, 1) := by decide +kernel
theorem d_OPG_readName_8 : decode b_OPG_readName 8 = .ok (.getfield 22, 3) := by decide +kernel
theorem d_OPG_readName_11 : decode b_OPG_readName 11 = .ok (.bipush 12, 2) := by decide +kernel
theorem d_OPG_readName_13 : decode b_OPG_readName 13 = .ok (.if_icmp .ge 38, 3) := by decide +kernel
theorem d_OPG_readName_16 : decode b_OPG_readName 16 = .ok (.aload_n 0, 1) := by decide +kernel
theorem d_OPG_readName_17 : decode b_OPG_readName 17 = .ok (.getfield 31, 3) := by decide +kernel
theorem d_OPG_readName_20 : decode b_OPG_readName 20 = .ok (.aload_n 0, 1) := by decide +kernel
theorem d_OPG_readName_21 : decode b_OPG_readName 21 = .ok (.getfield 18, 3) := by decide +kernel
theorem d_OPG_readName_24 : decode b_OPG_readName 24 = .ok (.aload_n 0, 1) := by decide +kernel
theorem d_OPG_readName_25 : decode b_OPG_readName 25 = .ok (.getfield 22, 3) := by decide +kernel
theorem d_OPG_readName_28 : decode b_OPG_readName 28 = .ok (.iadd, 1) := by decide +kernel
theorem d_OPG_readName_29 : decode b_OPG_readName 29 = .ok (.invokevirtual 35, 3) := by decide +kernel
theorem d_OPG_readName_32 : decode b_OPG_readName 32 = .ok (.invokestatic 48, 3) := by decide +kernel
theorem d_OPG_readName_35 : decode b_OPG_readName 35 = .ok (.ifCond .eq 16, 3) := by decide +kernel
theorem d_OPG_readName_38 : decode b_OPG_readName 38 = .ok (.aload_n 0, 1) := by decide +kernel
theorem d_OPG_readName_39 : decode b_OPG_readName 39 = .ok (.dup, 1) := by decide +kernel
theorem d_OPG_readName_40 : decode b_OPG_readName 40 = .ok (.getfield 22, 3) := by decide +kernel
theorem d_OPG_readName_43 : decode b_OPG_readName 43 = .ok (.iconst 1, 1) := by decide +kernel
theorem d_OPG_readName_44 : decode b_OPG_readName 44 = .ok (.iadd, 1) := by decide +kernel
theorem d_OPG_readName_45 : decode b_OPG_readName 45 = .ok (.putfield 22, 3) := by decide +kernel
theorem d_OPG_readName_48 : decode b_OPG_readName 48 = .ok (.goto (-41), 3) := by decide +kernel
theorem d_OPG_readName_51 : decode b_OPG_readName 51 = .ok (.aload_n 0, 1) := by decide +kernel
theorem d_OPG_readName_52 : decode b_OPG_readName 52 = .ok (.aload_n 0, 1) := by decide +kernel
theorem d_OPG_readName_53 : decode b_OPG_readName 53 = .ok (.getfield 18, 3) := by decide +kernel
theorem d_OPG_readName_56 : decode b_OPG_readName 56 = .ok (.aload_n 0, 1) := by decide +kernel
theorem d_OPG_readName_57 : decode b_OPG_readName 57 = .ok (.getfield 22, 3) := by decide +kernel
theorem d_OPG_readName_60 : decode b_OPG_readName 60 = .ok (.iadd, 1) := by decide +kernel
theorem d_OPG_readName_61 : decode b_OPG_readName 61 = .ok (.iconst 1, 1) := by decide +kernel
theorem d_OPG_readName_62 : decode b_OPG_readName 62 = .ok (.iadd, 1) := by decide +kernel
theorem d_OPG_readName_63 : decode b_OPG_readName 63 = .ok (.putfield 28, 3) := by decide +kernel
theorem d_OPG_readName_66 : decode b_OPG_readName 66 = .ok (.aload_n 0, 1) := by decide +kernel
theorem d_OPG_readName_67 : decode b_OPG_readName 67 = .ok (.getfield 31, 3) := by decide +kernel
theorem d_OPG_readName_70 : decode b_OPG_readName 70 = .ok (.iload_n 1, 1) := by decide +kernel
theorem d_OPG_readName_71 : decode b_OPG_readName 71 = .ok (.invokevirtual 35, 3) := by decide +kernel
theorem d_OPG_readName_74 : decode b_OPG_readName 74 = .ok (.bipush 60, 2) := by decide +kernel
theorem d_OPG_readName_76 : decode b_OPG_readName 76 = .ok (.if_icmp .ne 32, 3) := by decide +kernel
theorem d_OPG_readName_79 : decode b_OPG_readName 79 = .ok (.aload_n 0, 1) := by decide +kernel
theorem d_OPG_readName_80 : decode b_OPG_readName 80 = .ok (.getfield 22, 3) := by decide +kernel
theorem d_OPG_readName_83 : decode b_OPG_readName 83 = .ok (.ifCond .le 25, 3) := by decide +kernel
theorem d_OPG_readName_86 : decode b_OPG_readName 86 = .ok (.aload_n 0, 1) := by decide +kernel
theorem d_OPG_readName_87 : decode b_OPG_readName 87 = .ok (.getfield 31, 3) := by decide +kernel
theorem d_OPG_readName_90 : decode b_OPG_readName 90 = .ok (.aload_n 0, 1) := by decide +kernel
theorem d_OPG_readName_91 : decode b_OPG_readName 91 = .ok (.getfield 28, 3) := by decide +kernel
theorem d_OPG_readName_94 : decode b_OPG_readName 94 = .ok (.iconst 1, 1) := by decide +kernel
theorem d_OPG_readName_95 : decode b_OPG_readName 95 = .ok (.isub, 1) := by decide +kernel
theorem d_OPG_readName_96 : decode b_OPG_readName 96 = .ok (.invokevirtual 35, 3) := by decide +kernel
theorem d_OPG_readName_99 : decode b_OPG_readName 99 = .ok (.bipush 62, 2) := by decide +kernel
theorem d_OPG_readName_101 : decode b_OPG_readName 101 = .ok (.if_icmp .ne 7, 3) := by decide +kernel
theorem d_OPG_readName_104 : decode b_OPG_readName 104 = .ok (.iconst 1, 1) := by decide +kernel
theorem d_OPG_readName_105 : decode b_OPG_readName 105 = .ok (.goto 4, 3) := by decide +kernel
theorem d_OPG_readName_108 : decode b_OPG_readName 108 = .ok (.iconst 0, 1) := by decide +kernel
theorem d_OPG_readName_109 : decode b_OPG_readName 109 = .ok (.ireturn, 1) := by decide +kernel
theorem d_OPG_flagOf_0 : decode b_OPG_flagOf 0 = .ok (.iload_n 0, 1) := by decide +kernel
theorem d_OPG_flagOf_1 : decode b_OPG_flagOf 1 = .ok (.lookupswitch 52 #[(85, 49), (105, 43), (109, 45), (115, 47)], 43) := by decide +kernel
theorem d_OPG_flagOf_44 : decode b_OPG_flagOf 44 = .ok (.iconst 1, 1) := by decide +kernel
theorem d_OPG_flagOf_45 : decode b_OPG_flagOf 45 = .ok (.ireturn, 1) := by decide +kernel
theorem d_OPG_flagOf_46 : decode b_OPG_flagOf 46 = .ok (.iconst 2, 1) := by decide +kernel
theorem d_OPG_flagOf_47 : decode b_OPG_flagOf 47 = .ok (.ireturn, 1) := by decide +kernel
theorem d_OPG_flagOf_48 : decode b_OPG_flagOf 48 = .ok (.iconst 4, 1) := by decide +kernel
theorem d_OPG_flagOf_49 : decode b_OPG_flagOf 49 = .ok (.ireturn, 1) := by decide +kernel
theorem d_OPG_flagOf_50 : decode b_OPG_flagOf 50 = .ok (.bipush 8, 2) := by decide +kernel
theorem d_OPG_flagOf_52 : decode b_OPG_flagOf 52 = .ok (.ireturn, 1) := by decide +kernel
theorem d_OPG_flagOf_53 : decode b_OPG_flagOf 53 = .ok (.iconst 0, 1) := by decide +kernel
theorem d_OPG_flagOf_54 : decode b_OPG_flagOf 54 = .ok (.ireturn, 1) := by decide +kernel
theorem d_OPG_takeFlags_0 : decode b_OPG_takeFlags 0 = .ok (.iconst 0, 1) := by decide +kernel
theorem d_OPG_takeFlags_1 : decode b_OPG_takeFlags 1 = .ok (.istore_n 1, 1) := by decide +kernel
theorem d_OPG_takeFlags_2 : decode b_OPG_takeFlags 2 = .ok (.iconst 0, 1) := by decide +kernel
theorem d_OPG_takeFlags_3 : decode b_OPG_takeFlags 3 = .ok (.istore_n 2, 1) := by decide +kernel
theorem d_OPG_takeFlags_4 : decode b_OPG_takeFlags 4 = .ok (.iload_n 2, 1) := by decide +kernel
theorem d_OPG_takeFlags_5 : decode b_OPG_takeFlags 5 = .ok (.sipush 400, 3) := by decide +kernel
theorem d_OPG_takeFlags_8 : decode b_OPG_takeFlags 8 = .ok (.if_icmp .ge 45, 3) := by decide +kernel
theorem d_OPG_takeFlags_11 : decode b_OPG_takeFlags 11 = .ok (.aload_n 0, 1) := by decide +kernel
theorem d_OPG_takeFlags_12 : decode b_OPG_takeFlags 12 = .ok (.getfield 31, 3) := by decide +kernel
theorem d_OPG_takeFlags_15 : decode b_OPG_takeFlags 15 = .ok (.aload_n 0, 1) := by decide +kernel
theorem d_OPG_takeFlags_16 : decode b_OPG_takeFlags 16 = .ok (.getfield 28, 3) := by decide +kernel
theorem d_OPG_takeFlags_19 : decode b_OPG_takeFlags 19 = .ok (.invokevirtual 35, 3) := by decide +kernel
theorem d_OPG_takeFlags_22 : decode b_OPG_takeFlags 22 = .ok (.invokestatic 55, 3) := by decide +kernel
theorem d_OPG_takeFlags_25 : decode b_OPG_takeFlags 25 = .ok (.istore_n 3, 1) := by decide +kernel
theorem d_OPG_takeFlags_26 : decode b_OPG_takeFlags 26 = .ok (.iload_n 3, 1) := by decide +kernel
theorem d_OPG_takeFlags_27 : decode b_OPG_takeFlags 27 = .ok (.ifCond .ne 6, 3) := by decide +kernel
theorem d_OPG_takeFlags_30 : decode b_OPG_takeFlags 30 = .ok (.goto 23, 3) := by decide +kernel
theorem d_OPG_takeFlags_33 : decode b_OPG_takeFlags 33 = .ok (.iload_n 1, 1) := by decide +kernel
theorem d_OPG_takeFlags_34 : decode b_OPG_takeFlags 34 = .ok (.iload_n 3, 1) := by decide +kernel
theorem d_OPG_takeFlags_35 : decode b_OPG_takeFlags 35 = .ok (.ior, 1) := by decide +kernel
theorem d_OPG_takeFlags_36 : decode b_OPG_takeFlags 36 = .ok (.istore_n 1, 1) := by decide +kernel
theorem d_OPG_takeFlags_37 : decode b_OPG_takeFlags 37 = .ok (.aload_n 0, 1) := by decide +kernel
theorem d_OPG_takeFlags_38 : decode b_OPG_takeFlags 38 = .ok (.dup, 1) := by decide +kernel
theorem d_OPG_takeFlags_39 : decode b_OPG_takeFlags 39 = .ok (.getfield 28, 3) := by decide +kernel
theorem d_OPG_takeFlags_42 : decode b_OPG_takeFlags 42 = .ok (.iconst 1, 1) := by decide +kernel
theorem d_OPG_takeFlags_43 : decode b_OPG_takeFlags 43 = .ok (.iadd, 1) := by decide +kernel
theorem d_OPG_takeFlags_44 : decode b_OPG_takeFlags 44 = .ok (.putfield 28, 3) := by decide +kernel
theorem d_OPG_takeFlags_47 : decode b_OPG_takeFlags 47 = .ok (.iinc 2 1, 3) := by decide +kernel
theorem d_OPG_takeFlags_50 : decode b_OPG_takeFlags 50 = .ok (.goto (-46), 3) := by decide +kernel
theorem d_OPG_takeFlags_53 : decode b_OPG_takeFlags 53 = .ok (.iload_n 1, 1) := by decide +kernel
theorem d_OPG_takeFlags_54 : decode b_OPG_takeFlags 54 = .ok (.ireturn, 1) := by decide +kernel
theorem d_OPG_readFlags_0 : decode b_OPG_readFlags 0 = .ok (.aload_n 0, 1) := by decide +kernel
theorem d_OPG_readFlags_1 : decode b_OPG_readFlags 1 = .ok (.iconst 0, 1) := by decide +kernel
theorem d_OPG_readFlags_2 : decode b_OPG_readFlags 2 = .ok (.putfield 9, 3) := by decide +kernel
theorem d_OPG_readFlags_5 : decode b_OPG_readFlags 5 = .ok (.aload_n 0, 1) := by decide +kernel
theorem d_OPG_readFlags_6 : decode b_OPG_readFlags 6 = .ok (.iload_n 1, 1) := by decide +kernel
theorem d_OPG_readFlags_7 : decode b_OPG_readFlags 7 = .ok (.putfield 28, 3) := by decide +kernel
theorem d_OPG_readFlags_10 : decode b_OPG_readFlags 10 = .ok (.aload_n 0, 1) := by decide +kernel
theorem d_OPG_readFlags_11 : decode b_OPG_readFlags 11 = .ok (.dup, 1) := by decide +kernel
theorem d_OPG_readFlags_12 : decode b_OPG_readFlags 12 = .ok (.getfield 25, 3) := by decide +kernel
theorem d_OPG_readFlags_15 : decode b_OPG_readFlags 15 = .ok (.aload_n 0, 1) := by decide +kernel
theorem d_OPG_readFlags_16 : decode b_OPG_readFlags 16 = .ok (.invokevirtual 51, 3) := by decide +kernel
theorem d_OPG_readFlags_19 : decode b_OPG_readFlags 19 = .ok (.ior, 1) := by decide +kernel
theorem d_OPG_readFlags_20 : decode b_OPG_readFlags 20 = .ok (.putfield 25, 3) := by decide +kernel
theorem d_OPG_readFlags_23 : decode b_OPG_readFlags 23 = .ok (.aload_n 0, 1) := by decide +kernel
theorem d_OPG_readFlags_24 : decode b_OPG_readFlags 24 = .ok (.getfield 31, 3) := by decide +kernel
theorem d_OPG_readFlags_27 : decode b_OPG_readFlags 27 = .ok (.aload_n 0, 1) := by decide +kernel
theorem d_OPG_readFlags_28 : decode b_OPG_readFlags 28 = .ok (.getfield 28, 3) := by decide +kernel
theorem d_OPG_readFlags_31 : decode b_OPG_readFlags 31 = .ok (.invokevirtual 35, 3) := by decide +kernel
theorem d_OPG_readFlags_34 : decode b_OPG_readFlags 34 = .ok (.bipush 45, 2) := by decide +kernel
theorem d_OPG_readFlags_36 : decode b_OPG_readFlags 36 = .ok (.if_icmp .ne 36, 3) := by decide +kernel
theorem d_OPG_readFlags_39 : decode b_OPG_readFlags 39 = .ok (.aload_n 0, 1) := by decide +kernel
theorem d_OPG_readFlags_40 : decode b_OPG_readFlags 40 = .ok (.dup, 1) := by decide +kernel
theorem d_OPG_readFlags_41 : decode b_OPG_readFlags 41 = .ok (.getfield 28, 3) := by decide +kernel
theorem d_OPG_readFlags_44 : decode b_OPG_readFlags 44 = .ok (.iconst 1, 1) := by decide +kernel
theorem d_OPG_readFlags_45 : decode b_OPG_readFlags 45 = .ok (.iadd, 1) := by decide +kernel
theorem d_OPG_readFlags_46 : decode b_OPG_readFlags 46 = .ok (.putfield 28, 3) := by decide +kernel
theorem d_OPG_readFlags_49 : decode b_OPG_readFlags 49 = .ok (.aload_n 0, 1) := by decide +kernel
theorem d_OPG_readFlags_50 : decode b_OPG_readFlags 50 = .ok (.invokevirtual 51, 3) := by decide +kernel
theorem d_OPG_readFlags_53 : decode b_OPG_readFlags 53 = .ok (.istore_n 2, 1) := by decide +kernel
theorem d_OPG_readFlags_54 : decode b_OPG_readFlags 54 = .ok (.iload_n 2, 1) := by decide +kernel
theorem d_OPG_readFlags_55 : decode b_OPG_readFlags 55 = .ok (.ifCond .ne 5, 3) := by decide +kernel
theorem d_OPG_readFlags_58 : decode b_OPG_readFlags 58 = .ok (.iconst 0, 1) := by decide +kernel
theorem d_OPG_readFlags_59 : decode b_OPG_readFlags 59 = .ok (.ireturn, 1) := by decide +kernel
theorem d_OPG_readFlags_60 : decode b_OPG_readFlags 60 = .ok (.aload_n 0, 1) := by decide +kernel
theorem d_OPG_readFlags_61 : decode b_OPG_readFlags 61 = .ok (.dup, 1) := by decide +kernel
theorem d_OPG_readFlags_62 : decode b_OPG_readFlags 62 = .ok (.getfield 25, 3) := by decide +kernel
theorem d_OPG_readFlags_65 : decode b_OPG_readFlags 65 = .ok (.iload_n 2, 1) := by decide +kernel
theorem d_OPG_readFlags_66 : decode b_OPG_readFlags 66 = .ok (.iconst (-1), 1) := by decide +kernel
theorem d_OPG_readFlags_67 : decode b_OPG_readFlags 67 = .ok (.ixor, 1) := by decide +kernel
theorem d_OPG_readFlags_68 : decode b_OPG_readFlags 68 = .ok (.iand, 1) := by decide +kernel
theorem d_OPG_readFlags_69 : decode b_OPG_readFlags 69 = .ok (.putfield 25, 3) := by decide +kernel
theorem d_OPG_readFlags_72 : decode b_OPG_readFlags 72 = .ok (.aload_n 0, 1) := by decide +kernel
theorem d_OPG_readFlags_73 : decode b_OPG_readFlags 73 = .ok (.getfield 31, 3) := by decide +kernel
theorem d_OPG_readFlags_76 : decode b_OPG_readFlags 76 = .ok (.aload_n 0, 1) := by decide +kernel
theorem d_OPG_readFlags_77 : decode b_OPG_readFlags 77 = .ok (.getfield 28, 3) := by decide +kernel
theorem d_OPG_readFlags_80 : decode b_OPG_readFlags 80 = .ok (.invokevirtual 35, 3) := by decide +kernel
theorem d_OPG_readFlags_83 : decode b_OPG_readFlags 83 = .ok (.istore_n 2, 1) := by decide +kernel
theorem d_OPG_readFlags_84 : decode b_OPG_readFlags 84 = .ok (.aload_n 0, 1) := by decide +kernel
theorem d_OPG_readFlags_85 : decode b_OPG_readFlags 85 = .ok (.dup, 1) := by decide +kernel
theorem d_OPG_readFlags_86 : decode b_OPG_readFlags 86 = .ok (.getfield 28, 3) := by decide +kernel
theorem d_OPG_readFlags_89 : decode b_OPG_readFlags 89 = .ok (.iconst 1, 1) := by decide +kernel
theorem d_OPG_readFlags_90 : decode b_OPG_readFlags 90 = .ok (.iadd, 1) := by decide +kernel
theorem d_OPG_readFlags_91 : decode b_OPG_readFlags 91 = .ok (.putfield 28, 3) := by decide +kernel
theorem d_OPG_readFlags_94 : decode b_OPG_readFlags 94 = .ok (.aload_n 0, 1) := by decide +kernel
theorem d_OPG_readFlags_95 : decode b_OPG_readFlags 95 = .ok (.iload_n 2, 1) := by decide +kernel
theorem d_OPG_readFlags_96 : decode b_OPG_readFlags 96 = .ok (.bipush 41, 2) := by decide +kernel
theorem d_OPG_readFlags_98 : decode b_OPG_readFlags 98 = .ok (.if_icmp .ne 7, 3) := by decide +kernel
theorem d_OPG_readFlags_101 : decode b_OPG_readFlags 101 = .ok (.iconst 1, 1) := by decide +kernel
theorem d_OPG_readFlags_102 : decode b_OPG_readFlags 102 = .ok (.goto 4, 3) := by decide +kernel
theorem d_OPG_readFlags_105 : decode b_OPG_readFlags 105 = .ok (.iconst 0, 1) := by decide +kernel
theorem d_OPG_readFlags_106 : decode b_OPG_readFlags 106 = .ok (.putfield 15, 3) := by decide +kernel
theorem d_OPG_readFlags_109 : decode b_OPG_readFlags 109 = .ok (.aload_n 0, 1) := by decide +kernel
theorem d_OPG_readFlags_110 : decode b_OPG_readFlags 110 = .ok (.getfield 15, 3) := by decide +kernel
theorem d_OPG_readFlags_113 : decode b_OPG_readFlags 113 = .ok (.ifCond .ne 9, 3) := by decide +kernel
theorem d_OPG_readFlags_116 : decode b_OPG_readFlags 116 = .ok (.iload_n 2, 1) := by decide +kernel
theorem d_OPG_readFlags_117 : decode b_OPG_readFlags 117 = .ok (.bipush 58, 2) := by decide +kernel
theorem d_OPG_readFlags_119 : decode b_OPG_readFlags 119 = .ok (.if_icmp .ne 7, 3) := by decide +kernel
theorem d_OPG_readFlags_122 : decode b_OPG_readFlags 122 = .ok (.iconst 1, 1) := by decide +kernel
theorem d_OPG_readFlags_123 : decode b_OPG_readFlags 123 = .ok (.goto 4, 3) := by decide +kernel
theorem d_OPG_readFlags_126 : decode b_OPG_readFlags 126 = .ok (.iconst 0, 1) := by decide +kernel
theorem d_OPG_readFlags_127 : decode b_OPG_readFlags 127 = .ok (.ireturn, 1) := by decide +kernel
theorem d_OPG_readOpening_0 : decode b_OPG_readOpening 0 = .ok (.aload_n 0, 1) := by decide +kernel
theorem d_OPG_readOpening_1 : decode b_OPG_readOpening 1 = .ok (.iconst 1, 1) := by decide +kernel
theorem d_OPG_readOpening_2 : decode b_OPG_readOpening 2 = .ok (.putfield 9, 3) := by decide +kernel
theorem d_OPG_readOpening_5 : decode b_OPG_readOpening 5 = .ok (.aload_n 0, 1) := by decide +kernel
theorem d_OPG_readOpening_6 : decode b_OPG_readOpening 6 = .ok (.iconst 0, 1) := by decide +kernel
theorem d_OPG_readOpening_7 : decode b_OPG_readOpening 7 = .ok (.putfield 15, 3) := by decide +kernel
theorem d_OPG_readOpening_10 : decode b_OPG_readOpening 10 = .ok (.aload_n 0, 1) := by decide +kernel
theorem d_OPG_readOpening_11 : decode b_OPG_readOpening 11 = .ok (.iconst 0, 1) := by decide +kernel
theorem d_OPG_readOpening_12 : decode b_OPG_readOpening 12 = .ok (.putfield 22, 3) := by decide +kernel
theorem d_OPG_readOpening_15 : decode b_OPG_readOpening 15 = .ok (.aload_n 0, 1) := by decide +kernel
theorem d_OPG_readOpening_16 : decode b_OPG_readOpening 16 = .ok (.iload_n 2, 1) := by decide +kernel
theorem d_OPG_readOpening_17 : decode b_OPG_readOpening 17 = .ok (.putfield 25, 3) := by decide +kernel
theorem d_OPG_readOpening_20 : decode b_OPG_readOpening 20 = .ok (.aload_n 0, 1) := by decide +kernel
theorem d_OPG_readOpening_21 : decode b_OPG_readOpening 21 = .ok (.iload_n 1, 1) := by decide +kernel
theorem d_OPG_readOpening_22 : decode b_OPG_readOpening 22 = .ok (.iconst 1, 1) := by decide +kernel
theorem d_OPG_readOpening_23 : decode b_OPG_readOpening 23 = .ok (.iadd, 1) := by decide +kernel
theorem d_OPG_readOpening_24 : decode b_OPG_readOpening 24 = .ok (.putfield 28, 3) := by decide +kernel
theorem d_OPG_readOpening_27 : decode b_OPG_readOpening 27 = .ok (.aload_n 0, 1) := by decide +kernel
theorem d_OPG_readOpening_28 : decode b_OPG_readOpening 28 = .ok (.getfield 31, 3) := by decide +kernel
theorem d_OPG_readOpening_31 : decode b_OPG_readOpening 31 = .ok (.iload_n 1, 1) := by decide +kernel
theorem d_OPG_readOpening_32 : decode b_OPG_readOpening 32 = .ok (.iconst 1, 1) := by decide +kernel
theorem d_OPG_readOpening_33 : decode b_OPG_readOpening 33 = .ok (.iadd, 1) := by decide +kernel
theorem d_OPG_readOpening_34 : decode b_OPG_readOpening 34 = .ok (.invokevirtual 35, 3) := by decide +kernel
theorem d_OPG_readOpening_37 : decode b_OPG_readOpening 37 = .ok (.bipush 63, 2) := by decide +kernel
theorem d_OPG_readOpening_39 : decode b_OPG_readOpening 39 = .ok (.if_icmp .eq 5, 3) := by decide +kernel
theorem d_OPG_readOpening_42 : decode b_OPG_readOpening 42 = .ok (.iconst 1, 1) := by decide +kernel
theorem d_OPG_readOpening_43 : decode b_OPG_readOpening 43 = .ok (.ireturn, 1) := by decide +kernel
theorem d_OPG_readOpening_44 : decode b_OPG_readOpening 44 = .ok (.aload_n 0, 1) := by decide +kernel
theorem d_OPG_readOpening_45 : decode b_OPG_readOpening 45 = .ok (.getfield 31, 3) := by decide +kernel
theorem d_OPG_readOpening_48 : decode b_OPG_readOpening 48 = .ok (.iload_n 1, 1) := by decide +kernel
theorem d_OPG_readOpening_49 : decode b_OPG_readOpening 49 = .ok (.iconst 2, 1) := by decide +kernel
theorem d_OPG_readOpening_50 : decode b_OPG_readOpening 50 = .ok (.iadd, 1) := by decide +kernel
theorem d_OPG_readOpening_51 : decode b_OPG_readOpening 51 = .ok (.invokevirtual 35, 3) := by decide +kernel
theorem d_OPG_readOpening_54 : decode b_OPG_readOpening 54 = .ok (.bipush 80, 2) := by decide +kernel
theorem d_OPG_readOpening_56 : decode b_OPG_readOpening 56 = .ok (.if_icmp .ne 13, 3) := by decide +kernel
theorem d_OPG_readOpening_59 : decode b_OPG_readOpening 59 = .ok (.aload_n 0, 1) := by decide +kernel
theorem d_OPG_readOpening_60 : decode b_OPG_readOpening 60 = .ok (.iload_n 1, 1) := by decide +kernel
theorem d_OPG_readOpening_61 : decode b_OPG_readOpening 61 = .ok (.iconst 3, 1) := by decide +kernel
theorem d_OPG_readOpening_62 : decode b_OPG_readOpening 62 = .ok (.iadd, 1) := by decide +kernel
theorem d_OPG_readOpening_63 : decode b_OPG_readOpening 63 = .ok (.invokevirtual 41, 3) := by decide +kernel
theorem d_OPG_readOpening_66 : decode b_OPG_readOpening 66 = .ok (.goto 10, 3) := by decide +kernel
theorem d_OPG_readOpening_69 : decode b_OPG_readOpening 69 = .ok (.aload_n 0, 1) := by decide +kernel
theorem d_OPG_readOpening_70 : decode b_OPG_readOpening 70 = .ok (.iload_n 1, 1) := by decide +kernel
theorem d_OPG_readOpening_71 : decode b_OPG_readOpening 71 = .ok (.iconst 2, 1) := by decide +kernel
theorem d_OPG_readOpening_72 : decode b_OPG_readOpening 72 = .ok (.iadd, 1) := by decide +kernel
theorem d_OPG_readOpening_73 : decode b_OPG_readOpening 73 = .ok (.invokevirtual 45, 3) := by decide +kernel
theorem d_OPG_readOpening_76 : decode b_OPG_readOpening 76 = .ok (.ireturn, 1) := by decide +kernel
theorem d_MIS_tell_0 : decode b_MIS_tell 0 = .ok (.aload_n 0, 1) := by decide +kernel
theorem d_MIS_tell_1 : decode b_MIS_tell 1 = .ok (.getfield 9, 3) := by decide +kernel
theorem d_MIS_tell_4 : decode b_MIS_tell 4 = .ok (.ifCond .ne 13, 3) := by decide +kernel
theorem d_MIS_tell_7 : decode b_MIS_tell 7 = .ok (.aload_n 0, 1) := by decide +kernel
theorem d_MIS_tell_8 : decode b_MIS_tell 8 = .ok (.iload_n 1, 1) := by decide +kernel
theorem d_MIS_tell_9 : decode b_MIS_tell 9 = .ok (.putfield 9, 3) := by decide +kernel
theorem d_MIS_tell_12 : decode b_MIS_tell 12 = .ok (.aload_n 0, 1) := by decide +kernel
theorem d_MIS_tell_13 : decode b_MIS_tell 13 = .ok (.iload_n 2, 1) := by decide +kernel
theorem d_MIS_tell_14 : decode b_MIS_tell 14 = .ok (.putfield 15, 3) := by decide +kernel
theorem d_MIS_tell_17 : decode b_MIS_tell 17 = .ok (.return_, 1) := by decide +kernel
theorem d_TRE_addLeaf_0 : decode b_TRE_addLeaf 0 = .ok (.aload_n 0, 1) := by decide +kernel
theorem d_TRE_addLeaf_1 : decode b_TRE_addLeaf 1 = .ok (.iconst 0, 1) := by decide +kernel
theorem d_TRE_addLeaf_2 : decode b_TRE_addLeaf 2 = .ok (.iload_n 1, 1) := by decide +kernel
theorem d_TRE_addLeaf_3 : decode b_TRE_addLeaf 3 = .ok (.iload_n 2, 1) := by decide +kernel
theorem d_TRE_addLeaf_4 : decode b_TRE_addLeaf 4 = .ok (.iconst (-1), 1) := by decide +kernel
theorem d_TRE_addLeaf_5 : decode b_TRE_addLeaf 5 = .ok (.iload_n 3, 1) := by decide +kernel
theorem d_TRE_addLeaf_6 : decode b_TRE_addLeaf 6 = .ok (.invokevirtual 52, 3) := by decide +kernel
theorem d_TRE_addLeaf_9 : decode b_TRE_addLeaf 9 = .ok (.return_, 1) := by decide +kernel
theorem d_RDR_partDone_0 : decode b_RDR_partDone 0 = .ok (.aload_n 0, 1) := by decide +kernel
theorem d_RDR_partDone_1 : decode b_RDR_partDone 1 = .ok (.getfield 12, 3) := by decide +kernel
theorem d_RDR_partDone_4 : decode b_RDR_partDone 4 = .ok (.getfield 163, 3) := by decide +kernel
theorem d_RDR_partDone_7 : decode b_RDR_partDone 7 = .ok (.aload_n 0, 1) := by decide +kernel
theorem d_RDR_partDone_8 : decode b_RDR_partDone 8 = .ok (.getfield 12, 3) := by decide +kernel
theorem d_RDR_partDone_11 : decode b_RDR_partDone 11 = .ok (.getfield 106, 3) := by decide +kernel
theorem d_RDR_partDone_14 : decode b_RDR_partDone 14 = .ok (.dup2, 1) := by decide +kernel
theorem d_RDR_partDone_15 : decode b_RDR_partDone 15 = .ok (.iaload, 1) := by decide +kernel
theorem d_RDR_partDone_16 : decode b_RDR_partDone 16 = .ok (.iconst 1, 1) := by decide +kernel
theorem d_RDR_partDone_17 : decode b_RDR_partDone 17 = .ok (.iadd, 1) := by decide +kernel
theorem d_RDR_partDone_18 : decode b_RDR_partDone 18 = .ok (.iastore, 1) := by decide +kernel
theorem d_RDR_partDone_19 : decode b_RDR_partDone 19 = .ok (.aload_n 0, 1) := by decide +kernel
theorem d_RDR_partDone_20 : decode b_RDR_partDone 20 = .ok (.iload_n 2, 1) := by decide +kernel
theorem d_RDR_partDone_21 : decode b_RDR_partDone 21 = .ok (.putfield 32, 3) := by decide +kernel
theorem d_RDR_partDone_24 : decode b_RDR_partDone 24 = .ok (.aload_n 0, 1) := by decide +kernel
theorem d_RDR_partDone_25 : decode b_RDR_partDone 25 = .ok (.iload_n 1, 1) := by decide +kernel
theorem d_RDR_partDone_26 : decode b_RDR_partDone 26 = .ok (.putfield 25, 3) := by decide +kernel
theorem d_RDR_partDone_29 : decode b_RDR_partDone 29 = .ok (.return_, 1) := by decide +kernel
theorem d_GRP_isNamed_0 : decode b_GRP_isNamed 0 = .ok (.iconst 0, 1) := by decide +kernel
theorem d_GRP_isNamed_1 : decode b_GRP_isNamed 1 = .ok (.istore 4, 2) := by decide +kernel
theorem d_GRP_isNamed_3 : decode b_GRP_isNamed 3 = .ok (.iload 4, 2) := by decide +kernel
theorem d_GRP_isNamed_5 : decode b_GRP_isNamed 5 = .ok (.aload_n 0, 1) := by decide +kernel
theorem d_GRP_isNamed_6 : decode b_GRP_isNamed 6 = .ok (.getfield 9, 3) := by decide +kernel
theorem d_GRP_isNamed_9 : decode b_GRP_isNamed 9 = .ok (.iload_n 1, 1) := by decide +kernel
theorem d_GRP_isNamed_10 : decode b_GRP_isNamed 10 = .ok (.iaload, 1) := by decide +kernel
theorem d_GRP_isNamed_11 : decode b_GRP_isNamed 11 = .ok (.if_icmp .ge 34, 3) := by decide +kernel
theorem d_GRP_isNamed_14 : decode b_GRP_isNamed 14 = .ok (.aload_n 0, 1) := by decide +kernel
theorem d_GRP_isNamed_15 : decode b_GRP_isNamed 15 = .ok (.getfield 15, 3) := by decide +kernel
theorem d_GRP_isNamed_18 : decode b_GRP_isNamed 18 = .ok (.iload_n 1, 1) := by decide +kernel
theorem d_GRP_isNamed_19 : decode b_GRP_isNamed 19 = .ok (.bipush 12, 2) := by decide +kernel
theorem d_GRP_isNamed_21 : decode b_GRP_isNamed 21 = .ok (.imul, 1) := by decide +kernel
theorem d_GRP_isNamed_22 : decode b_GRP_isNamed 22 = .ok (.iload 4, 2) := by decide +kernel
theorem d_GRP_isNamed_24 : decode b_GRP_isNamed 24 = .ok (.iadd, 1) := by decide +kernel
theorem d_GRP_isNamed_25 : decode b_GRP_isNamed 25 = .ok (.iaload, 1) := by decide +kernel
theorem d_GRP_isNamed_26 : decode b_GRP_isNamed 26 = .ok (.aload_n 2, 1) := by decide +kernel
theorem d_GRP_isNamed_27 : decode b_GRP_isNamed 27 = .ok (.iload_n 3, 1) := by decide +kernel
theorem d_GRP_isNamed_28 : decode b_GRP_isNamed 28 = .ok (.iload 4, 2) := by decide +kernel
theorem d_GRP_isNamed_30 : decode b_GRP_isNamed 30 = .ok (.iadd, 1) := by decide +kernel
theorem d_GRP_isNamed_31 : decode b_GRP_isNamed 31 = .ok (.invokevirtual 32, 3) := by decide +kernel
theorem d_GRP_isNamed_34 : decode b_GRP_isNamed 34 = .ok (.if_icmp .eq 5, 3) := by decide +kernel
theorem d_GRP_isNamed_37 : decode b_GRP_isNamed 37 = .ok (.iconst 0, 1) := by decide +kernel
theorem d_GRP_isNamed_38 : decode b_GRP_isNamed 38 = .ok (.ireturn, 1) := by decide +kernel
theorem d_GRP_isNamed_39 : decode b_GRP_isNamed 39 = .ok (.iinc 4 1, 3) := by decide +kernel
theorem d_GRP_isNamed_42 : decode b_GRP_isNamed 42 = .ok (.goto (-39), 3) := by decide +kernel
theorem d_GRP_isNamed_45 : decode b_GRP_isNamed 45 = .ok (.iconst 1, 1) := by decide +kernel
theorem d_GRP_isNamed_46 : decode b_GRP_isNamed 46 = .ok (.ireturn, 1) := by decide +kernel
theorem d_GRP_hasName_0 : decode b_GRP_hasName 0 = .ok (.iconst 1, 1) := by decide +kernel
theorem d_GRP_hasName_1 : decode b_GRP_hasName 1 = .ok (.istore 4, 2) := by decide +kernel
theorem d_GRP_hasName_3 : decode b_GRP_hasName 3 = .ok (.iload 4, 2) := by decide +kernel
theorem d_GRP_hasName_5 : decode b_GRP_hasName 5 = .ok (.aload_n 0, 1) := by decide +kernel
theorem d_GRP_hasName_6 : decode b_GRP_hasName 6 = .ok (.getfield 18, 3) := by decide +kernel
theorem d_GRP_hasName_9 : decode b_GRP_hasName 9 = .ok (.if_icmp .gt 33, 3) := by decide +kernel
theorem d_GRP_hasName_12 : decode b_GRP_hasName 12 = .ok (.aload_n 0, 1) := by decide +kernel
theorem d_GRP_hasName_13 : decode b_GRP_hasName 13 = .ok (.getfield 9, 3) := by decide +kernel
theorem d_GRP_hasName_16 : decode b_GRP_hasName 16 = .ok (.iload 4, 2) := by decide +kernel
theorem d_GRP_hasName_18 : decode b_GRP_hasName 18 = .ok (.iaload, 1) := by decide +kernel
theorem d_GRP_hasName_19 : decode b_GRP_hasName 19 = .ok (.iload_n 3, 1) := by decide +kernel
theorem d_GRP_hasName_20 : decode b_GRP_hasName 20 = .ok (.if_icmp .ne 16, 3) := by decide +kernel
theorem d_GRP_hasName_23 : decode b_GRP_hasName 23 = .ok (.aload_n 0, 1) := by decide +kernel
theorem d_GRP_hasName_24 : decode b_GRP_hasName 24 = .ok (.iload 4, 2) := by decide +kernel
theorem d_GRP_hasName_26 : decode b_GRP_hasName 26 = .ok (.aload_n 1, 1) := by decide +kernel
theorem d_GRP_hasName_27 : decode b_GRP_hasName 27 = .ok (.iload_n 2, 1) := by decide +kernel
theorem d_GRP_hasName_28 : decode b_GRP_hasName 28 = .ok (.invokevirtual 38, 3) := by decide +kernel
theorem d_GRP_hasName_31 : decode b_GRP_hasName 31 = .ok (.ifCond .eq 5, 3) := by decide +kernel
theorem d_GRP_hasName_34 : decode b_GRP_hasName 34 = .ok (.iconst 1, 1) := by decide +kernel
theorem d_GRP_hasName_35 : decode b_GRP_hasName 35 = .ok (.ireturn, 1) := by decide +kernel
theorem d_GRP_hasName_36 : decode b_GRP_hasName 36 = .ok (.iinc 4 1, 3) := by decide +kernel
theorem d_GRP_hasName_39 : decode b_GRP_hasName 39 = .ok (.goto (-36), 3) := by decide +kernel
theorem d_GRP_hasName_42 : decode b_GRP_hasName 42 = .ok (.iconst 0, 1) := by decide +kernel
theorem d_GRP_hasName_43 : decode b_GRP_hasName 43 = .ok (.ireturn, 1) := by decide +kernel
theorem d_GRP_isFull_0 : decode b_GRP_isFull 0 = .ok (.aload_n 0, 1) := by decide +kernel
theorem d_GRP_isFull_1 : decode b_GRP_isFull 1 = .ok (.getfield 18, 3) := by decide +kernel
theorem d_GRP_isFull_4 : decode b_GRP_isFull 4 = .ok (.bipush 9, 2) := by decide +kernel
theorem d_GRP_isFull_6 : decode b_GRP_isFull 6 = .ok (.if_icmp .lt 7, 3) := by decide +kernel
theorem d_GRP_isFull_9 : decode b_GRP_isFull 9 = .ok (.iconst 1, 1) := by decide +kernel
theorem d_GRP_isFull_10 : decode b_GRP_isFull 10 = .ok (.goto 4, 3) := by decide +kernel
theorem d_GRP_isFull_13 : decode b_GRP_isFull 13 = .ok (.iconst 0, 1) := by decide +kernel
theorem d_GRP_isFull_14 : decode b_GRP_isFull 14 = .ok (.ireturn, 1) := by decide +kernel
theorem d_GRP_addGroup_0 : decode b_GRP_addGroup 0 = .ok (.aload_n 0, 1) := by decide +kernel
theorem d_GRP_addGroup_1 : decode b_GRP_addGroup 1 = .ok (.invokevirtual 22, 3) := by decide +kernel
theorem d_GRP_addGroup_4 : decode b_GRP_addGroup 4 = .ok (.ifCond .eq 5, 3) := by decide +kernel
theorem d_GRP_addGroup_7 : decode b_GRP_addGroup 7 = .ok (.iconst 0, 1) := by decide +kernel
theorem d_GRP_addGroup_8 : decode b_GRP_addGroup 8 = .ok (.ireturn, 1) := by decide +kernel
theorem d_GRP_addGroup_9 : decode b_GRP_addGroup 9 = .ok (.aload_n 0, 1) := by decide +kernel
theorem d_GRP_addGroup_10 : decode b_GRP_addGroup 10 = .ok (.dup, 1) := by decide +kernel
theorem d_GRP_addGroup_11 : decode b_GRP_addGroup 11 = .ok (.getfield 18, 3) := by decide +kernel
theorem d_GRP_addGroup_14 : decode b_GRP_addGroup 14 = .ok (.iconst 1, 1) := by decide +kernel
theorem d_GRP_addGroup_15 : decode b_GRP_addGroup 15 = .ok (.iadd, 1) := by decide +kernel
theorem d_GRP_addGroup_16 : decode b_GRP_addGroup 16 = .ok (.putfield 18, 3) := by decide +kernel
theorem d_GRP_addGroup_19 : decode b_GRP_addGroup 19 = .ok (.aload_n 0, 1) := by decide +kernel
theorem d_GRP_addGroup_20 : decode b_GRP_addGroup 20 = .ok (.getfield 9, 3) := by decide +kernel
theorem d_GRP_addGroup_23 : decode b_GRP_addGroup 23 = .ok (.aload_n 0, 1) := by decide +kernel
theorem d_GRP_addGroup_24 : decode b_GRP_addGroup 24 = .ok (.getfield 18, 3) := by decide +kernel
theorem d_GRP_addGroup_27 : decode b_GRP_addGroup 27 = .ok (.iload_n 3, 1) := by decide +kernel
theorem d_GRP_addGroup_28 : decode b_GRP_addGroup 28 = .ok (.bipush 12, 2) := by decide +kernel
theorem d_GRP_addGroup_30 : decode b_GRP_addGroup 30 = .ok (.invokestatic 26, 3) := by decide +kernel
theorem d_GRP_addGroup_33 : decode b_GRP_addGroup 33 = .ok (.iastore, 1) := by decide +kernel
theorem d_GRP_addGroup_34 : decode b_GRP_addGroup 34 = .ok (.iconst 0, 1) := by decide +kernel
theorem d_GRP_addGroup_35 : decode b_GRP_addGroup 35 = .ok (.istore 4, 2) := by decide +kernel
theorem d_GRP_addGroup_37 : decode b_GRP_addGroup 37 = .ok (.iload 4, 2) := by decide +kernel
theorem d_GRP_addGroup_39 : decode b_GRP_addGroup 39 = .ok (.aload_n 0, 1) := by decide +kernel
theorem d_GRP_addGroup_40 : decode b_GRP_addGroup 40 = .ok (.getfield 9, 3) := by decide +kernel
theorem d_GRP_addGroup_43 : decode b_GRP_addGroup 43 = .ok (.aload_n 0, 1) := by decide +kernel
theorem d_GRP_addGroup_44 : decode b_GRP_addGroup 44 = .ok (.getfield 18, 3) := by decide +kernel
theorem d_GRP_addGroup_47 : decode b_GRP_addGroup 47 = .ok (.iaload, 1) := by decide +kernel
theorem d_GRP_addGroup_48 : decode b_GRP_addGroup 48 = .ok (.if_icmp .ge 32, 3) := by decide +kernel
theorem d_GRP_addGroup_51 : decode b_GRP_addGroup 51 = .ok (.aload_n 0, 1) := by decide +kernel
theorem d_GRP_addGroup_52 : decode b_GRP_addGroup 52 = .ok (.getfield 15, 3) := by decide +kernel
theorem d_GRP_addGroup_55 : decode b_GRP_addGroup 55 = .ok (.aload_n 0, 1) := by decide +kernel
theorem d_GRP_addGroup_56 : decode b_GRP_addGroup 56 = .ok (.getfield 18, 3) := by decide +kernel
theorem d_GRP_addGroup_59 : decode b_GRP_addGroup 59 = .ok (.bipush 12, 2) := by decide +kernel
theorem d_GRP_addGroup_61 : decode b_GRP_addGroup 61 = .ok (.imul, 1) := by decide +kernel
theorem d_GRP_addGroup_62 : decode b_GRP_addGroup 62 = .ok (.iload 4, 2) := by decide +kernel
theorem d_GRP_addGroup_64 : decode b_GRP_addGroup 64 = .ok (.iadd, 1) := by decide +kernel
theorem d_GRP_addGroup_65 : decode b_GRP_addGroup 65 = .ok (.aload_n 1, 1) := by decide +kernel
theorem d_GRP_addGroup_66 : decode b_GRP_addGroup 66 = .ok (.iload_n 2, 1) := by decide +kernel
theorem d_GRP_addGroup_67 : decode b_GRP_addGroup 67 = .ok (.iload 4, 2) := by decide +kernel
theorem d_GRP_addGroup_69 : decode b_GRP_addGroup 69 = .ok (.iadd, 1) := by decide +kernel
theorem d_GRP_addGroup_70 : decode b_GRP_addGroup 70 = .ok (.invokevirtual 32, 3) := by decide +kernel
theorem d_GRP_addGroup_73 : decode b_GRP_addGroup 73 = .ok (.iastore, 1) := by decide +kernel
theorem d_GRP_addGroup_74 : decode b_GRP_addGroup 74 = .ok (.iinc 4 1, 3) := by decide +kernel
theorem d_GRP_addGroup_77 : decode b_GRP_addGroup 77 = .ok (.goto (-40), 3) := by decide +kernel
theorem d_GRP_addGroup_80 : decode b_GRP_addGroup 80 = .ok (.aload_n 0, 1) := by decide +kernel
theorem d_GRP_addGroup_81 : decode b_GRP_addGroup 81 = .ok (.getfield 18, 3) := by decide +kernel
theorem d_GRP_addGroup_84 : decode b_GRP_addGroup 84 = .ok (.ireturn, 1) := by decide +kernel
theorem d_OPN_enter_0 : decode b_OPN_enter 0 = .ok (.aload_n 0, 1) := by decide +kernel
theorem d_OPN_enter_1 : decode b_OPN_enter 1 = .ok (.getfield 27, 3) := by decide +kernel
theorem d_OPN_enter_4 : decode b_OPN_enter 4 = .ok (.bipush 30, 2) := by decide +kernel
theorem d_OPN_enter_6 : decode b_OPN_enter 6 = .ok (.if_icmp .lt 4, 3) := by decide +kernel
theorem d_OPN_enter_9 : decode b_OPN_enter 9 = .ok (.return_, 1) := by decide +kernel
theorem d_OPN_enter_10 : decode b_OPN_enter 10 = .ok (.aload_n 0, 1) := by decide +kernel
theorem d_OPN_enter_11 : decode b_OPN_enter 11 = .ok (.dup, 1) := by decide +kernel
theorem d_OPN_enter_12 : decode b_OPN_enter 12 = .ok (.getfield 27, 3) := by decide +kernel
