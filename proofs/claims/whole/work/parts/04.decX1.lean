theorem dX1_init_0 : decode cX1_init 0 = .ok (.aload_n 0, 1) := by decide +kernel
theorem dX1_init_1 : decode cX1_init 1 = .ok (.invokespecial 1, 3) := by decide +kernel
theorem dX1_init_4 : decode cX1_init 4 = .ok (.aload_n 0, 1) := by decide +kernel
theorem dX1_init_5 : decode cX1_init 5 = .ok (.sipush 2048, 3) := by decide +kernel
theorem dX1_init_8 : decode cX1_init 8 = .ok (.newarray .boolean, 2) := by decide +kernel
theorem dX1_init_10 : decode cX1_init 10 = .ok (.putfield 7, 3) := by decide +kernel
theorem dX1_init_13 : decode cX1_init 13 = .ok (.aload_n 0, 1) := by decide +kernel
theorem dX1_init_14 : decode cX1_init 14 = .ok (.sipush 2048, 3) := by decide +kernel
theorem dX1_init_17 : decode cX1_init 17 = .ok (.newarray .boolean, 2) := by decide +kernel
theorem dX1_init_19 : decode cX1_init 19 = .ok (.putfield 13, 3) := by decide +kernel
theorem dX1_init_22 : decode cX1_init 22 = .ok (.aload_n 0, 1) := by decide +kernel
theorem dX1_init_23 : decode cX1_init 23 = .ok (.sipush 128, 3) := by decide +kernel
theorem dX1_init_26 : decode cX1_init 26 = .ok (.newarray .boolean, 2) := by decide +kernel
theorem dX1_init_28 : decode cX1_init 28 = .ok (.putfield 16, 3) := by decide +kernel
theorem dX1_init_31 : decode cX1_init 31 = .ok (.aload_n 0, 1) := by decide +kernel
theorem dX1_init_32 : decode cX1_init 32 = .ok (.sipush 128, 3) := by decide +kernel
theorem dX1_init_35 : decode cX1_init 35 = .ok (.newarray .int, 2) := by decide +kernel
theorem dX1_init_37 : decode cX1_init 37 = .ok (.putfield 19, 3) := by decide +kernel
theorem dX1_init_40 : decode cX1_init 40 = .ok (.aload_n 0, 1) := by decide +kernel
theorem dX1_init_41 : decode cX1_init 41 = .ok (.bipush 6, 2) := by decide +kernel
theorem dX1_init_43 : decode cX1_init 43 = .ok (.newarray .int, 2) := by decide +kernel
theorem dX1_init_45 : decode cX1_init 45 = .ok (.putfield 23, 3) := by decide +kernel
theorem dX1_init_48 : decode cX1_init 48 = .ok (.aload_n 0, 1) := by decide +kernel
theorem dX1_init_49 : decode cX1_init 49 = .ok (.bipush 6, 2) := by decide +kernel
theorem dX1_init_51 : decode cX1_init 51 = .ok (.newarray .int, 2) := by decide +kernel
theorem dX1_init_53 : decode cX1_init 53 = .ok (.putfield 26, 3) := by decide +kernel
theorem dX1_init_56 : decode cX1_init 56 = .ok (.aload_n 0, 1) := by decide +kernel
theorem dX1_init_57 : decode cX1_init 57 = .ok (.iload_n 1, 1) := by decide +kernel
theorem dX1_init_58 : decode cX1_init 58 = .ok (.bipush 12, 2) := by decide +kernel
theorem dX1_init_60 : decode cX1_init 60 = .ok (.if_icmp .lt 10, 3) := by decide +kernel
theorem dX1_init_63 : decode cX1_init 63 = .ok (.iload_n 1, 1) := by decide +kernel
theorem dX1_init_64 : decode cX1_init 64 = .ok (.sipush 128, 3) := by decide +kernel
theorem dX1_init_67 : decode cX1_init 67 = .ok (.if_icmp .le 8, 3) := by decide +kernel
theorem dX1_init_70 : decode cX1_init 70 = .ok (.bipush 12, 2) := by decide +kernel
theorem dX1_init_72 : decode cX1_init 72 = .ok (.goto 4, 3) := by decide +kernel
theorem dX1_init_75 : decode cX1_init 75 = .ok (.iload_n 1, 1) := by decide +kernel
theorem dX1_init_76 : decode cX1_init 76 = .ok (.putfield 29, 3) := by decide +kernel
theorem dX1_init_79 : decode cX1_init 79 = .ok (.iconst 0, 1) := by decide +kernel
theorem dX1_init_80 : decode cX1_init 80 = .ok (.istore_n 2, 1) := by decide +kernel
theorem dX1_init_81 : decode cX1_init 81 = .ok (.iload_n 2, 1) := by decide +kernel
theorem dX1_init_82 : decode cX1_init 82 = .ok (.bipush 6, 2) := by decide +kernel
theorem dX1_init_84 : decode cX1_init 84 = .ok (.if_icmp .ge 16, 3) := by decide +kernel
theorem dX1_init_87 : decode cX1_init 87 = .ok (.aload_n 0, 1) := by decide +kernel
theorem dX1_init_88 : decode cX1_init 88 = .ok (.getfield 23, 3) := by decide +kernel
theorem dX1_init_91 : decode cX1_init 91 = .ok (.iload_n 2, 1) := by decide +kernel
theorem dX1_init_92 : decode cX1_init 92 = .ok (.iload_n 2, 1) := by decide +kernel
theorem dX1_init_93 : decode cX1_init 93 = .ok (.iastore, 1) := by decide +kernel
theorem dX1_init_94 : decode cX1_init 94 = .ok (.iinc 2 1, 3) := by decide +kernel
theorem dX1_init_97 : decode cX1_init 97 = .ok (.goto (-16), 3) := by decide +kernel
theorem dX1_init_100 : decode cX1_init 100 = .ok (.return_, 1) := by decide +kernel
theorem dX1_thrown_0 : decode cX1_thrown 0 = .ok (.aload_n 0, 1) := by decide +kernel
theorem dX1_thrown_1 : decode cX1_thrown 1 = .ok (.getfield 33, 3) := by decide +kernel
theorem dX1_thrown_4 : decode cX1_thrown 4 = .ok (.ireturn, 1) := by decide +kernel
theorem dX1_throwing_0 : decode cX1_throwing 0 = .ok (.aload_n 0, 1) := by decide +kernel
theorem dX1_throwing_1 : decode cX1_throwing 1 = .ok (.iload_n 1, 1) := by decide +kernel
theorem dX1_throwing_2 : decode cX1_throwing 2 = .ok (.ifCond .eq 7, 3) := by decide +kernel
theorem dX1_throwing_5 : decode cX1_throwing 5 = .ok (.iconst 1, 1) := by decide +kernel
theorem dX1_throwing_6 : decode cX1_throwing 6 = .ok (.goto 12, 3) := by decide +kernel
theorem dX1_throwing_9 : decode cX1_throwing 9 = .ok (.iload_n 2, 1) := by decide +kernel
theorem dX1_throwing_10 : decode cX1_throwing 10 = .ok (.ifCond .eq 7, 3) := by decide +kernel
theorem dX1_throwing_13 : decode cX1_throwing 13 = .ok (.iconst 2, 1) := by decide +kernel
theorem dX1_throwing_14 : decode cX1_throwing 14 = .ok (.goto 4, 3) := by decide +kernel
theorem dX1_throwing_17 : decode cX1_throwing 17 = .ok (.iconst 0, 1) := by decide +kernel
theorem dX1_throwing_18 : decode cX1_throwing 18 = .ok (.putfield 33, 3) := by decide +kernel
theorem dX1_throwing_21 : decode cX1_throwing 21 = .ok (.aload_n 0, 1) := by decide +kernel
theorem dX1_throwing_22 : decode cX1_throwing 22 = .ok (.getfield 33, 3) := by decide +kernel
theorem dX1_throwing_25 : decode cX1_throwing 25 = .ok (.ifCond .le 7, 3) := by decide +kernel
theorem dX1_throwing_28 : decode cX1_throwing 28 = .ok (.iconst 1, 1) := by decide +kernel
theorem dX1_throwing_29 : decode cX1_throwing 29 = .ok (.goto 4, 3) := by decide +kernel
theorem dX1_throwing_32 : decode cX1_throwing 32 = .ok (.iconst 0, 1) := by decide +kernel
theorem dX1_throwing_33 : decode cX1_throwing 33 = .ok (.ireturn, 1) := by decide +kernel
theorem dX1_isTaken_0 : decode cX1_isTaken 0 = .ok (.aload_n 0, 1) := by decide +kernel
theorem dX1_isTaken_1 : decode cX1_isTaken 1 = .ok (.getfield 16, 3) := by decide +kernel
theorem dX1_isTaken_4 : decode cX1_isTaken 4 = .ok (.iload_n 1, 1) := by decide +kernel
theorem dX1_isTaken_5 : decode cX1_isTaken 5 = .ok (.baload, 1) := by decide +kernel
theorem dX1_isTaken_6 : decode cX1_isTaken 6 = .ok (.istore_n 2, 1) := by decide +kernel
theorem dX1_isTaken_7 : decode cX1_isTaken 7 = .ok (.iconst 0, 1) := by decide +kernel
theorem dX1_isTaken_8 : decode cX1_isTaken 8 = .ok (.istore_n 3, 1) := by decide +kernel
theorem dX1_isTaken_9 : decode cX1_isTaken 9 = .ok (.iload_n 3, 1) := by decide +kernel
theorem dX1_isTaken_10 : decode cX1_isTaken 10 = .ok (.bipush 6, 2) := by decide +kernel
theorem dX1_isTaken_12 : decode cX1_isTaken 12 = .ok (.if_icmp .ge 29, 3) := by decide +kernel
theorem dX1_isTaken_15 : decode cX1_isTaken 15 = .ok (.iload_n 2, 1) := by decide +kernel
theorem dX1_isTaken_16 : decode cX1_isTaken 16 = .ok (.ifCond .ne 13, 3) := by decide +kernel
theorem dX1_isTaken_19 : decode cX1_isTaken 19 = .ok (.aload_n 0, 1) := by decide +kernel
theorem dX1_isTaken_20 : decode cX1_isTaken 20 = .ok (.getfield 23, 3) := by decide +kernel
theorem dX1_isTaken_23 : decode cX1_isTaken 23 = .ok (.iload_n 3, 1) := by decide +kernel
theorem dX1_isTaken_24 : decode cX1_isTaken 24 = .ok (.iaload, 1) := by decide +kernel
theorem dX1_isTaken_25 : decode cX1_isTaken 25 = .ok (.iload_n 1, 1) := by decide +kernel
theorem dX1_isTaken_26 : decode cX1_isTaken 26 = .ok (.if_icmp .ne 7, 3) := by decide +kernel
theorem dX1_isTaken_29 : decode cX1_isTaken 29 = .ok (.iconst 1, 1) := by decide +kernel
theorem dX1_isTaken_30 : decode cX1_isTaken 30 = .ok (.goto 4, 3) := by decide +kernel
theorem dX1_isTaken_33 : decode cX1_isTaken 33 = .ok (.iconst 0, 1) := by decide +kernel
theorem dX1_isTaken_34 : decode cX1_isTaken 34 = .ok (.istore_n 2, 1) := by decide +kernel
theorem dX1_isTaken_35 : decode cX1_isTaken 35 = .ok (.iinc 3 1, 3) := by decide +kernel
theorem dX1_isTaken_38 : decode cX1_isTaken 38 = .ok (.goto (-29), 3) := by decide +kernel
theorem dX1_isTaken_41 : decode cX1_isTaken 41 = .ok (.iload_n 2, 1) := by decide +kernel
theorem dX1_isTaken_42 : decode cX1_isTaken 42 = .ok (.ireturn, 1) := by decide +kernel
theorem dX1_inUse_0 : decode cX1_inUse 0 = .ok (.iconst 0, 1) := by decide +kernel
theorem dX1_inUse_1 : decode cX1_inUse 1 = .ok (.istore_n 2, 1) := by decide +kernel
theorem dX1_inUse_2 : decode cX1_inUse 2 = .ok (.iconst 0, 1) := by decide +kernel
theorem dX1_inUse_3 : decode cX1_inUse 3 = .ok (.istore_n 3, 1) := by decide +kernel
theorem dX1_inUse_4 : decode cX1_inUse 4 = .ok (.iload_n 3, 1) := by decide +kernel
theorem dX1_inUse_5 : decode cX1_inUse 5 = .ok (.bipush 16, 2) := by decide +kernel
theorem dX1_inUse_7 : decode cX1_inUse 7 = .ok (.if_icmp .ge 31, 3) := by decide +kernel
theorem dX1_inUse_10 : decode cX1_inUse 10 = .ok (.iload_n 2, 1) := by decide +kernel
theorem dX1_inUse_11 : decode cX1_inUse 11 = .ok (.aload_n 0, 1) := by decide +kernel
theorem dX1_inUse_12 : decode cX1_inUse 12 = .ok (.getfield 7, 3) := by decide +kernel
theorem dX1_inUse_15 : decode cX1_inUse 15 = .ok (.bipush 16, 2) := by decide +kernel
theorem dX1_inUse_17 : decode cX1_inUse 17 = .ok (.iload_n 1, 1) := by decide +kernel
theorem dX1_inUse_18 : decode cX1_inUse 18 = .ok (.imul, 1) := by decide +kernel
theorem dX1_inUse_19 : decode cX1_inUse 19 = .ok (.iload_n 3, 1) := by decide +kernel
theorem dX1_inUse_20 : decode cX1_inUse 20 = .ok (.iadd, 1) := by decide +kernel
theorem dX1_inUse_21 : decode cX1_inUse 21 = .ok (.baload, 1) := by decide +kernel
theorem dX1_inUse_22 : decode cX1_inUse 22 = .ok (.ifCond .eq 7, 3) := by decide +kernel
theorem dX1_inUse_25 : decode cX1_inUse 25 = .ok (.iconst 1, 1) := by decide +kernel
theorem dX1_inUse_26 : decode cX1_inUse 26 = .ok (.goto 4, 3) := by decide +kernel
theorem dX1_inUse_29 : decode cX1_inUse 29 = .ok (.iconst 0, 1) := by decide +kernel
theorem dX1_inUse_30 : decode cX1_inUse 30 = .ok (.iadd, 1) := by decide +kernel
theorem dX1_inUse_31 : decode cX1_inUse 31 = .ok (.istore_n 2, 1) := by decide +kernel
theorem dX1_inUse_32 : decode cX1_inUse 32 = .ok (.iinc 3 1, 3) := by decide +kernel
theorem dX1_inUse_35 : decode cX1_inUse 35 = .ok (.goto (-31), 3) := by decide +kernel
theorem dX1_inUse_38 : decode cX1_inUse 38 = .ok (.iload_n 2, 1) := by decide +kernel
theorem dX1_inUse_39 : decode cX1_inUse 39 = .ok (.ireturn, 1) := by decide +kernel
theorem dX1_isFree_0 : decode cX1_isFree 0 = .ok (.aload_n 0, 1) := by decide +kernel
theorem dX1_isFree_1 : decode cX1_isFree 1 = .ok (.iload_n 1, 1) := by decide +kernel
theorem dX1_isFree_2 : decode cX1_isFree 2 = .ok (.invokevirtual 36, 3) := by decide +kernel
theorem dX1_isFree_5 : decode cX1_isFree 5 = .ok (.ifCond .ne 7, 3) := by decide +kernel
theorem dX1_isFree_8 : decode cX1_isFree 8 = .ok (.iconst 1, 1) := by decide +kernel
theorem dX1_isFree_9 : decode cX1_isFree 9 = .ok (.goto 4, 3) := by decide +kernel
theorem dX1_isFree_12 : decode cX1_isFree 12 = .ok (.iconst 0, 1) := by decide +kernel
theorem dX1_isFree_13 : decode cX1_isFree 13 = .ok (.istore_n 2, 1) := by decide +kernel
theorem dX1_isFree_14 : decode cX1_isFree 14 = .ok (.iconst 0, 1) := by decide +kernel
theorem dX1_isFree_15 : decode cX1_isFree 15 = .ok (.istore_n 3, 1) := by decide +kernel
theorem dX1_isFree_16 : decode cX1_isFree 16 = .ok (.iload_n 3, 1) := by decide +kernel
theorem dX1_isFree_17 : decode cX1_isFree 17 = .ok (.bipush 16, 2) := by decide +kernel
theorem dX1_isFree_19 : decode cX1_isFree 19 = .ok (.if_icmp .ge 47, 3) := by decide +kernel
theorem dX1_isFree_22 : decode cX1_isFree 22 = .ok (.iload_n 2, 1) := by decide +kernel
theorem dX1_isFree_23 : decode cX1_isFree 23 = .ok (.ifCond .eq 35, 3) := by decide +kernel
theorem dX1_isFree_26 : decode cX1_isFree 26 = .ok (.aload_n 0, 1) := by decide +kernel
theorem dX1_isFree_27 : decode cX1_isFree 27 = .ok (.getfield 7, 3) := by decide +kernel
theorem dX1_isFree_30 : decode cX1_isFree 30 = .ok (.bipush 16, 2) := by decide +kernel
theorem dX1_isFree_32 : decode cX1_isFree 32 = .ok (.iload_n 1, 1) := by decide +kernel
theorem dX1_isFree_33 : decode cX1_isFree 33 = .ok (.imul, 1) := by decide +kernel
theorem dX1_isFree_34 : decode cX1_isFree 34 = .ok (.iload_n 3, 1) := by decide +kernel
theorem dX1_isFree_35 : decode cX1_isFree 35 = .ok (.iadd, 1) := by decide +kernel
theorem dX1_isFree_36 : decode cX1_isFree 36 = .ok (.baload, 1) := by decide +kernel
theorem dX1_isFree_37 : decode cX1_isFree 37 = .ok (.ifCond .ne 21, 3) := by decide +kernel
theorem dX1_isFree_40 : decode cX1_isFree 40 = .ok (.aload_n 0, 1) := by decide +kernel
theorem dX1_isFree_41 : decode cX1_isFree 41 = .ok (.getfield 13, 3) := by decide +kernel
theorem dX1_isFree_44 : decode cX1_isFree 44 = .ok (.bipush 16, 2) := by decide +kernel
theorem dX1_isFree_46 : decode cX1_isFree 46 = .ok (.iload_n 1, 1) := by decide +kernel
theorem dX1_isFree_47 : decode cX1_isFree 47 = .ok (.imul, 1) := by decide +kernel
theorem dX1_isFree_48 : decode cX1_isFree 48 = .ok (.iload_n 3, 1) := by decide +kernel
theorem dX1_isFree_49 : decode cX1_isFree 49 = .ok (.iadd, 1) := by decide +kernel
theorem dX1_isFree_50 : decode cX1_isFree 50 = .ok (.baload, 1) := by decide +kernel
theorem dX1_isFree_51 : decode cX1_isFree 51 = .ok (.ifCond .ne 7, 3) := by decide +kernel
theorem dX1_isFree_54 : decode cX1_isFree 54 = .ok (.iconst 1, 1) := by decide +kernel
theorem dX1_isFree_55 : decode cX1_isFree 55 = .ok (.goto 4, 3) := by decide +kernel
theorem dX1_isFree_58 : decode cX1_isFree 58 = .ok (.iconst 0, 1) := by decide +kernel
theorem dX1_isFree_59 : decode cX1_isFree 59 = .ok (.istore_n 2, 1) := by decide +kernel
theorem dX1_isFree_60 : decode cX1_isFree 60 = .ok (.iinc 3 1, 3) := by decide +kernel
theorem dX1_isFree_63 : decode cX1_isFree 63 = .ok (.goto (-47), 3) := by decide +kernel
theorem dX1_isFree_66 : decode cX1_isFree 66 = .ok (.iload_n 2, 1) := by decide +kernel
theorem dX1_isFree_67 : decode cX1_isFree 67 = .ok (.ireturn, 1) := by decide +kernel
theorem dX1_lowest_0 : decode cX1_lowest 0 = .ok (.iconst 0, 1) := by decide +kernel
theorem dX1_lowest_1 : decode cX1_lowest 1 = .ok (.istore_n 1, 1) := by decide +kernel
theorem dX1_lowest_2 : decode cX1_lowest 2 = .ok (.iload_n 1, 1) := by decide +kernel
theorem dX1_lowest_3 : decode cX1_lowest 3 = .ok (.aload_n 0, 1) := by decide +kernel
theorem dX1_lowest_4 : decode cX1_lowest 4 = .ok (.getfield 29, 3) := by decide +kernel
theorem dX1_lowest_7 : decode cX1_lowest 7 = .ok (.if_icmp .ge 17, 3) := by decide +kernel
theorem dX1_lowest_10 : decode cX1_lowest 10 = .ok (.aload_n 0, 1) := by decide +kernel
theorem dX1_lowest_11 : decode cX1_lowest 11 = .ok (.iload_n 1, 1) := by decide +kernel
theorem dX1_lowest_12 : decode cX1_lowest 12 = .ok (.invokevirtual 40, 3) := by decide +kernel
theorem dX1_lowest_15 : decode cX1_lowest 15 = .ok (.ifCond .ne 9, 3) := by decide +kernel
theorem dX1_lowest_18 : decode cX1_lowest 18 = .ok (.iinc 1 1, 3) := by decide +kernel
theorem dX1_lowest_21 : decode cX1_lowest 21 = .ok (.goto (-19), 3) := by decide +kernel
theorem dX1_lowest_24 : decode cX1_lowest 24 = .ok (.iload_n 1, 1) := by decide +kernel
theorem dX1_lowest_25 : decode cX1_lowest 25 = .ok (.aload_n 0, 1) := by decide +kernel
theorem dX1_lowest_26 : decode cX1_lowest 26 = .ok (.getfield 29, 3) := by decide +kernel
theorem dX1_lowest_29 : decode cX1_lowest 29 = .ok (.if_icmp .ge 7, 3) := by decide +kernel
theorem dX1_lowest_32 : decode cX1_lowest 32 = .ok (.iload_n 1, 1) := by decide +kernel
theorem dX1_lowest_33 : decode cX1_lowest 33 = .ok (.goto 4, 3) := by decide +kernel
theorem dX1_lowest_36 : decode cX1_lowest 36 = .ok (.iconst (-1), 1) := by decide +kernel
theorem dX1_lowest_37 : decode cX1_lowest 37 = .ok (.ireturn, 1) := by decide +kernel
theorem dX1_take_0 : decode cX1_take 0 = .ok (.iload_n 1, 1) := by decide +kernel
theorem dX1_take_1 : decode cX1_take 1 = .ok (.ifCond .lt 8, 3) := by decide +kernel
theorem dX1_take_4 : decode cX1_take 4 = .ok (.iload_n 1, 1) := by decide +kernel
theorem dX1_take_5 : decode cX1_take 5 = .ok (.iconst 5, 1) := by decide +kernel
theorem dX1_take_6 : decode cX1_take 6 = .ok (.if_icmp .le 7, 3) := by decide +kernel
theorem dX1_take_9 : decode cX1_take 9 = .ok (.iconst 1, 1) := by decide +kernel
theorem dX1_take_10 : decode cX1_take 10 = .ok (.goto 4, 3) := by decide +kernel
theorem dX1_take_13 : decode cX1_take 13 = .ok (.iconst 0, 1) := by decide +kernel
theorem dX1_take_14 : decode cX1_take 14 = .ok (.istore_n 2, 1) := by decide +kernel
theorem dX1_take_15 : decode cX1_take 15 = .ok (.iload_n 2, 1) := by decide +kernel
theorem dX1_take_16 : decode cX1_take 16 = .ok (.ifCond .ne 18, 3) := by decide +kernel
theorem dX1_take_19 : decode cX1_take 19 = .ok (.aload_n 0, 1) := by decide +kernel
theorem dX1_take_20 : decode cX1_take 20 = .ok (.getfield 26, 3) := by decide +kernel
theorem dX1_take_23 : decode cX1_take 23 = .ok (.iload_n 1, 1) := by decide +kernel
theorem dX1_take_24 : decode cX1_take 24 = .ok (.iaload, 1) := by decide +kernel
theorem dX1_take_25 : decode cX1_take 25 = .ok (.bipush 15, 2) := by decide +kernel
theorem dX1_take_27 : decode cX1_take 27 = .ok (.if_icmp .ne 7, 3) := by decide +kernel
theorem dX1_take_30 : decode cX1_take 30 = .ok (.iconst 1, 1) := by decide +kernel
theorem dX1_take_31 : decode cX1_take 31 = .ok (.goto 4, 3) := by decide +kernel
theorem dX1_take_34 : decode cX1_take 34 = .ok (.iconst 0, 1) := by decide +kernel
theorem dX1_take_35 : decode cX1_take 35 = .ok (.istore_n 3, 1) := by decide +kernel
theorem dX1_take_36 : decode cX1_take 36 = .ok (.iload_n 3, 1) := by decide +kernel
theorem dX1_take_37 : decode cX1_take 37 = .ok (.ifCond .eq 10, 3) := by decide +kernel
theorem dX1_take_40 : decode cX1_take 40 = .ok (.aload_n 0, 1) := by decide +kernel
theorem dX1_take_41 : decode cX1_take 41 = .ok (.invokevirtual 43, 3) := by decide +kernel
theorem dX1_take_44 : decode cX1_take 44 = .ok (.goto 4, 3) := by decide +kernel
theorem dX1_take_47 : decode cX1_take 47 = .ok (.iconst (-1), 1) := by decide +kernel
theorem dX1_take_48 : decode cX1_take 48 = .ok (.istore 4, 2) := by decide +kernel
theorem dX1_take_50 : decode cX1_take 50 = .ok (.aload_n 0, 1) := by decide +kernel
theorem dX1_take_51 : decode cX1_take 51 = .ok (.iload_n 2, 1) := by decide +kernel
theorem dX1_take_52 : decode cX1_take 52 = .ok (.iload_n 3, 1) := by decide +kernel
theorem dX1_take_53 : decode cX1_take 53 = .ok (.ifCond .eq 12, 3) := by decide +kernel
theorem dX1_take_56 : decode cX1_take 56 = .ok (.iload 4, 2) := by decide +kernel
theorem dX1_take_58 : decode cX1_take 58 = .ok (.ifCond .ge 7, 3) := by decide +kernel
theorem dX1_take_61 : decode cX1_take 61 = .ok (.iconst 1, 1) := by decide +kernel
theorem dX1_take_62 : decode cX1_take 62 = .ok (.goto 4, 3) := by decide +kernel
theorem dX1_take_65 : decode cX1_take 65 = .ok (.iconst 0, 1) := by decide +kernel
theorem dX1_take_66 : decode cX1_take 66 = .ok (.invokevirtual 47, 3) := by decide +kernel
theorem dX1_take_69 : decode cX1_take 69 = .ok (.ifCond .eq 5, 3) := by decide +kernel
theorem dX1_take_72 : decode cX1_take 72 = .ok (.iconst 0, 1) := by decide +kernel
theorem dX1_take_73 : decode cX1_take 73 = .ok (.ireturn, 1) := by decide +kernel
theorem dX1_take_74 : decode cX1_take 74 = .ok (.aload_n 0, 1) := by decide +kernel
theorem dX1_take_75 : decode cX1_take 75 = .ok (.getfield 23, 3) := by decide +kernel
theorem dX1_take_78 : decode cX1_take 78 = .ok (.iload_n 1, 1) := by decide +kernel
theorem dX1_take_79 : decode cX1_take 79 = .ok (.iaload, 1) := by decide +kernel
theorem dX1_take_80 : decode cX1_take 80 = .ok (.istore 5, 2) := by decide +kernel
theorem dX1_take_82 : decode cX1_take 82 = .ok (.bipush 16, 2) := by decide +kernel
theorem dX1_take_84 : decode cX1_take 84 = .ok (.iload 5, 2) := by decide +kernel
theorem dX1_take_86 : decode cX1_take 86 = .ok (.imul, 1) := by decide +kernel
theorem dX1_take_87 : decode cX1_take 87 = .ok (.aload_n 0, 1) := by decide +kernel
theorem dX1_take_88 : decode cX1_take 88 = .ok (.getfield 26, 3) := by decide +kernel
theorem dX1_take_91 : decode cX1_take 91 = .ok (.iload_n 1, 1) := by decide +kernel
theorem dX1_take_92 : decode cX1_take 92 = .ok (.iaload, 1) := by decide +kernel
theorem dX1_take_93 : decode cX1_take 93 = .ok (.iadd, 1) := by decide +kernel
theorem dX1_take_94 : decode cX1_take 94 = .ok (.istore 6, 2) := by decide +kernel
theorem dX1_take_96 : decode cX1_take 96 = .ok (.aload_n 0, 1) := by decide +kernel
theorem dX1_take_97 : decode cX1_take 97 = .ok (.getfield 7, 3) := by decide +kernel
theorem dX1_take_100 : decode cX1_take 100 = .ok (.iload 6, 2) := by decide +kernel
theorem dX1_take_102 : decode cX1_take 102 = .ok (.iconst 1, 1) := by decide +kernel
theorem dX1_take_103 : decode cX1_take 103 = .ok (.bastore, 1) := by decide +kernel
theorem dX1_take_104 : decode cX1_take 104 = .ok (.aload_n 0, 1) := by decide +kernel
theorem dX1_take_105 : decode cX1_take 105 = .ok (.getfield 16, 3) := by decide +kernel
theorem dX1_take_108 : decode cX1_take 108 = .ok (.iload 5, 2) := by decide +kernel
theorem dX1_take_110 : decode cX1_take 110 = .ok (.iconst 1, 1) := by decide +kernel
theorem dX1_take_111 : decode cX1_take 111 = .ok (.bastore, 1) := by decide +kernel
theorem dX1_take_112 : decode cX1_take 112 = .ok (.aload_n 0, 1) := by decide +kernel
theorem dX1_take_113 : decode cX1_take 113 = .ok (.dup, 1) := by decide +kernel
theorem dX1_take_114 : decode cX1_take 114 = .ok (.getfield 51, 3) := by decide +kernel
theorem dX1_take_117 : decode cX1_take 117 = .ok (.iconst 1, 1) := by decide +kernel
theorem dX1_take_118 : decode cX1_take 118 = .ok (.iadd, 1) := by decide +kernel
theorem dX1_take_119 : decode cX1_take 119 = .ok (.putfield 51, 3) := by decide +kernel
theorem dX1_take_122 : decode cX1_take 122 = .ok (.aload_n 0, 1) := by decide +kernel
theorem dX1_take_123 : decode cX1_take 123 = .ok (.getfield 19, 3) := by decide +kernel
theorem dX1_take_126 : decode cX1_take 126 = .ok (.iload 5, 2) := by decide +kernel
theorem dX1_take_128 : decode cX1_take 128 = .ok (.aload_n 0, 1) := by decide +kernel
theorem dX1_take_129 : decode cX1_take 129 = .ok (.getfield 51, 3) := by decide +kernel
theorem dX1_take_132 : decode cX1_take 132 = .ok (.iastore, 1) := by decide +kernel
theorem dX1_take_133 : decode cX1_take 133 = .ok (.aload_n 0, 1) := by decide +kernel
theorem dX1_take_134 : decode cX1_take 134 = .ok (.getfield 26, 3) := by decide +kernel
theorem dX1_take_137 : decode cX1_take 137 = .ok (.iload_n 1, 1) := by decide +kernel
theorem dX1_take_138 : decode cX1_take 138 = .ok (.dup2, 1) := by decide +kernel
theorem dX1_take_139 : decode cX1_take 139 = .ok (.iaload, 1) := by decide +kernel
theorem dX1_take_140 : decode cX1_take 140 = .ok (.iconst 1, 1) := by decide +kernel
theorem dX1_take_141 : decode cX1_take 141 = .ok (.iadd, 1) := by decide +kernel
theorem dX1_take_142 : decode cX1_take 142 = .ok (.iastore, 1) := by decide +kernel
theorem dX1_take_143 : decode cX1_take 143 = .ok (.iload_n 3, 1) := by decide +kernel
theorem dX1_take_144 : decode cX1_take 144 = .ok (.ifCond .eq 26, 3) := by decide +kernel
theorem dX1_take_147 : decode cX1_take 147 = .ok (.aload_n 0, 1) := by decide +kernel
theorem dX1_take_148 : decode cX1_take 148 = .ok (.getfield 23, 3) := by decide +kernel
theorem dX1_take_151 : decode cX1_take 151 = .ok (.iload_n 1, 1) := by decide +kernel
theorem dX1_take_152 : decode cX1_take 152 = .ok (.iload 4, 2) := by decide +kernel
theorem dX1_take_154 : decode cX1_take 154 = .ok (.iastore, 1) := by decide +kernel
theorem dX1_take_155 : decode cX1_take 155 = .ok (.aload_n 0, 1) := by decide +kernel
theorem dX1_take_156 : decode cX1_take 156 = .ok (.getfield 16, 3) := by decide +kernel
theorem dX1_take_159 : decode cX1_take 159 = .ok (.iload 4, 2) := by decide +kernel
theorem dX1_take_161 : decode cX1_take 161 = .ok (.iconst 1, 1) := by decide +kernel
theorem dX1_take_162 : decode cX1_take 162 = .ok (.bastore, 1) := by decide +kernel
theorem dX1_take_163 : decode cX1_take 163 = .ok (.aload_n 0, 1) := by decide +kernel
theorem dX1_take_164 : decode cX1_take 164 = .ok (.getfield 26, 3) := by decide +kernel
theorem dX1_take_167 : decode cX1_take 167 = .ok (.iload_n 1, 1) := by decide +kernel
theorem dX1_take_168 : decode cX1_take 168 = .ok (.iconst 0, 1) := by decide +kernel
theorem dX1_take_169 : decode cX1_take 169 = .ok (.iastore, 1) := by decide +kernel
theorem dX1_take_170 : decode cX1_take 170 = .ok (.bipush 96, 2) := by decide +kernel
theorem dX1_take_172 : decode cX1_take 172 = .ok (.iload 6, 2) := by decide +kernel
theorem dX1_take_174 : decode cX1_take 174 = .ok (.iadd, 1) := by decide +kernel
theorem dX1_take_175 : decode cX1_take 175 = .ok (.ireturn, 1) := by decide +kernel
theorem dX1_next_0 : decode cX1_next 0 = .ok (.iload_n 1, 1) := by decide +kernel
theorem dX1_next_1 : decode cX1_next 1 = .ok (.ifCond .lt 8, 3) := by decide +kernel
theorem dX1_next_4 : decode cX1_next 4 = .ok (.iload_n 1, 1) := by decide +kernel
theorem dX1_next_5 : decode cX1_next 5 = .ok (.iconst 5, 1) := by decide +kernel
theorem dX1_next_6 : decode cX1_next 6 = .ok (.if_icmp .le 7, 3) := by decide +kernel
theorem dX1_next_9 : decode cX1_next 9 = .ok (.iconst 1, 1) := by decide +kernel
theorem dX1_next_10 : decode cX1_next 10 = .ok (.goto 4, 3) := by decide +kernel
theorem dX1_next_13 : decode cX1_next 13 = .ok (.iconst 0, 1) := by decide +kernel
theorem dX1_next_14 : decode cX1_next 14 = .ok (.istore_n 2, 1) := by decide +kernel
theorem dX1_next_15 : decode cX1_next 15 = .ok (.aload_n 0, 1) := by decide +kernel
theorem dX1_next_16 : decode cX1_next 16 = .ok (.iload_n 2, 1) := by decide +kernel
theorem dX1_next_17 : decode cX1_next 17 = .ok (.iconst 0, 1) := by decide +kernel
theorem dX1_next_18 : decode cX1_next 18 = .ok (.invokevirtual 47, 3) := by decide +kernel
theorem dX1_next_21 : decode cX1_next 21 = .ok (.ifCond .eq 5, 3) := by decide +kernel
theorem dX1_next_24 : decode cX1_next 24 = .ok (.iconst 0, 1) := by decide +kernel
theorem dX1_next_25 : decode cX1_next 25 = .ok (.ireturn, 1) := by decide +kernel
theorem dX1_next_26 : decode cX1_next 26 = .ok (.bipush 96, 2) := by decide +kernel
theorem dX1_next_28 : decode cX1_next 28 = .ok (.bipush 16, 2) := by decide +kernel
theorem dX1_next_30 : decode cX1_next 30 = .ok (.aload_n 0, 1) := by decide +kernel
theorem dX1_next_31 : decode cX1_next 31 = .ok (.getfield 23, 3) := by decide +kernel
theorem dX1_next_34 : decode cX1_next 34 = .ok (.iload_n 1, 1) := by decide +kernel
theorem dX1_next_35 : decode cX1_next 35 = .ok (.iaload, 1) := by decide +kernel
theorem dX1_next_36 : decode cX1_next 36 = .ok (.imul, 1) := by decide +kernel
theorem dX1_next_37 : decode cX1_next 37 = .ok (.iadd, 1) := by decide +kernel
theorem dX1_next_38 : decode cX1_next 38 = .ok (.aload_n 0, 1) := by decide +kernel
theorem dX1_next_39 : decode cX1_next 39 = .ok (.getfield 26, 3) := by decide +kernel
theorem dX1_next_42 : decode cX1_next 42 = .ok (.iload_n 1, 1) := by decide +kernel
theorem dX1_next_43 : decode cX1_next 43 = .ok (.iaload, 1) := by decide +kernel
theorem dX1_next_44 : decode cX1_next 44 = .ok (.iadd, 1) := by decide +kernel
theorem dX1_next_45 : decode cX1_next 45 = .ok (.ireturn, 1) := by decide +kernel
theorem dX1_isNo_0 : decode cX1_isNo 0 = .ok (.iload_n 1, 1) := by decide +kernel
theorem dX1_isNo_1 : decode cX1_isNo 1 = .ok (.bipush 96, 2) := by decide +kernel
theorem dX1_isNo_3 : decode cX1_isNo 3 = .ok (.if_icmp .lt 17, 3) := by decide +kernel
theorem dX1_isNo_6 : decode cX1_isNo 6 = .ok (.iload_n 1, 1) := by decide +kernel
theorem dX1_isNo_7 : decode cX1_isNo 7 = .ok (.bipush 96, 2) := by decide +kernel
theorem dX1_isNo_9 : decode cX1_isNo 9 = .ok (.bipush 16, 2) := by decide +kernel
theorem dX1_isNo_11 : decode cX1_isNo 11 = .ok (.aload_n 0, 1) := by decide +kernel
theorem dX1_isNo_12 : decode cX1_isNo 12 = .ok (.getfield 29, 3) := by decide +kernel
theorem dX1_isNo_15 : decode cX1_isNo 15 = .ok (.imul, 1) := by decide +kernel
theorem dX1_isNo_16 : decode cX1_isNo 16 = .ok (.iadd, 1) := by decide +kernel
theorem dX1_isNo_17 : decode cX1_isNo 17 = .ok (.if_icmp .lt 7, 3) := by decide +kernel
theorem dX1_isNo_20 : decode cX1_isNo 20 = .ok (.iconst 1, 1) := by decide +kernel
theorem dX1_isNo_21 : decode cX1_isNo 21 = .ok (.goto 4, 3) := by decide +kernel
theorem dX1_isNo_24 : decode cX1_isNo 24 = .ok (.iconst 0, 1) := by decide +kernel
theorem dX1_isNo_25 : decode cX1_isNo 25 = .ok (.ireturn, 1) := by decide +kernel
theorem dX1_drop_0 : decode cX1_drop 0 = .ok (.aload_n 0, 1) := by decide +kernel
theorem dX1_drop_1 : decode cX1_drop 1 = .ok (.iload_n 1, 1) := by decide +kernel
theorem dX1_drop_2 : decode cX1_drop 2 = .ok (.invokevirtual 54, 3) := by decide +kernel
theorem dX1_drop_5 : decode cX1_drop 5 = .ok (.istore_n 2, 1) := by decide +kernel
theorem dX1_drop_6 : decode cX1_drop 6 = .ok (.aload_n 0, 1) := by decide +kernel
theorem dX1_drop_7 : decode cX1_drop 7 = .ok (.iload_n 2, 1) := by decide +kernel
theorem dX1_drop_8 : decode cX1_drop 8 = .ok (.iload_n 2, 1) := by decide +kernel
theorem dX1_drop_9 : decode cX1_drop 9 = .ok (.ifCond .ne 27, 3) := by decide +kernel
theorem dX1_drop_12 : decode cX1_drop 12 = .ok (.aload_n 0, 1) := by decide +kernel
theorem dX1_drop_13 : decode cX1_drop 13 = .ok (.getfield 7, 3) := by decide +kernel
theorem dX1_drop_16 : decode cX1_drop 16 = .ok (.iload_n 2, 1) := by decide +kernel
theorem dX1_drop_17 : decode cX1_drop 17 = .ok (.ifCond .eq 7, 3) := by decide +kernel
theorem dX1_drop_20 : decode cX1_drop 20 = .ok (.iconst 0, 1) := by decide +kernel
theorem dX1_drop_21 : decode cX1_drop 21 = .ok (.goto 7, 3) := by decide +kernel
theorem dX1_drop_24 : decode cX1_drop 24 = .ok (.iload_n 1, 1) := by decide +kernel
theorem dX1_drop_25 : decode cX1_drop 25 = .ok (.bipush 96, 2) := by decide +kernel
theorem dX1_drop_27 : decode cX1_drop 27 = .ok (.isub, 1) := by decide +kernel
theorem dX1_drop_28 : decode cX1_drop 28 = .ok (.baload, 1) := by decide +kernel
theorem dX1_drop_29 : decode cX1_drop 29 = .ok (.ifCond .ne 7, 3) := by decide +kernel
theorem dX1_drop_32 : decode cX1_drop 32 = .ok (.iconst 1, 1) := by decide +kernel
theorem dX1_drop_33 : decode cX1_drop 33 = .ok (.goto 4, 3) := by decide +kernel
theorem dX1_drop_36 : decode cX1_drop 36 = .ok (.iconst 0, 1) := by decide +kernel
theorem dX1_drop_37 : decode cX1_drop 37 = .ok (.invokevirtual 47, 3) := by decide +kernel
theorem dX1_drop_40 : decode cX1_drop 40 = .ok (.ifCond .eq 4, 3) := by decide +kernel
theorem dX1_drop_43 : decode cX1_drop 43 = .ok (.return_, 1) := by decide +kernel
theorem dX1_drop_44 : decode cX1_drop 44 = .ok (.aload_n 0, 1) := by decide +kernel
theorem dX1_drop_45 : decode cX1_drop 45 = .ok (.getfield 7, 3) := by decide +kernel
theorem dX1_drop_48 : decode cX1_drop 48 = .ok (.iload_n 1, 1) := by decide +kernel
theorem dX1_drop_49 : decode cX1_drop 49 = .ok (.bipush 96, 2) := by decide +kernel
theorem dX1_drop_51 : decode cX1_drop 51 = .ok (.isub, 1) := by decide +kernel
theorem dX1_drop_52 : decode cX1_drop 52 = .ok (.iconst 0, 1) := by decide +kernel
theorem dX1_drop_53 : decode cX1_drop 53 = .ok (.bastore, 1) := by decide +kernel
theorem dX1_drop_54 : decode cX1_drop 54 = .ok (.return_, 1) := by decide +kernel
theorem dX1_isUsed_0 : decode cX1_isUsed 0 = .ok (.aload_n 0, 1) := by decide +kernel
theorem dX1_isUsed_1 : decode cX1_isUsed 1 = .ok (.aload_n 0, 1) := by decide +kernel
theorem dX1_isUsed_2 : decode cX1_isUsed 2 = .ok (.iload_n 1, 1) := by decide +kernel
theorem dX1_isUsed_3 : decode cX1_isUsed 3 = .ok (.invokevirtual 54, 3) := by decide +kernel
theorem dX1_isUsed_6 : decode cX1_isUsed 6 = .ok (.iconst 0, 1) := by decide +kernel
theorem dX1_isUsed_7 : decode cX1_isUsed 7 = .ok (.invokevirtual 47, 3) := by decide +kernel
theorem dX1_isUsed_10 : decode cX1_isUsed 10 = .ok (.ifCond .eq 5, 3) := by decide +kernel
theorem dX1_isUsed_13 : decode cX1_isUsed 13 = .ok (.iconst 0, 1) := by decide +kernel
theorem dX1_isUsed_14 : decode cX1_isUsed 14 = .ok (.ireturn, 1) := by decide +kernel
theorem dX1_isUsed_15 : decode cX1_isUsed 15 = .ok (.aload_n 0, 1) := by decide +kernel
theorem dX1_isUsed_16 : decode cX1_isUsed 16 = .ok (.getfield 7, 3) := by decide +kernel
theorem dX1_isUsed_19 : decode cX1_isUsed 19 = .ok (.iload_n 1, 1) := by decide +kernel
theorem dX1_isUsed_20 : decode cX1_isUsed 20 = .ok (.bipush 96, 2) := by decide +kernel
theorem dX1_isUsed_22 : decode cX1_isUsed 22 = .ok (.isub, 1) := by decide +kernel
theorem dX1_isUsed_23 : decode cX1_isUsed 23 = .ok (.baload, 1) := by decide +kernel
theorem dX1_isUsed_24 : decode cX1_isUsed 24 = .ok (.ireturn, 1) := by decide +kernel
theorem dX1_checkpoint_0 : decode cX1_checkpoint 0 = .ok (.iconst 0, 1) := by decide +kernel
theorem dX1_checkpoint_1 : decode cX1_checkpoint 1 = .ok (.istore_n 1, 1) := by decide +kernel
theorem dX1_checkpoint_2 : decode cX1_checkpoint 2 = .ok (.iload_n 1, 1) := by decide +kernel
theorem dX1_checkpoint_3 : decode cX1_checkpoint 3 = .ok (.sipush 2048, 3) := by decide +kernel
theorem dX1_checkpoint_6 : decode cX1_checkpoint 6 = .ok (.if_icmp .ge 21, 3) := by decide +kernel
theorem dX1_checkpoint_9 : decode cX1_checkpoint 9 = .ok (.aload_n 0, 1) := by decide +kernel
theorem dX1_checkpoint_10 : decode cX1_checkpoint 10 = .ok (.getfield 13, 3) := by decide +kernel
theorem dX1_checkpoint_13 : decode cX1_checkpoint 13 = .ok (.iload_n 1, 1) := by decide +kernel
theorem dX1_checkpoint_14 : decode cX1_checkpoint 14 = .ok (.aload_n 0, 1) := by decide +kernel
theorem dX1_checkpoint_15 : decode cX1_checkpoint 15 = .ok (.getfield 7, 3) := by decide +kernel
theorem dX1_checkpoint_18 : decode cX1_checkpoint 18 = .ok (.iload_n 1, 1) := by decide +kernel
theorem dX1_checkpoint_19 : decode cX1_checkpoint 19 = .ok (.baload, 1) := by decide +kernel
theorem dX1_checkpoint_20 : decode cX1_checkpoint 20 = .ok (.bastore, 1) := by decide +kernel
theorem dX1_checkpoint_21 : decode cX1_checkpoint 21 = .ok (.iinc 1 1, 3) := by decide +kernel
theorem dX1_checkpoint_24 : decode cX1_checkpoint 24 = .ok (.goto (-22), 3) := by decide +kernel
theorem dX1_checkpoint_27 : decode cX1_checkpoint 27 = .ok (.iconst 0, 1) := by decide +kernel
theorem dX1_checkpoint_28 : decode cX1_checkpoint 28 = .ok (.istore_n 1, 1) := by decide +kernel
theorem dX1_checkpoint_29 : decode cX1_checkpoint 29 = .ok (.iload_n 1, 1) := by decide +kernel
theorem dX1_checkpoint_30 : decode cX1_checkpoint 30 = .ok (.sipush 128, 3) := by decide +kernel
theorem dX1_checkpoint_33 : decode cX1_checkpoint 33 = .ok (.if_icmp .ge 16, 3) := by decide +kernel
theorem dX1_checkpoint_36 : decode cX1_checkpoint 36 = .ok (.aload_n 0, 1) := by decide +kernel
theorem dX1_checkpoint_37 : decode cX1_checkpoint 37 = .ok (.getfield 16, 3) := by decide +kernel
theorem dX1_checkpoint_40 : decode cX1_checkpoint 40 = .ok (.iload_n 1, 1) := by decide +kernel
theorem dX1_checkpoint_41 : decode cX1_checkpoint 41 = .ok (.iconst 0, 1) := by decide +kernel
theorem dX1_checkpoint_42 : decode cX1_checkpoint 42 = .ok (.bastore, 1) := by decide +kernel
theorem dX1_checkpoint_43 : decode cX1_checkpoint 43 = .ok (.iinc 1 1, 3) := by decide +kernel
theorem dX1_checkpoint_46 : decode cX1_checkpoint 46 = .ok (.goto (-17), 3) := by decide +kernel
theorem dX1_checkpoint_49 : decode cX1_checkpoint 49 = .ok (.aload_n 0, 1) := by decide +kernel
theorem dX1_checkpoint_50 : decode cX1_checkpoint 50 = .ok (.invokevirtual 57, 3) := by decide +kernel
theorem dX1_checkpoint_53 : decode cX1_checkpoint 53 = .ok (.ireturn, 1) := by decide +kernel
theorem dX1_free_0 : decode cX1_free 0 = .ok (.aload_n 0, 1) := by decide +kernel
theorem dX1_free_1 : decode cX1_free 1 = .ok (.iconst 0, 1) := by decide +kernel
theorem dX1_free_2 : decode cX1_free 2 = .ok (.putfield 33, 3) := by decide +kernel
theorem dX1_free_5 : decode cX1_free 5 = .ok (.iconst 0, 1) := by decide +kernel
theorem dX1_free_6 : decode cX1_free 6 = .ok (.istore_n 1, 1) := by decide +kernel
theorem dX1_free_7 : decode cX1_free 7 = .ok (.iconst 0, 1) := by decide +kernel
theorem dX1_free_8 : decode cX1_free 8 = .ok (.istore_n 2, 1) := by decide +kernel
theorem dX1_free_9 : decode cX1_free 9 = .ok (.iload_n 2, 1) := by decide +kernel
theorem dX1_free_10 : decode cX1_free 10 = .ok (.aload_n 0, 1) := by decide +kernel
theorem dX1_free_11 : decode cX1_free 11 = .ok (.getfield 29, 3) := by decide +kernel
theorem dX1_free_14 : decode cX1_free 14 = .ok (.if_icmp .ge 25, 3) := by decide +kernel
theorem dX1_free_17 : decode cX1_free 17 = .ok (.iload_n 1, 1) := by decide +kernel
theorem dX1_free_18 : decode cX1_free 18 = .ok (.aload_n 0, 1) := by decide +kernel
theorem dX1_free_19 : decode cX1_free 19 = .ok (.iload_n 2, 1) := by decide +kernel
theorem dX1_free_20 : decode cX1_free 20 = .ok (.invokevirtual 40, 3) := by decide +kernel
theorem dX1_free_23 : decode cX1_free 23 = .ok (.ifCond .eq 7, 3) := by decide +kernel
theorem dX1_free_26 : decode cX1_free 26 = .ok (.iconst 1, 1) := by decide +kernel
theorem dX1_free_27 : decode cX1_free 27 = .ok (.goto 4, 3) := by decide +kernel
theorem dX1_free_30 : decode cX1_free 30 = .ok (.iconst 0, 1) := by decide +kernel
theorem dX1_free_31 : decode cX1_free 31 = .ok (.iadd, 1) := by decide +kernel
theorem dX1_free_32 : decode cX1_free 32 = .ok (.istore_n 1, 1) := by decide +kernel
theorem dX1_free_33 : decode cX1_free 33 = .ok (.iinc 2 1, 3) := by decide +kernel
theorem dX1_free_36 : decode cX1_free 36 = .ok (.goto (-27), 3) := by decide +kernel
theorem dX1_free_39 : decode cX1_free 39 = .ok (.iload_n 1, 1) := by decide +kernel
theorem dX1_free_40 : decode cX1_free 40 = .ok (.ireturn, 1) := by decide +kernel
theorem dX1_used_0 : decode cX1_used 0 = .ok (.aload_n 0, 1) := by decide +kernel
theorem dX1_used_1 : decode cX1_used 1 = .ok (.iconst 0, 1) := by decide +kernel
theorem dX1_used_2 : decode cX1_used 2 = .ok (.putfield 33, 3) := by decide +kernel
theorem dX1_used_5 : decode cX1_used 5 = .ok (.iconst 0, 1) := by decide +kernel
theorem dX1_used_6 : decode cX1_used 6 = .ok (.istore_n 1, 1) := by decide +kernel
theorem dX1_used_7 : decode cX1_used 7 = .ok (.iconst 0, 1) := by decide +kernel
theorem dX1_used_8 : decode cX1_used 8 = .ok (.istore_n 2, 1) := by decide +kernel
theorem dX1_used_9 : decode cX1_used 9 = .ok (.iload_n 2, 1) := by decide +kernel
theorem dX1_used_10 : decode cX1_used 10 = .ok (.aload_n 0, 1) := by decide +kernel
theorem dX1_used_11 : decode cX1_used 11 = .ok (.getfield 29, 3) := by decide +kernel
theorem dX1_used_14 : decode cX1_used 14 = .ok (.if_icmp .ge 17, 3) := by decide +kernel
theorem dX1_used_17 : decode cX1_used 17 = .ok (.iload_n 1, 1) := by decide +kernel
theorem dX1_used_18 : decode cX1_used 18 = .ok (.aload_n 0, 1) := by decide +kernel
theorem dX1_used_19 : decode cX1_used 19 = .ok (.iload_n 2, 1) := by decide +kernel
theorem dX1_used_20 : decode cX1_used 20 = .ok (.invokevirtual 60, 3) := by decide +kernel
theorem dX1_used_23 : decode cX1_used 23 = .ok (.iadd, 1) := by decide +kernel
theorem dX1_used_24 : decode cX1_used 24 = .ok (.istore_n 1, 1) := by decide +kernel
theorem dX1_used_25 : decode cX1_used 25 = .ok (.iinc 2 1, 3) := by decide +kernel
theorem dX1_used_28 : decode cX1_used 28 = .ok (.goto (-19), 3) := by decide +kernel
theorem dX1_used_31 : decode cX1_used 31 = .ok (.iload_n 1, 1) := by decide +kernel
theorem dX1_used_32 : decode cX1_used 32 = .ok (.ireturn, 1) := by decide +kernel
theorem dX1_victim_0 : decode cX1_victim 0 = .ok (.aload_n 0, 1) := by decide +kernel
theorem dX1_victim_1 : decode cX1_victim 1 = .ok (.iconst 0, 1) := by decide +kernel
theorem dX1_victim_2 : decode cX1_victim 2 = .ok (.putfield 33, 3) := by decide +kernel
theorem dX1_victim_5 : decode cX1_victim 5 = .ok (.iconst (-1), 1) := by decide +kernel
theorem dX1_victim_6 : decode cX1_victim 6 = .ok (.istore_n 2, 1) := by decide +kernel
theorem dX1_victim_7 : decode cX1_victim 7 = .ok (.iconst (-1), 1) := by decide +kernel
theorem dX1_victim_8 : decode cX1_victim 8 = .ok (.istore_n 3, 1) := by decide +kernel
theorem dX1_victim_9 : decode cX1_victim 9 = .ok (.iconst 0, 1) := by decide +kernel
theorem dX1_victim_10 : decode cX1_victim 10 = .ok (.istore 4, 2) := by decide +kernel
theorem dX1_victim_12 : decode cX1_victim 12 = .ok (.iload 4, 2) := by decide +kernel
theorem dX1_victim_14 : decode cX1_victim 14 = .ok (.aload_n 0, 1) := by decide +kernel
theorem dX1_victim_15 : decode cX1_victim 15 = .ok (.getfield 29, 3) := by decide +kernel
theorem dX1_victim_18 : decode cX1_victim 18 = .ok (.if_icmp .ge 90, 3) := by decide +kernel
theorem dX1_victim_21 : decode cX1_victim 21 = .ok (.aload_n 0, 1) := by decide +kernel
theorem dX1_victim_22 : decode cX1_victim 22 = .ok (.iload 4, 2) := by decide +kernel
theorem dX1_victim_24 : decode cX1_victim 24 = .ok (.invokevirtual 60, 3) := by decide +kernel
theorem dX1_victim_27 : decode cX1_victim 27 = .ok (.istore 5, 2) := by decide +kernel
theorem dX1_victim_29 : decode cX1_victim 29 = .ok (.iload_n 1, 1) := by decide +kernel
theorem dX1_victim_30 : decode cX1_victim 30 = .ok (.ifCond .eq 32, 3) := by decide +kernel
theorem dX1_victim_33 : decode cX1_victim 33 = .ok (.bipush 16, 2) := by decide +kernel
theorem dX1_victim_35 : decode cX1_victim 35 = .ok (.iload 5, 2) := by decide +kernel
theorem dX1_victim_37 : decode cX1_victim 37 = .ok (.isub, 1) := by decide +kernel
theorem dX1_victim_38 : decode cX1_victim 38 = .ok (.aload_n 0, 1) := by decide +kernel
theorem dX1_victim_39 : decode cX1_victim 39 = .ok (.getfield 51, 3) := by decide +kernel
theorem dX1_victim_42 : decode cX1_victim 42 = .ok (.aload_n 0, 1) := by decide +kernel
theorem dX1_victim_43 : decode cX1_victim 43 = .ok (.getfield 19, 3) := by decide +kernel
theorem dX1_victim_46 : decode cX1_victim 46 = .ok (.iload 4, 2) := by decide +kernel
theorem dX1_victim_48 : decode cX1_victim 48 = .ok (.iaload, 1) := by decide +kernel
theorem dX1_victim_49 : decode cX1_victim 49 = .ok (.isub, 1) := by decide +kernel
theorem dX1_victim_50 : decode cX1_victim 50 = .ok (.iconst 1, 1) := by decide +kernel
theorem dX1_victim_51 : decode cX1_victim 51 = .ok (.iadd, 1) := by decide +kernel
theorem dX1_victim_52 : decode cX1_victim 52 = .ok (.imul, 1) := by decide +kernel
theorem dX1_victim_53 : decode cX1_victim 53 = .ok (.iload 5, 2) := by decide +kernel
theorem dX1_victim_55 : decode cX1_victim 55 = .ok (.bipush 16, 2) := by decide +kernel
theorem dX1_victim_57 : decode cX1_victim 57 = .ok (.iadd, 1) := by decide +kernel
theorem dX1_victim_58 : decode cX1_victim 58 = .ok (.idiv, 1) := by decide +kernel
theorem dX1_victim_59 : decode cX1_victim 59 = .ok (.goto 8, 3) := by decide +kernel
theorem dX1_victim_62 : decode cX1_victim 62 = .ok (.bipush 16, 2) := by decide +kernel
theorem dX1_victim_64 : decode cX1_victim 64 = .ok (.iload 5, 2) := by decide +kernel
theorem dX1_victim_66 : decode cX1_victim 66 = .ok (.isub, 1) := by decide +kernel
theorem dX1_victim_67 : decode cX1_victim 67 = .ok (.istore 6, 2) := by decide +kernel
theorem dX1_victim_69 : decode cX1_victim 69 = .ok (.aload_n 0, 1) := by decide +kernel
theorem dX1_victim_70 : decode cX1_victim 70 = .ok (.iload 4, 2) := by decide +kernel
theorem dX1_victim_72 : decode cX1_victim 72 = .ok (.invokevirtual 36, 3) := by decide +kernel
theorem dX1_victim_75 : decode cX1_victim 75 = .ok (.ifCond .ne 27, 3) := by decide +kernel
theorem dX1_victim_78 : decode cX1_victim 78 = .ok (.iload 5, 2) := by decide +kernel
theorem dX1_victim_80 : decode cX1_victim 80 = .ok (.ifCond .le 22, 3) := by decide +kernel
theorem dX1_victim_83 : decode cX1_victim 83 = .ok (.iload 5, 2) := by decide +kernel
theorem dX1_victim_85 : decode cX1_victim 85 = .ok (.bipush 16, 2) := by decide +kernel
theorem dX1_victim_87 : decode cX1_victim 87 = .ok (.if_icmp .ge 15, 3) := by decide +kernel
theorem dX1_victim_90 : decode cX1_victim 90 = .ok (.iload 6, 2) := by decide +kernel
theorem dX1_victim_92 : decode cX1_victim 92 = .ok (.iload_n 3, 1) := by decide +kernel
theorem dX1_victim_93 : decode cX1_victim 93 = .ok (.if_icmp .le 9, 3) := by decide +kernel
theorem dX1_victim_96 : decode cX1_victim 96 = .ok (.iload 4, 2) := by decide +kernel
theorem dX1_victim_98 : decode cX1_victim 98 = .ok (.istore_n 2, 1) := by decide +kernel
theorem dX1_victim_99 : decode cX1_victim 99 = .ok (.iload 6, 2) := by decide +kernel
theorem dX1_victim_101 : decode cX1_victim 101 = .ok (.istore_n 3, 1) := by decide +kernel
theorem dX1_victim_102 : decode cX1_victim 102 = .ok (.iinc 4 1, 3) := by decide +kernel
theorem dX1_victim_105 : decode cX1_victim 105 = .ok (.goto (-93), 3) := by decide +kernel
theorem dX1_victim_108 : decode cX1_victim 108 = .ok (.iload_n 2, 1) := by decide +kernel
theorem dX1_victim_109 : decode cX1_victim 109 = .ok (.ireturn, 1) := by decide +kernel
theorem dX1_look_0 : decode cX1_look 0 = .ok (.aload_n 0, 1) := by decide +kernel
theorem dX1_look_1 : decode cX1_look 1 = .ok (.iload_n 1, 1) := by decide +kernel
theorem dX1_look_2 : decode cX1_look 2 = .ok (.ifCond .lt 20, 3) := by decide +kernel
theorem dX1_look_5 : decode cX1_look 5 = .ok (.iload_n 1, 1) := by decide +kernel
theorem dX1_look_6 : decode cX1_look 6 = .ok (.aload_n 0, 1) := by decide +kernel
theorem dX1_look_7 : decode cX1_look 7 = .ok (.getfield 29, 3) := by decide +kernel
theorem dX1_look_10 : decode cX1_look 10 = .ok (.if_icmp .ge 12, 3) := by decide +kernel
theorem dX1_look_13 : decode cX1_look 13 = .ok (.iload_n 2, 1) := by decide +kernel
theorem dX1_look_14 : decode cX1_look 14 = .ok (.ifCond .lt 8, 3) := by decide +kernel
theorem dX1_look_17 : decode cX1_look 17 = .ok (.iload_n 2, 1) := by decide +kernel
theorem dX1_look_18 : decode cX1_look 18 = .ok (.iconst 3, 1) := by decide +kernel
theorem dX1_look_19 : decode cX1_look 19 = .ok (.if_icmp .le 7, 3) := by decide +kernel
theorem dX1_look_22 : decode cX1_look 22 = .ok (.iconst 1, 1) := by decide +kernel
theorem dX1_look_23 : decode cX1_look 23 = .ok (.goto 4, 3) := by decide +kernel
theorem dX1_look_26 : decode cX1_look 26 = .ok (.iconst 0, 1) := by decide +kernel
theorem dX1_look_27 : decode cX1_look 27 = .ok (.iconst 0, 1) := by decide +kernel
theorem dX1_look_28 : decode cX1_look 28 = .ok (.invokevirtual 47, 3) := by decide +kernel
theorem dX1_look_31 : decode cX1_look 31 = .ok (.ifCond .eq 5, 3) := by decide +kernel
theorem dX1_look_34 : decode cX1_look 34 = .ok (.iconst 0, 1) := by decide +kernel
theorem dX1_look_35 : decode cX1_look 35 = .ok (.ireturn, 1) := by decide +kernel
theorem dX1_look_36 : decode cX1_look 36 = .ok (.iload_n 2, 1) := by decide +kernel
theorem dX1_look_37 : decode cX1_look 37 = .ok (.iconst 2, 1) := by decide +kernel
theorem dX1_look_38 : decode cX1_look 38 = .ok (.if_icmp .ne 10, 3) := by decide +kernel
theorem dX1_look_41 : decode cX1_look 41 = .ok (.aload_n 0, 1) := by decide +kernel
theorem dX1_look_42 : decode cX1_look 42 = .ok (.getfield 19, 3) := by decide +kernel
theorem dX1_look_45 : decode cX1_look 45 = .ok (.iload_n 1, 1) := by decide +kernel
theorem dX1_look_46 : decode cX1_look 46 = .ok (.iaload, 1) := by decide +kernel
theorem dX1_look_47 : decode cX1_look 47 = .ok (.ireturn, 1) := by decide +kernel
theorem dX1_look_48 : decode cX1_look 48 = .ok (.iload_n 2, 1) := by decide +kernel
theorem dX1_look_49 : decode cX1_look 49 = .ok (.iconst 3, 1) := by decide +kernel
theorem dX1_look_50 : decode cX1_look 50 = .ok (.if_icmp .ne 17, 3) := by decide +kernel
theorem dX1_look_53 : decode cX1_look 53 = .ok (.aload_n 0, 1) := by decide +kernel
theorem dX1_look_54 : decode cX1_look 54 = .ok (.iload_n 1, 1) := by decide +kernel
theorem dX1_look_55 : decode cX1_look 55 = .ok (.invokevirtual 36, 3) := by decide +kernel
theorem dX1_look_58 : decode cX1_look 58 = .ok (.ifCond .eq 7, 3) := by decide +kernel
theorem dX1_look_61 : decode cX1_look 61 = .ok (.iconst 1, 1) := by decide +kernel
theorem dX1_look_62 : decode cX1_look 62 = .ok (.goto 4, 3) := by decide +kernel
theorem dX1_look_65 : decode cX1_look 65 = .ok (.iconst 0, 1) := by decide +kernel
theorem dX1_look_66 : decode cX1_look 66 = .ok (.ireturn, 1) := by decide +kernel
theorem dX1_look_67 : decode cX1_look 67 = .ok (.iconst 0, 1) := by decide +kernel
theorem dX1_look_68 : decode cX1_look 68 = .ok (.istore_n 3, 1) := by decide +kernel
theorem dX1_look_69 : decode cX1_look 69 = .ok (.bipush 15, 2) := by decide +kernel
theorem dX1_look_71 : decode cX1_look 71 = .ok (.istore 4, 2) := by decide +kernel
theorem dX1_look_73 : decode cX1_look 73 = .ok (.iload 4, 2) := by decide +kernel
theorem dX1_look_75 : decode cX1_look 75 = .ok (.ifCond .lt 56, 3) := by decide +kernel
theorem dX1_look_78 : decode cX1_look 78 = .ok (.iconst 2, 1) := by decide +kernel
theorem dX1_look_79 : decode cX1_look 79 = .ok (.iload_n 3, 1) := by decide +kernel
theorem dX1_look_80 : decode cX1_look 80 = .ok (.imul, 1) := by decide +kernel
theorem dX1_look_81 : decode cX1_look 81 = .ok (.iload_n 2, 1) := by decide +kernel
theorem dX1_look_82 : decode cX1_look 82 = .ok (.ifCond .ne 21, 3) := by decide +kernel
theorem dX1_look_85 : decode cX1_look 85 = .ok (.aload_n 0, 1) := by decide +kernel
theorem dX1_look_86 : decode cX1_look 86 = .ok (.getfield 7, 3) := by decide +kernel
theorem dX1_look_89 : decode cX1_look 89 = .ok (.bipush 16, 2) := by decide +kernel
theorem dX1_look_91 : decode cX1_look 91 = .ok (.iload_n 1, 1) := by decide +kernel
theorem dX1_look_92 : decode cX1_look 92 = .ok (.imul, 1) := by decide +kernel
theorem dX1_look_93 : decode cX1_look 93 = .ok (.iload 4, 2) := by decide +kernel
theorem dX1_look_95 : decode cX1_look 95 = .ok (.iadd, 1) := by decide +kernel
theorem dX1_look_96 : decode cX1_look 96 = .ok (.baload, 1) := by decide +kernel
theorem dX1_look_97 : decode cX1_look 97 = .ok (.ifCond .eq 25, 3) := by decide +kernel
theorem dX1_look_100 : decode cX1_look 100 = .ok (.goto 18, 3) := by decide +kernel
theorem dX1_look_103 : decode cX1_look 103 = .ok (.aload_n 0, 1) := by decide +kernel
theorem dX1_look_104 : decode cX1_look 104 = .ok (.getfield 13, 3) := by decide +kernel
theorem dX1_look_107 : decode cX1_look 107 = .ok (.bipush 16, 2) := by decide +kernel
theorem dX1_look_109 : decode cX1_look 109 = .ok (.iload_n 1, 1) := by decide +kernel
theorem dX1_look_110 : decode cX1_look 110 = .ok (.imul, 1) := by decide +kernel
theorem dX1_look_111 : decode cX1_look 111 = .ok (.iload 4, 2) := by decide +kernel
theorem dX1_look_113 : decode cX1_look 113 = .ok (.iadd, 1) := by decide +kernel
theorem dX1_look_114 : decode cX1_look 114 = .ok (.baload, 1) := by decide +kernel
theorem dX1_look_115 : decode cX1_look 115 = .ok (.ifCond .eq 7, 3) := by decide +kernel
theorem dX1_look_118 : decode cX1_look 118 = .ok (.iconst 1, 1) := by decide +kernel
theorem dX1_look_119 : decode cX1_look 119 = .ok (.goto 4, 3) := by decide +kernel
theorem dX1_look_122 : decode cX1_look 122 = .ok (.iconst 0, 1) := by decide +kernel
theorem dX1_look_123 : decode cX1_look 123 = .ok (.iadd, 1) := by decide +kernel
theorem dX1_look_124 : decode cX1_look 124 = .ok (.istore_n 3, 1) := by decide +kernel
theorem dX1_look_125 : decode cX1_look 125 = .ok (.iinc 4 (-1), 3) := by decide +kernel
theorem dX1_look_128 : decode cX1_look 128 = .ok (.goto (-55), 3) := by decide +kernel
theorem dX1_look_131 : decode cX1_look 131 = .ok (.iload_n 3, 1) := by decide +kernel
theorem dX1_look_132 : decode cX1_look 132 = .ok (.ireturn, 1) := by decide +kernel
