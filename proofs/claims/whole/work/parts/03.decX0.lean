theorem dX0_init_0 : decode cX0_init 0 = .ok (.aload_n 0, 1) := by decide +kernel
theorem dX0_init_1 : decode cX0_init 1 = .ok (.invokespecial 1, 3) := by decide +kernel
theorem dX0_init_4 : decode cX0_init 4 = .ok (.aload_n 0, 1) := by decide +kernel
theorem dX0_init_5 : decode cX0_init 5 = .ok (.iload_n 1, 1) := by decide +kernel
theorem dX0_init_6 : decode cX0_init 6 = .ok (.bipush 12, 2) := by decide +kernel
theorem dX0_init_8 : decode cX0_init 8 = .ok (.if_icmp .lt 10, 3) := by decide +kernel
theorem dX0_init_11 : decode cX0_init 11 = .ok (.iload_n 1, 1) := by decide +kernel
theorem dX0_init_12 : decode cX0_init 12 = .ok (.sipush 128, 3) := by decide +kernel
theorem dX0_init_15 : decode cX0_init 15 = .ok (.if_icmp .le 8, 3) := by decide +kernel
theorem dX0_init_18 : decode cX0_init 18 = .ok (.bipush 12, 2) := by decide +kernel
theorem dX0_init_20 : decode cX0_init 20 = .ok (.goto 4, 3) := by decide +kernel
theorem dX0_init_23 : decode cX0_init 23 = .ok (.iload_n 1, 1) := by decide +kernel
theorem dX0_init_24 : decode cX0_init 24 = .ok (.putfield 9, 3) := by decide +kernel
theorem dX0_init_27 : decode cX0_init 27 = .ok (.aload_n 0, 1) := by decide +kernel
theorem dX0_init_28 : decode cX0_init 28 = .ok (.aload_n 0, 1) := by decide +kernel
theorem dX0_init_29 : decode cX0_init 29 = .ok (.getfield 9, 3) := by decide +kernel
theorem dX0_init_32 : decode cX0_init 32 = .ok (.newarray .int, 2) := by decide +kernel
theorem dX0_init_34 : decode cX0_init 34 = .ok (.putfield 13, 3) := by decide +kernel
theorem dX0_init_37 : decode cX0_init 37 = .ok (.aload_n 0, 1) := by decide +kernel
theorem dX0_init_38 : decode cX0_init 38 = .ok (.aload_n 0, 1) := by decide +kernel
theorem dX0_init_39 : decode cX0_init 39 = .ok (.getfield 9, 3) := by decide +kernel
theorem dX0_init_42 : decode cX0_init 42 = .ok (.newarray .int, 2) := by decide +kernel
theorem dX0_init_44 : decode cX0_init 44 = .ok (.putfield 17, 3) := by decide +kernel
theorem dX0_init_47 : decode cX0_init 47 = .ok (.aload_n 0, 1) := by decide +kernel
theorem dX0_init_48 : decode cX0_init 48 = .ok (.aload_n 0, 1) := by decide +kernel
theorem dX0_init_49 : decode cX0_init 49 = .ok (.getfield 9, 3) := by decide +kernel
theorem dX0_init_52 : decode cX0_init 52 = .ok (.newarray .int, 2) := by decide +kernel
theorem dX0_init_54 : decode cX0_init 54 = .ok (.putfield 20, 3) := by decide +kernel
theorem dX0_init_57 : decode cX0_init 57 = .ok (.aload_n 0, 1) := by decide +kernel
theorem dX0_init_58 : decode cX0_init 58 = .ok (.aload_n 0, 1) := by decide +kernel
theorem dX0_init_59 : decode cX0_init 59 = .ok (.getfield 9, 3) := by decide +kernel
theorem dX0_init_62 : decode cX0_init 62 = .ok (.newarray .boolean, 2) := by decide +kernel
theorem dX0_init_64 : decode cX0_init 64 = .ok (.putfield 23, 3) := by decide +kernel
theorem dX0_init_67 : decode cX0_init 67 = .ok (.aload_n 0, 1) := by decide +kernel
theorem dX0_init_68 : decode cX0_init 68 = .ok (.bipush 6, 2) := by decide +kernel
theorem dX0_init_70 : decode cX0_init 70 = .ok (.newarray .int, 2) := by decide +kernel
theorem dX0_init_72 : decode cX0_init 72 = .ok (.putfield 27, 3) := by decide +kernel
theorem dX0_init_75 : decode cX0_init 75 = .ok (.aload_n 0, 1) := by decide +kernel
theorem dX0_init_76 : decode cX0_init 76 = .ok (.iconst 0, 1) := by decide +kernel
theorem dX0_init_77 : decode cX0_init 77 = .ok (.putfield 30, 3) := by decide +kernel
theorem dX0_init_80 : decode cX0_init 80 = .ok (.iconst 0, 1) := by decide +kernel
theorem dX0_init_81 : decode cX0_init 81 = .ok (.istore_n 2, 1) := by decide +kernel
theorem dX0_init_82 : decode cX0_init 82 = .ok (.iload_n 2, 1) := by decide +kernel
theorem dX0_init_83 : decode cX0_init 83 = .ok (.bipush 6, 2) := by decide +kernel
theorem dX0_init_85 : decode cX0_init 85 = .ok (.if_icmp .ge 26, 3) := by decide +kernel
theorem dX0_init_88 : decode cX0_init 88 = .ok (.aload_n 0, 1) := by decide +kernel
theorem dX0_init_89 : decode cX0_init 89 = .ok (.getfield 27, 3) := by decide +kernel
theorem dX0_init_92 : decode cX0_init 92 = .ok (.iload_n 2, 1) := by decide +kernel
theorem dX0_init_93 : decode cX0_init 93 = .ok (.iload_n 2, 1) := by decide +kernel
theorem dX0_init_94 : decode cX0_init 94 = .ok (.invokestatic 33, 3) := by decide +kernel
theorem dX0_init_97 : decode cX0_init 97 = .ok (.iastore, 1) := by decide +kernel
theorem dX0_init_98 : decode cX0_init 98 = .ok (.aload_n 0, 1) := by decide +kernel
theorem dX0_init_99 : decode cX0_init 99 = .ok (.getfield 23, 3) := by decide +kernel
theorem dX0_init_102 : decode cX0_init 102 = .ok (.iload_n 2, 1) := by decide +kernel
theorem dX0_init_103 : decode cX0_init 103 = .ok (.iconst 1, 1) := by decide +kernel
theorem dX0_init_104 : decode cX0_init 104 = .ok (.bastore, 1) := by decide +kernel
theorem dX0_init_105 : decode cX0_init 105 = .ok (.iinc 2 1, 3) := by decide +kernel
theorem dX0_init_108 : decode cX0_init 108 = .ok (.goto (-26), 3) := by decide +kernel
theorem dX0_init_111 : decode cX0_init 111 = .ok (.return_, 1) := by decide +kernel
theorem dX0_take_0 : decode cX0_take 0 = .ok (.iload_n 1, 1) := by decide +kernel
theorem dX0_take_1 : decode cX0_take 1 = .ok (.invokestatic 37, 3) := by decide +kernel
theorem dX0_take_4 : decode cX0_take 4 = .ok (.ifCond .ne 13, 3) := by decide +kernel
theorem dX0_take_7 : decode cX0_take 7 = .ok (.new 41, 3) := by decide +kernel
theorem dX0_take_10 : decode cX0_take 10 = .ok (.dup, 1) := by decide +kernel
theorem dX0_take_11 : decode cX0_take 11 = .ok (.ldc 43, 2) := by decide +kernel
theorem dX0_take_13 : decode cX0_take 13 = .ok (.invokespecial 45, 3) := by decide +kernel
theorem dX0_take_16 : decode cX0_take 16 = .ok (.athrow, 1) := by decide +kernel
theorem dX0_take_17 : decode cX0_take 17 = .ok (.aload_n 0, 1) := by decide +kernel
theorem dX0_take_18 : decode cX0_take 18 = .ok (.getfield 27, 3) := by decide +kernel
theorem dX0_take_21 : decode cX0_take 21 = .ok (.iload_n 1, 1) := by decide +kernel
theorem dX0_take_22 : decode cX0_take 22 = .ok (.iaload, 1) := by decide +kernel
theorem dX0_take_23 : decode cX0_take 23 = .ok (.istore_n 2, 1) := by decide +kernel
theorem dX0_take_24 : decode cX0_take 24 = .ok (.aload_n 0, 1) := by decide +kernel
theorem dX0_take_25 : decode cX0_take 25 = .ok (.iload_n 2, 1) := by decide +kernel
theorem dX0_take_26 : decode cX0_take 26 = .ok (.invokevirtual 48, 3) := by decide +kernel
theorem dX0_take_29 : decode cX0_take 29 = .ok (.istore_n 3, 1) := by decide +kernel
theorem dX0_take_30 : decode cX0_take 30 = .ok (.iload_n 3, 1) := by decide +kernel
theorem dX0_take_31 : decode cX0_take 31 = .ok (.iconst (-1), 1) := by decide +kernel
theorem dX0_take_32 : decode cX0_take 32 = .ok (.if_icmp .ne 13, 3) := by decide +kernel
theorem dX0_take_35 : decode cX0_take 35 = .ok (.new 51, 3) := by decide +kernel
theorem dX0_take_38 : decode cX0_take 38 = .ok (.dup, 1) := by decide +kernel
theorem dX0_take_39 : decode cX0_take 39 = .ok (.ldc 53, 2) := by decide +kernel
theorem dX0_take_41 : decode cX0_take 41 = .ok (.invokespecial 55, 3) := by decide +kernel
theorem dX0_take_44 : decode cX0_take 44 = .ok (.athrow, 1) := by decide +kernel
theorem dX0_take_45 : decode cX0_take 45 = .ok (.aload_n 0, 1) := by decide +kernel
theorem dX0_take_46 : decode cX0_take 46 = .ok (.iload_n 2, 1) := by decide +kernel
theorem dX0_take_47 : decode cX0_take 47 = .ok (.invokevirtual 56, 3) := by decide +kernel
theorem dX0_take_50 : decode cX0_take 50 = .ok (.aload_n 0, 1) := by decide +kernel
theorem dX0_take_51 : decode cX0_take 51 = .ok (.iload_n 1, 1) := by decide +kernel
theorem dX0_take_52 : decode cX0_take 52 = .ok (.iload_n 3, 1) := by decide +kernel
theorem dX0_take_53 : decode cX0_take 53 = .ok (.invokevirtual 60, 3) := by decide +kernel
theorem dX0_take_56 : decode cX0_take 56 = .ok (.iload_n 2, 1) := by decide +kernel
theorem dX0_take_57 : decode cX0_take 57 = .ok (.ireturn, 1) := by decide +kernel
theorem dX0_next_0 : decode cX0_next 0 = .ok (.iload_n 1, 1) := by decide +kernel
theorem dX0_next_1 : decode cX0_next 1 = .ok (.invokestatic 37, 3) := by decide +kernel
theorem dX0_next_4 : decode cX0_next 4 = .ok (.ifCond .ne 13, 3) := by decide +kernel
theorem dX0_next_7 : decode cX0_next 7 = .ok (.new 41, 3) := by decide +kernel
theorem dX0_next_10 : decode cX0_next 10 = .ok (.dup, 1) := by decide +kernel
theorem dX0_next_11 : decode cX0_next 11 = .ok (.ldc 43, 2) := by decide +kernel
theorem dX0_next_13 : decode cX0_next 13 = .ok (.invokespecial 45, 3) := by decide +kernel
theorem dX0_next_16 : decode cX0_next 16 = .ok (.athrow, 1) := by decide +kernel
theorem dX0_next_17 : decode cX0_next 17 = .ok (.aload_n 0, 1) := by decide +kernel
theorem dX0_next_18 : decode cX0_next 18 = .ok (.getfield 27, 3) := by decide +kernel
theorem dX0_next_21 : decode cX0_next 21 = .ok (.iload_n 1, 1) := by decide +kernel
theorem dX0_next_22 : decode cX0_next 22 = .ok (.iaload, 1) := by decide +kernel
theorem dX0_next_23 : decode cX0_next 23 = .ok (.ireturn, 1) := by decide +kernel
theorem dX0_drop_0 : decode cX0_drop 0 = .ok (.aload_n 0, 1) := by decide +kernel
theorem dX0_drop_1 : decode cX0_drop 1 = .ok (.iload_n 1, 1) := by decide +kernel
theorem dX0_drop_2 : decode cX0_drop 2 = .ok (.invokevirtual 64, 3) := by decide +kernel
theorem dX0_drop_5 : decode cX0_drop 5 = .ok (.istore_n 2, 1) := by decide +kernel
theorem dX0_drop_6 : decode cX0_drop 6 = .ok (.iload_n 2, 1) := by decide +kernel
theorem dX0_drop_7 : decode cX0_drop 7 = .ok (.iconst (-1), 1) := by decide +kernel
theorem dX0_drop_8 : decode cX0_drop 8 = .ok (.if_icmp .ne 13, 3) := by decide +kernel
theorem dX0_drop_11 : decode cX0_drop 11 = .ok (.new 41, 3) := by decide +kernel
theorem dX0_drop_14 : decode cX0_drop 14 = .ok (.dup, 1) := by decide +kernel
theorem dX0_drop_15 : decode cX0_drop 15 = .ok (.ldc 67, 2) := by decide +kernel
theorem dX0_drop_17 : decode cX0_drop 17 = .ok (.invokespecial 45, 3) := by decide +kernel
theorem dX0_drop_20 : decode cX0_drop 20 = .ok (.athrow, 1) := by decide +kernel
theorem dX0_drop_21 : decode cX0_drop 21 = .ok (.aload_n 0, 1) := by decide +kernel
theorem dX0_drop_22 : decode cX0_drop 22 = .ok (.getfield 13, 3) := by decide +kernel
theorem dX0_drop_25 : decode cX0_drop 25 = .ok (.iload_n 2, 1) := by decide +kernel
theorem dX0_drop_26 : decode cX0_drop 26 = .ok (.iaload, 1) := by decide +kernel
theorem dX0_drop_27 : decode cX0_drop 27 = .ok (.iload_n 1, 1) := by decide +kernel
theorem dX0_drop_28 : decode cX0_drop 28 = .ok (.invokestatic 69, 3) := by decide +kernel
theorem dX0_drop_31 : decode cX0_drop 31 = .ok (.iand, 1) := by decide +kernel
theorem dX0_drop_32 : decode cX0_drop 32 = .ok (.ifCond .ne 13, 3) := by decide +kernel
theorem dX0_drop_35 : decode cX0_drop 35 = .ok (.new 51, 3) := by decide +kernel
theorem dX0_drop_38 : decode cX0_drop 38 = .ok (.dup, 1) := by decide +kernel
theorem dX0_drop_39 : decode cX0_drop 39 = .ok (.ldc 72, 2) := by decide +kernel
theorem dX0_drop_41 : decode cX0_drop 41 = .ok (.invokespecial 55, 3) := by decide +kernel
theorem dX0_drop_44 : decode cX0_drop 44 = .ok (.athrow, 1) := by decide +kernel
theorem dX0_drop_45 : decode cX0_drop 45 = .ok (.aload_n 0, 1) := by decide +kernel
theorem dX0_drop_46 : decode cX0_drop 46 = .ok (.getfield 13, 3) := by decide +kernel
theorem dX0_drop_49 : decode cX0_drop 49 = .ok (.iload_n 2, 1) := by decide +kernel
theorem dX0_drop_50 : decode cX0_drop 50 = .ok (.dup2, 1) := by decide +kernel
theorem dX0_drop_51 : decode cX0_drop 51 = .ok (.iaload, 1) := by decide +kernel
theorem dX0_drop_52 : decode cX0_drop 52 = .ok (.iload_n 1, 1) := by decide +kernel
theorem dX0_drop_53 : decode cX0_drop 53 = .ok (.invokestatic 69, 3) := by decide +kernel
theorem dX0_drop_56 : decode cX0_drop 56 = .ok (.iconst (-1), 1) := by decide +kernel
theorem dX0_drop_57 : decode cX0_drop 57 = .ok (.ixor, 1) := by decide +kernel
theorem dX0_drop_58 : decode cX0_drop 58 = .ok (.iand, 1) := by decide +kernel
theorem dX0_drop_59 : decode cX0_drop 59 = .ok (.iastore, 1) := by decide +kernel
theorem dX0_drop_60 : decode cX0_drop 60 = .ok (.return_, 1) := by decide +kernel
theorem dX0_isUsed_0 : decode cX0_isUsed 0 = .ok (.aload_n 0, 1) := by decide +kernel
theorem dX0_isUsed_1 : decode cX0_isUsed 1 = .ok (.iload_n 1, 1) := by decide +kernel
theorem dX0_isUsed_2 : decode cX0_isUsed 2 = .ok (.invokevirtual 64, 3) := by decide +kernel
theorem dX0_isUsed_5 : decode cX0_isUsed 5 = .ok (.istore_n 2, 1) := by decide +kernel
theorem dX0_isUsed_6 : decode cX0_isUsed 6 = .ok (.iload_n 2, 1) := by decide +kernel
theorem dX0_isUsed_7 : decode cX0_isUsed 7 = .ok (.iconst (-1), 1) := by decide +kernel
theorem dX0_isUsed_8 : decode cX0_isUsed 8 = .ok (.if_icmp .ne 13, 3) := by decide +kernel
theorem dX0_isUsed_11 : decode cX0_isUsed 11 = .ok (.new 41, 3) := by decide +kernel
theorem dX0_isUsed_14 : decode cX0_isUsed 14 = .ok (.dup, 1) := by decide +kernel
theorem dX0_isUsed_15 : decode cX0_isUsed 15 = .ok (.ldc 67, 2) := by decide +kernel
theorem dX0_isUsed_17 : decode cX0_isUsed 17 = .ok (.invokespecial 45, 3) := by decide +kernel
theorem dX0_isUsed_20 : decode cX0_isUsed 20 = .ok (.athrow, 1) := by decide +kernel
theorem dX0_isUsed_21 : decode cX0_isUsed 21 = .ok (.aload_n 0, 1) := by decide +kernel
theorem dX0_isUsed_22 : decode cX0_isUsed 22 = .ok (.getfield 13, 3) := by decide +kernel
theorem dX0_isUsed_25 : decode cX0_isUsed 25 = .ok (.iload_n 2, 1) := by decide +kernel
theorem dX0_isUsed_26 : decode cX0_isUsed 26 = .ok (.iaload, 1) := by decide +kernel
theorem dX0_isUsed_27 : decode cX0_isUsed 27 = .ok (.iload_n 1, 1) := by decide +kernel
theorem dX0_isUsed_28 : decode cX0_isUsed 28 = .ok (.invokestatic 69, 3) := by decide +kernel
theorem dX0_isUsed_31 : decode cX0_isUsed 31 = .ok (.iand, 1) := by decide +kernel
theorem dX0_isUsed_32 : decode cX0_isUsed 32 = .ok (.ifCond .eq 7, 3) := by decide +kernel
theorem dX0_isUsed_35 : decode cX0_isUsed 35 = .ok (.iconst 1, 1) := by decide +kernel
theorem dX0_isUsed_36 : decode cX0_isUsed 36 = .ok (.goto 4, 3) := by decide +kernel
theorem dX0_isUsed_39 : decode cX0_isUsed 39 = .ok (.iconst 0, 1) := by decide +kernel
theorem dX0_isUsed_40 : decode cX0_isUsed 40 = .ok (.ireturn, 1) := by decide +kernel
theorem dX0_checkpoint_0 : decode cX0_checkpoint 0 = .ok (.iconst 0, 1) := by decide +kernel
theorem dX0_checkpoint_1 : decode cX0_checkpoint 1 = .ok (.istore_n 1, 1) := by decide +kernel
theorem dX0_checkpoint_2 : decode cX0_checkpoint 2 = .ok (.iload_n 1, 1) := by decide +kernel
theorem dX0_checkpoint_3 : decode cX0_checkpoint 3 = .ok (.aload_n 0, 1) := by decide +kernel
theorem dX0_checkpoint_4 : decode cX0_checkpoint 4 = .ok (.getfield 9, 3) := by decide +kernel
theorem dX0_checkpoint_7 : decode cX0_checkpoint 7 = .ok (.if_icmp .ge 28, 3) := by decide +kernel
theorem dX0_checkpoint_10 : decode cX0_checkpoint 10 = .ok (.aload_n 0, 1) := by decide +kernel
theorem dX0_checkpoint_11 : decode cX0_checkpoint 11 = .ok (.getfield 17, 3) := by decide +kernel
theorem dX0_checkpoint_14 : decode cX0_checkpoint 14 = .ok (.iload_n 1, 1) := by decide +kernel
theorem dX0_checkpoint_15 : decode cX0_checkpoint 15 = .ok (.aload_n 0, 1) := by decide +kernel
theorem dX0_checkpoint_16 : decode cX0_checkpoint 16 = .ok (.getfield 13, 3) := by decide +kernel
theorem dX0_checkpoint_19 : decode cX0_checkpoint 19 = .ok (.iload_n 1, 1) := by decide +kernel
theorem dX0_checkpoint_20 : decode cX0_checkpoint 20 = .ok (.iaload, 1) := by decide +kernel
theorem dX0_checkpoint_21 : decode cX0_checkpoint 21 = .ok (.iastore, 1) := by decide +kernel
theorem dX0_checkpoint_22 : decode cX0_checkpoint 22 = .ok (.aload_n 0, 1) := by decide +kernel
theorem dX0_checkpoint_23 : decode cX0_checkpoint 23 = .ok (.getfield 23, 3) := by decide +kernel
theorem dX0_checkpoint_26 : decode cX0_checkpoint 26 = .ok (.iload_n 1, 1) := by decide +kernel
theorem dX0_checkpoint_27 : decode cX0_checkpoint 27 = .ok (.iconst 0, 1) := by decide +kernel
theorem dX0_checkpoint_28 : decode cX0_checkpoint 28 = .ok (.bastore, 1) := by decide +kernel
theorem dX0_checkpoint_29 : decode cX0_checkpoint 29 = .ok (.iinc 1 1, 3) := by decide +kernel
theorem dX0_checkpoint_32 : decode cX0_checkpoint 32 = .ok (.goto (-30), 3) := by decide +kernel
theorem dX0_checkpoint_35 : decode cX0_checkpoint 35 = .ok (.iconst 0, 1) := by decide +kernel
theorem dX0_checkpoint_36 : decode cX0_checkpoint 36 = .ok (.istore_n 1, 1) := by decide +kernel
theorem dX0_checkpoint_37 : decode cX0_checkpoint 37 = .ok (.iload_n 1, 1) := by decide +kernel
theorem dX0_checkpoint_38 : decode cX0_checkpoint 38 = .ok (.bipush 6, 2) := by decide +kernel
theorem dX0_checkpoint_40 : decode cX0_checkpoint 40 = .ok (.if_icmp .ge 23, 3) := by decide +kernel
theorem dX0_checkpoint_43 : decode cX0_checkpoint 43 = .ok (.aload_n 0, 1) := by decide +kernel
theorem dX0_checkpoint_44 : decode cX0_checkpoint 44 = .ok (.aload_n 0, 1) := by decide +kernel
theorem dX0_checkpoint_45 : decode cX0_checkpoint 45 = .ok (.aload_n 0, 1) := by decide +kernel
theorem dX0_checkpoint_46 : decode cX0_checkpoint 46 = .ok (.getfield 27, 3) := by decide +kernel
theorem dX0_checkpoint_49 : decode cX0_checkpoint 49 = .ok (.iload_n 1, 1) := by decide +kernel
theorem dX0_checkpoint_50 : decode cX0_checkpoint 50 = .ok (.iaload, 1) := by decide +kernel
theorem dX0_checkpoint_51 : decode cX0_checkpoint 51 = .ok (.invokevirtual 64, 3) := by decide +kernel
theorem dX0_checkpoint_54 : decode cX0_checkpoint 54 = .ok (.invokevirtual 74, 3) := by decide +kernel
theorem dX0_checkpoint_57 : decode cX0_checkpoint 57 = .ok (.iinc 1 1, 3) := by decide +kernel
theorem dX0_checkpoint_60 : decode cX0_checkpoint 60 = .ok (.goto (-23), 3) := by decide +kernel
theorem dX0_checkpoint_63 : decode cX0_checkpoint 63 = .ok (.aload_n 0, 1) := by decide +kernel
theorem dX0_checkpoint_64 : decode cX0_checkpoint 64 = .ok (.invokevirtual 77, 3) := by decide +kernel
theorem dX0_checkpoint_67 : decode cX0_checkpoint 67 = .ok (.ireturn, 1) := by decide +kernel
theorem dX0_free_0 : decode cX0_free 0 = .ok (.iconst 0, 1) := by decide +kernel
theorem dX0_free_1 : decode cX0_free 1 = .ok (.istore_n 1, 1) := by decide +kernel
theorem dX0_free_2 : decode cX0_free 2 = .ok (.iconst 0, 1) := by decide +kernel
theorem dX0_free_3 : decode cX0_free 3 = .ok (.istore_n 2, 1) := by decide +kernel
theorem dX0_free_4 : decode cX0_free 4 = .ok (.iload_n 2, 1) := by decide +kernel
theorem dX0_free_5 : decode cX0_free 5 = .ok (.aload_n 0, 1) := by decide +kernel
theorem dX0_free_6 : decode cX0_free 6 = .ok (.getfield 9, 3) := by decide +kernel
theorem dX0_free_9 : decode cX0_free 9 = .ok (.if_icmp .ge 20, 3) := by decide +kernel
theorem dX0_free_12 : decode cX0_free 12 = .ok (.aload_n 0, 1) := by decide +kernel
theorem dX0_free_13 : decode cX0_free 13 = .ok (.iload_n 2, 1) := by decide +kernel
theorem dX0_free_14 : decode cX0_free 14 = .ok (.invokevirtual 81, 3) := by decide +kernel
theorem dX0_free_17 : decode cX0_free 17 = .ok (.ifCond .eq 6, 3) := by decide +kernel
theorem dX0_free_20 : decode cX0_free 20 = .ok (.iinc 1 1, 3) := by decide +kernel
theorem dX0_free_23 : decode cX0_free 23 = .ok (.iinc 2 1, 3) := by decide +kernel
theorem dX0_free_26 : decode cX0_free 26 = .ok (.goto (-22), 3) := by decide +kernel
theorem dX0_free_29 : decode cX0_free 29 = .ok (.iload_n 1, 1) := by decide +kernel
theorem dX0_free_30 : decode cX0_free 30 = .ok (.ireturn, 1) := by decide +kernel
theorem dX0_used_0 : decode cX0_used 0 = .ok (.iconst 0, 1) := by decide +kernel
theorem dX0_used_1 : decode cX0_used 1 = .ok (.istore_n 1, 1) := by decide +kernel
theorem dX0_used_2 : decode cX0_used 2 = .ok (.iconst 0, 1) := by decide +kernel
theorem dX0_used_3 : decode cX0_used 3 = .ok (.istore_n 2, 1) := by decide +kernel
theorem dX0_used_4 : decode cX0_used 4 = .ok (.iload_n 2, 1) := by decide +kernel
theorem dX0_used_5 : decode cX0_used 5 = .ok (.aload_n 0, 1) := by decide +kernel
theorem dX0_used_6 : decode cX0_used 6 = .ok (.getfield 9, 3) := by decide +kernel
theorem dX0_used_9 : decode cX0_used 9 = .ok (.if_icmp .ge 21, 3) := by decide +kernel
theorem dX0_used_12 : decode cX0_used 12 = .ok (.iload_n 1, 1) := by decide +kernel
theorem dX0_used_13 : decode cX0_used 13 = .ok (.aload_n 0, 1) := by decide +kernel
theorem dX0_used_14 : decode cX0_used 14 = .ok (.getfield 13, 3) := by decide +kernel
theorem dX0_used_17 : decode cX0_used 17 = .ok (.iload_n 2, 1) := by decide +kernel
theorem dX0_used_18 : decode cX0_used 18 = .ok (.iaload, 1) := by decide +kernel
theorem dX0_used_19 : decode cX0_used 19 = .ok (.invokestatic 84, 3) := by decide +kernel
theorem dX0_used_22 : decode cX0_used 22 = .ok (.iadd, 1) := by decide +kernel
theorem dX0_used_23 : decode cX0_used 23 = .ok (.istore_n 1, 1) := by decide +kernel
theorem dX0_used_24 : decode cX0_used 24 = .ok (.iinc 2 1, 3) := by decide +kernel
theorem dX0_used_27 : decode cX0_used 27 = .ok (.goto (-23), 3) := by decide +kernel
theorem dX0_used_30 : decode cX0_used 30 = .ok (.iload_n 1, 1) := by decide +kernel
theorem dX0_used_31 : decode cX0_used 31 = .ok (.ireturn, 1) := by decide +kernel
theorem dX0_victim_0 : decode cX0_victim 0 = .ok (.iconst (-1), 1) := by decide +kernel
theorem dX0_victim_1 : decode cX0_victim 1 = .ok (.istore_n 2, 1) := by decide +kernel
theorem dX0_victim_2 : decode cX0_victim 2 = .ok (.iconst 0, 1) := by decide +kernel
theorem dX0_victim_3 : decode cX0_victim 3 = .ok (.istore_n 3, 1) := by decide +kernel
theorem dX0_victim_4 : decode cX0_victim 4 = .ok (.iconst 0, 1) := by decide +kernel
theorem dX0_victim_5 : decode cX0_victim 5 = .ok (.istore 4, 2) := by decide +kernel
theorem dX0_victim_7 : decode cX0_victim 7 = .ok (.iload 4, 2) := by decide +kernel
theorem dX0_victim_9 : decode cX0_victim 9 = .ok (.aload_n 0, 1) := by decide +kernel
theorem dX0_victim_10 : decode cX0_victim 10 = .ok (.getfield 9, 3) := by decide +kernel
theorem dX0_victim_13 : decode cX0_victim 13 = .ok (.if_icmp .ge 91, 3) := by decide +kernel
theorem dX0_victim_16 : decode cX0_victim 16 = .ok (.aload_n 0, 1) := by decide +kernel
theorem dX0_victim_17 : decode cX0_victim 17 = .ok (.getfield 13, 3) := by decide +kernel
theorem dX0_victim_20 : decode cX0_victim 20 = .ok (.iload 4, 2) := by decide +kernel
theorem dX0_victim_22 : decode cX0_victim 22 = .ok (.iaload, 1) := by decide +kernel
theorem dX0_victim_23 : decode cX0_victim 23 = .ok (.invokestatic 84, 3) := by decide +kernel
theorem dX0_victim_26 : decode cX0_victim 26 = .ok (.istore 5, 2) := by decide +kernel
theorem dX0_victim_28 : decode cX0_victim 28 = .ok (.aload_n 0, 1) := by decide +kernel
theorem dX0_victim_29 : decode cX0_victim 29 = .ok (.getfield 23, 3) := by decide +kernel
theorem dX0_victim_32 : decode cX0_victim 32 = .ok (.iload 4, 2) := by decide +kernel
theorem dX0_victim_34 : decode cX0_victim 34 = .ok (.baload, 1) := by decide +kernel
theorem dX0_victim_35 : decode cX0_victim 35 = .ok (.ifCond .ne 63, 3) := by decide +kernel
theorem dX0_victim_38 : decode cX0_victim 38 = .ok (.iload 5, 2) := by decide +kernel
theorem dX0_victim_40 : decode cX0_victim 40 = .ok (.iconst 1, 1) := by decide +kernel
theorem dX0_victim_41 : decode cX0_victim 41 = .ok (.if_icmp .lt 57, 3) := by decide +kernel
theorem dX0_victim_44 : decode cX0_victim 44 = .ok (.iload 5, 2) := by decide +kernel
theorem dX0_victim_46 : decode cX0_victim 46 = .ok (.bipush 16, 2) := by decide +kernel
theorem dX0_victim_48 : decode cX0_victim 48 = .ok (.if_icmp .lt 6, 3) := by decide +kernel
theorem dX0_victim_51 : decode cX0_victim 51 = .ok (.goto 47, 3) := by decide +kernel
theorem dX0_victim_54 : decode cX0_victim 54 = .ok (.iload_n 1, 1) := by decide +kernel
theorem dX0_victim_55 : decode cX0_victim 55 = .ok (.ifCond .eq 19, 3) := by decide +kernel
theorem dX0_victim_58 : decode cX0_victim 58 = .ok (.aload_n 0, 1) := by decide +kernel
theorem dX0_victim_59 : decode cX0_victim 59 = .ok (.iload 5, 2) := by decide +kernel
theorem dX0_victim_61 : decode cX0_victim 61 = .ok (.aload_n 0, 1) := by decide +kernel
theorem dX0_victim_62 : decode cX0_victim 62 = .ok (.getfield 20, 3) := by decide +kernel
theorem dX0_victim_65 : decode cX0_victim 65 = .ok (.iload 4, 2) := by decide +kernel
theorem dX0_victim_67 : decode cX0_victim 67 = .ok (.iaload, 1) := by decide +kernel
theorem dX0_victim_68 : decode cX0_victim 68 = .ok (.invokevirtual 89, 3) := by decide +kernel
theorem dX0_victim_71 : decode cX0_victim 71 = .ok (.goto 8, 3) := by decide +kernel
theorem dX0_victim_74 : decode cX0_victim 74 = .ok (.bipush 16, 2) := by decide +kernel
theorem dX0_victim_76 : decode cX0_victim 76 = .ok (.iload 5, 2) := by decide +kernel
theorem dX0_victim_78 : decode cX0_victim 78 = .ok (.isub, 1) := by decide +kernel
theorem dX0_victim_79 : decode cX0_victim 79 = .ok (.istore 6, 2) := by decide +kernel
theorem dX0_victim_81 : decode cX0_victim 81 = .ok (.iload_n 2, 1) := by decide +kernel
theorem dX0_victim_82 : decode cX0_victim 82 = .ok (.iconst (-1), 1) := by decide +kernel
theorem dX0_victim_83 : decode cX0_victim 83 = .ok (.if_icmp .eq 9, 3) := by decide +kernel
theorem dX0_victim_86 : decode cX0_victim 86 = .ok (.iload 6, 2) := by decide +kernel
theorem dX0_victim_88 : decode cX0_victim 88 = .ok (.iload_n 3, 1) := by decide +kernel
theorem dX0_victim_89 : decode cX0_victim 89 = .ok (.if_icmp .le 9, 3) := by decide +kernel
theorem dX0_victim_92 : decode cX0_victim 92 = .ok (.iload 4, 2) := by decide +kernel
theorem dX0_victim_94 : decode cX0_victim 94 = .ok (.istore_n 2, 1) := by decide +kernel
theorem dX0_victim_95 : decode cX0_victim 95 = .ok (.iload 6, 2) := by decide +kernel
theorem dX0_victim_97 : decode cX0_victim 97 = .ok (.istore_n 3, 1) := by decide +kernel
theorem dX0_victim_98 : decode cX0_victim 98 = .ok (.iinc 4 1, 3) := by decide +kernel
theorem dX0_victim_101 : decode cX0_victim 101 = .ok (.goto (-94), 3) := by decide +kernel
theorem dX0_victim_104 : decode cX0_victim 104 = .ok (.iload_n 2, 1) := by decide +kernel
theorem dX0_victim_105 : decode cX0_victim 105 = .ok (.ireturn, 1) := by decide +kernel
theorem dX0_look_0 : decode cX0_look 0 = .ok (.aload_n 0, 1) := by decide +kernel
theorem dX0_look_1 : decode cX0_look 1 = .ok (.iload_n 1, 1) := by decide +kernel
theorem dX0_look_2 : decode cX0_look 2 = .ok (.invokevirtual 93, 3) := by decide +kernel
theorem dX0_look_5 : decode cX0_look 5 = .ok (.ifCond .ne 13, 3) := by decide +kernel
theorem dX0_look_8 : decode cX0_look 8 = .ok (.new 41, 3) := by decide +kernel
theorem dX0_look_11 : decode cX0_look 11 = .ok (.dup, 1) := by decide +kernel
theorem dX0_look_12 : decode cX0_look 12 = .ok (.ldc 96, 2) := by decide +kernel
theorem dX0_look_14 : decode cX0_look 14 = .ok (.invokespecial 45, 3) := by decide +kernel
theorem dX0_look_17 : decode cX0_look 17 = .ok (.athrow, 1) := by decide +kernel
theorem dX0_look_18 : decode cX0_look 18 = .ok (.iload_n 2, 1) := by decide +kernel
theorem dX0_look_19 : decode cX0_look 19 = .ok (.tableswitch 65 0 3 #[29, 36, 43, 50], 29) := by decide +kernel
theorem dX0_look_48 : decode cX0_look 48 = .ok (.aload_n 0, 1) := by decide +kernel
theorem dX0_look_49 : decode cX0_look 49 = .ok (.getfield 13, 3) := by decide +kernel
theorem dX0_look_52 : decode cX0_look 52 = .ok (.iload_n 1, 1) := by decide +kernel
theorem dX0_look_53 : decode cX0_look 53 = .ok (.iaload, 1) := by decide +kernel
theorem dX0_look_54 : decode cX0_look 54 = .ok (.ireturn, 1) := by decide +kernel
theorem dX0_look_55 : decode cX0_look 55 = .ok (.aload_n 0, 1) := by decide +kernel
theorem dX0_look_56 : decode cX0_look 56 = .ok (.getfield 17, 3) := by decide +kernel
theorem dX0_look_59 : decode cX0_look 59 = .ok (.iload_n 1, 1) := by decide +kernel
theorem dX0_look_60 : decode cX0_look 60 = .ok (.iaload, 1) := by decide +kernel
theorem dX0_look_61 : decode cX0_look 61 = .ok (.ireturn, 1) := by decide +kernel
theorem dX0_look_62 : decode cX0_look 62 = .ok (.aload_n 0, 1) := by decide +kernel
theorem dX0_look_63 : decode cX0_look 63 = .ok (.getfield 20, 3) := by decide +kernel
theorem dX0_look_66 : decode cX0_look 66 = .ok (.iload_n 1, 1) := by decide +kernel
theorem dX0_look_67 : decode cX0_look 67 = .ok (.iaload, 1) := by decide +kernel
theorem dX0_look_68 : decode cX0_look 68 = .ok (.ireturn, 1) := by decide +kernel
theorem dX0_look_69 : decode cX0_look 69 = .ok (.aload_n 0, 1) := by decide +kernel
theorem dX0_look_70 : decode cX0_look 70 = .ok (.getfield 23, 3) := by decide +kernel
theorem dX0_look_73 : decode cX0_look 73 = .ok (.iload_n 1, 1) := by decide +kernel
theorem dX0_look_74 : decode cX0_look 74 = .ok (.baload, 1) := by decide +kernel
theorem dX0_look_75 : decode cX0_look 75 = .ok (.ifCond .eq 7, 3) := by decide +kernel
theorem dX0_look_78 : decode cX0_look 78 = .ok (.iconst 1, 1) := by decide +kernel
theorem dX0_look_79 : decode cX0_look 79 = .ok (.goto 4, 3) := by decide +kernel
theorem dX0_look_82 : decode cX0_look 82 = .ok (.iconst 0, 1) := by decide +kernel
theorem dX0_look_83 : decode cX0_look 83 = .ok (.ireturn, 1) := by decide +kernel
theorem dX0_look_84 : decode cX0_look 84 = .ok (.new 41, 3) := by decide +kernel
theorem dX0_look_87 : decode cX0_look 87 = .ok (.dup, 1) := by decide +kernel
theorem dX0_look_88 : decode cX0_look 88 = .ok (.ldc 98, 2) := by decide +kernel
theorem dX0_look_90 : decode cX0_look 90 = .ok (.invokespecial 45, 3) := by decide +kernel
theorem dX0_look_93 : decode cX0_look 93 = .ok (.athrow, 1) := by decide +kernel
theorem dX0_isLog_0 : decode cX0_isLog 0 = .ok (.iload_n 0, 1) := by decide +kernel
theorem dX0_isLog_1 : decode cX0_isLog 1 = .ok (.ifCond .lt 13, 3) := by decide +kernel
theorem dX0_isLog_4 : decode cX0_isLog 4 = .ok (.iload_n 0, 1) := by decide +kernel
theorem dX0_isLog_5 : decode cX0_isLog 5 = .ok (.bipush 6, 2) := by decide +kernel
theorem dX0_isLog_7 : decode cX0_isLog 7 = .ok (.if_icmp .ge 7, 3) := by decide +kernel
theorem dX0_isLog_10 : decode cX0_isLog 10 = .ok (.iconst 1, 1) := by decide +kernel
theorem dX0_isLog_11 : decode cX0_isLog 11 = .ok (.goto 4, 3) := by decide +kernel
theorem dX0_isLog_14 : decode cX0_isLog 14 = .ok (.iconst 0, 1) := by decide +kernel
theorem dX0_isLog_15 : decode cX0_isLog 15 = .ok (.ireturn, 1) := by decide +kernel
theorem dX0_isSegment_0 : decode cX0_isSegment 0 = .ok (.iload_n 1, 1) := by decide +kernel
theorem dX0_isSegment_1 : decode cX0_isSegment 1 = .ok (.ifCond .lt 15, 3) := by decide +kernel
theorem dX0_isSegment_4 : decode cX0_isSegment 4 = .ok (.iload_n 1, 1) := by decide +kernel
theorem dX0_isSegment_5 : decode cX0_isSegment 5 = .ok (.aload_n 0, 1) := by decide +kernel
theorem dX0_isSegment_6 : decode cX0_isSegment 6 = .ok (.getfield 9, 3) := by decide +kernel
theorem dX0_isSegment_9 : decode cX0_isSegment 9 = .ok (.if_icmp .ge 7, 3) := by decide +kernel
theorem dX0_isSegment_12 : decode cX0_isSegment 12 = .ok (.iconst 1, 1) := by decide +kernel
theorem dX0_isSegment_13 : decode cX0_isSegment 13 = .ok (.goto 4, 3) := by decide +kernel
theorem dX0_isSegment_16 : decode cX0_isSegment 16 = .ok (.iconst 0, 1) := by decide +kernel
theorem dX0_isSegment_17 : decode cX0_isSegment 17 = .ok (.ireturn, 1) := by decide +kernel
theorem dX0_firstBlockOf_0 : decode cX0_firstBlockOf 0 = .ok (.bipush 96, 2) := by decide +kernel
theorem dX0_firstBlockOf_2 : decode cX0_firstBlockOf 2 = .ok (.bipush 16, 2) := by decide +kernel
theorem dX0_firstBlockOf_4 : decode cX0_firstBlockOf 4 = .ok (.iload_n 0, 1) := by decide +kernel
theorem dX0_firstBlockOf_5 : decode cX0_firstBlockOf 5 = .ok (.imul, 1) := by decide +kernel
theorem dX0_firstBlockOf_6 : decode cX0_firstBlockOf 6 = .ok (.iadd, 1) := by decide +kernel
theorem dX0_firstBlockOf_7 : decode cX0_firstBlockOf 7 = .ok (.ireturn, 1) := by decide +kernel
theorem dX0_segmentOf_0 : decode cX0_segmentOf 0 = .ok (.iload_n 1, 1) := by decide +kernel
theorem dX0_segmentOf_1 : decode cX0_segmentOf 1 = .ok (.bipush 96, 2) := by decide +kernel
theorem dX0_segmentOf_3 : decode cX0_segmentOf 3 = .ok (.if_icmp .lt 14, 3) := by decide +kernel
theorem dX0_segmentOf_6 : decode cX0_segmentOf 6 = .ok (.iload_n 1, 1) := by decide +kernel
theorem dX0_segmentOf_7 : decode cX0_segmentOf 7 = .ok (.aload_n 0, 1) := by decide +kernel
theorem dX0_segmentOf_8 : decode cX0_segmentOf 8 = .ok (.getfield 9, 3) := by decide +kernel
theorem dX0_segmentOf_11 : decode cX0_segmentOf 11 = .ok (.invokestatic 33, 3) := by decide +kernel
theorem dX0_segmentOf_14 : decode cX0_segmentOf 14 = .ok (.if_icmp .lt 5, 3) := by decide +kernel
theorem dX0_segmentOf_17 : decode cX0_segmentOf 17 = .ok (.iconst (-1), 1) := by decide +kernel
theorem dX0_segmentOf_18 : decode cX0_segmentOf 18 = .ok (.ireturn, 1) := by decide +kernel
theorem dX0_segmentOf_19 : decode cX0_segmentOf 19 = .ok (.iload_n 1, 1) := by decide +kernel
theorem dX0_segmentOf_20 : decode cX0_segmentOf 20 = .ok (.bipush 96, 2) := by decide +kernel
theorem dX0_segmentOf_22 : decode cX0_segmentOf 22 = .ok (.isub, 1) := by decide +kernel
theorem dX0_segmentOf_23 : decode cX0_segmentOf 23 = .ok (.bipush 16, 2) := by decide +kernel
theorem dX0_segmentOf_25 : decode cX0_segmentOf 25 = .ok (.idiv, 1) := by decide +kernel
theorem dX0_segmentOf_26 : decode cX0_segmentOf 26 = .ok (.ireturn, 1) := by decide +kernel
theorem dX0_placeOf_0 : decode cX0_placeOf 0 = .ok (.iload_n 0, 1) := by decide +kernel
theorem dX0_placeOf_1 : decode cX0_placeOf 1 = .ok (.bipush 96, 2) := by decide +kernel
theorem dX0_placeOf_3 : decode cX0_placeOf 3 = .ok (.isub, 1) := by decide +kernel
theorem dX0_placeOf_4 : decode cX0_placeOf 4 = .ok (.bipush 16, 2) := by decide +kernel
theorem dX0_placeOf_6 : decode cX0_placeOf 6 = .ok (.irem, 1) := by decide +kernel
theorem dX0_placeOf_7 : decode cX0_placeOf 7 = .ok (.ireturn, 1) := by decide +kernel
theorem dX0_bitOf_0 : decode cX0_bitOf 0 = .ok (.iconst 1, 1) := by decide +kernel
theorem dX0_bitOf_1 : decode cX0_bitOf 1 = .ok (.iload_n 0, 1) := by decide +kernel
theorem dX0_bitOf_2 : decode cX0_bitOf 2 = .ok (.invokestatic 100, 3) := by decide +kernel
theorem dX0_bitOf_5 : decode cX0_bitOf 5 = .ok (.ishl, 1) := by decide +kernel
theorem dX0_bitOf_6 : decode cX0_bitOf 6 = .ok (.ireturn, 1) := by decide +kernel
theorem dX0_isFree_0 : decode cX0_isFree 0 = .ok (.aload_n 0, 1) := by decide +kernel
theorem dX0_isFree_1 : decode cX0_isFree 1 = .ok (.iload_n 1, 1) := by decide +kernel
theorem dX0_isFree_2 : decode cX0_isFree 2 = .ok (.invokevirtual 93, 3) := by decide +kernel
theorem dX0_isFree_5 : decode cX0_isFree 5 = .ok (.ifCond .eq 34, 3) := by decide +kernel
theorem dX0_isFree_8 : decode cX0_isFree 8 = .ok (.aload_n 0, 1) := by decide +kernel
theorem dX0_isFree_9 : decode cX0_isFree 9 = .ok (.getfield 13, 3) := by decide +kernel
theorem dX0_isFree_12 : decode cX0_isFree 12 = .ok (.iload_n 1, 1) := by decide +kernel
theorem dX0_isFree_13 : decode cX0_isFree 13 = .ok (.iaload, 1) := by decide +kernel
theorem dX0_isFree_14 : decode cX0_isFree 14 = .ok (.ifCond .ne 25, 3) := by decide +kernel
theorem dX0_isFree_17 : decode cX0_isFree 17 = .ok (.aload_n 0, 1) := by decide +kernel
theorem dX0_isFree_18 : decode cX0_isFree 18 = .ok (.getfield 17, 3) := by decide +kernel
theorem dX0_isFree_21 : decode cX0_isFree 21 = .ok (.iload_n 1, 1) := by decide +kernel
theorem dX0_isFree_22 : decode cX0_isFree 22 = .ok (.iaload, 1) := by decide +kernel
theorem dX0_isFree_23 : decode cX0_isFree 23 = .ok (.ifCond .ne 16, 3) := by decide +kernel
theorem dX0_isFree_26 : decode cX0_isFree 26 = .ok (.aload_n 0, 1) := by decide +kernel
theorem dX0_isFree_27 : decode cX0_isFree 27 = .ok (.getfield 23, 3) := by decide +kernel
theorem dX0_isFree_30 : decode cX0_isFree 30 = .ok (.iload_n 1, 1) := by decide +kernel
theorem dX0_isFree_31 : decode cX0_isFree 31 = .ok (.baload, 1) := by decide +kernel
theorem dX0_isFree_32 : decode cX0_isFree 32 = .ok (.ifCond .ne 7, 3) := by decide +kernel
theorem dX0_isFree_35 : decode cX0_isFree 35 = .ok (.iconst 1, 1) := by decide +kernel
theorem dX0_isFree_36 : decode cX0_isFree 36 = .ok (.goto 4, 3) := by decide +kernel
theorem dX0_isFree_39 : decode cX0_isFree 39 = .ok (.iconst 0, 1) := by decide +kernel
theorem dX0_isFree_40 : decode cX0_isFree 40 = .ok (.ireturn, 1) := by decide +kernel
theorem dX0_lowestFree_0 : decode cX0_lowestFree 0 = .ok (.iconst 0, 1) := by decide +kernel
theorem dX0_lowestFree_1 : decode cX0_lowestFree 1 = .ok (.istore_n 1, 1) := by decide +kernel
theorem dX0_lowestFree_2 : decode cX0_lowestFree 2 = .ok (.iload_n 1, 1) := by decide +kernel
theorem dX0_lowestFree_3 : decode cX0_lowestFree 3 = .ok (.aload_n 0, 1) := by decide +kernel
theorem dX0_lowestFree_4 : decode cX0_lowestFree 4 = .ok (.getfield 9, 3) := by decide +kernel
theorem dX0_lowestFree_7 : decode cX0_lowestFree 7 = .ok (.if_icmp .ge 19, 3) := by decide +kernel
theorem dX0_lowestFree_10 : decode cX0_lowestFree 10 = .ok (.aload_n 0, 1) := by decide +kernel
theorem dX0_lowestFree_11 : decode cX0_lowestFree 11 = .ok (.iload_n 1, 1) := by decide +kernel
theorem dX0_lowestFree_12 : decode cX0_lowestFree 12 = .ok (.invokevirtual 81, 3) := by decide +kernel
theorem dX0_lowestFree_15 : decode cX0_lowestFree 15 = .ok (.ifCond .eq 5, 3) := by decide +kernel
theorem dX0_lowestFree_18 : decode cX0_lowestFree 18 = .ok (.iload_n 1, 1) := by decide +kernel
theorem dX0_lowestFree_19 : decode cX0_lowestFree 19 = .ok (.ireturn, 1) := by decide +kernel
theorem dX0_lowestFree_20 : decode cX0_lowestFree 20 = .ok (.iinc 1 1, 3) := by decide +kernel
theorem dX0_lowestFree_23 : decode cX0_lowestFree 23 = .ok (.goto (-21), 3) := by decide +kernel
theorem dX0_lowestFree_26 : decode cX0_lowestFree 26 = .ok (.iconst (-1), 1) := by decide +kernel
theorem dX0_lowestFree_27 : decode cX0_lowestFree 27 = .ok (.ireturn, 1) := by decide +kernel
theorem dX0_blockAfter_0 : decode cX0_blockAfter 0 = .ok (.iload_n 1, 1) := by decide +kernel
theorem dX0_blockAfter_1 : decode cX0_blockAfter 1 = .ok (.invokestatic 100, 3) := by decide +kernel
theorem dX0_blockAfter_4 : decode cX0_blockAfter 4 = .ok (.bipush 15, 2) := by decide +kernel
theorem dX0_blockAfter_6 : decode cX0_blockAfter 6 = .ok (.if_icmp .ge 7, 3) := by decide +kernel
theorem dX0_blockAfter_9 : decode cX0_blockAfter 9 = .ok (.iload_n 1, 1) := by decide +kernel
theorem dX0_blockAfter_10 : decode cX0_blockAfter 10 = .ok (.iconst 1, 1) := by decide +kernel
theorem dX0_blockAfter_11 : decode cX0_blockAfter 11 = .ok (.iadd, 1) := by decide +kernel
theorem dX0_blockAfter_12 : decode cX0_blockAfter 12 = .ok (.ireturn, 1) := by decide +kernel
theorem dX0_blockAfter_13 : decode cX0_blockAfter 13 = .ok (.aload_n 0, 1) := by decide +kernel
theorem dX0_blockAfter_14 : decode cX0_blockAfter 14 = .ok (.invokevirtual 103, 3) := by decide +kernel
theorem dX0_blockAfter_17 : decode cX0_blockAfter 17 = .ok (.istore_n 2, 1) := by decide +kernel
theorem dX0_blockAfter_18 : decode cX0_blockAfter 18 = .ok (.iload_n 2, 1) := by decide +kernel
theorem dX0_blockAfter_19 : decode cX0_blockAfter 19 = .ok (.iconst (-1), 1) := by decide +kernel
theorem dX0_blockAfter_20 : decode cX0_blockAfter 20 = .ok (.if_icmp .ne 7, 3) := by decide +kernel
theorem dX0_blockAfter_23 : decode cX0_blockAfter 23 = .ok (.iconst (-1), 1) := by decide +kernel
theorem dX0_blockAfter_24 : decode cX0_blockAfter 24 = .ok (.goto 7, 3) := by decide +kernel
theorem dX0_blockAfter_27 : decode cX0_blockAfter 27 = .ok (.iload_n 2, 1) := by decide +kernel
theorem dX0_blockAfter_28 : decode cX0_blockAfter 28 = .ok (.invokestatic 33, 3) := by decide +kernel
theorem dX0_blockAfter_31 : decode cX0_blockAfter 31 = .ok (.ireturn, 1) := by decide +kernel
theorem dX0_putInUse_0 : decode cX0_putInUse 0 = .ok (.aload_n 0, 1) := by decide +kernel
theorem dX0_putInUse_1 : decode cX0_putInUse 1 = .ok (.iload_n 1, 1) := by decide +kernel
theorem dX0_putInUse_2 : decode cX0_putInUse 2 = .ok (.invokevirtual 64, 3) := by decide +kernel
theorem dX0_putInUse_5 : decode cX0_putInUse 5 = .ok (.istore_n 2, 1) := by decide +kernel
theorem dX0_putInUse_6 : decode cX0_putInUse 6 = .ok (.iload_n 2, 1) := by decide +kernel
theorem dX0_putInUse_7 : decode cX0_putInUse 7 = .ok (.iconst (-1), 1) := by decide +kernel
theorem dX0_putInUse_8 : decode cX0_putInUse 8 = .ok (.if_icmp .ne 4, 3) := by decide +kernel
theorem dX0_putInUse_11 : decode cX0_putInUse 11 = .ok (.return_, 1) := by decide +kernel
theorem dX0_putInUse_12 : decode cX0_putInUse 12 = .ok (.aload_n 0, 1) := by decide +kernel
theorem dX0_putInUse_13 : decode cX0_putInUse 13 = .ok (.dup, 1) := by decide +kernel
theorem dX0_putInUse_14 : decode cX0_putInUse 14 = .ok (.getfield 30, 3) := by decide +kernel
theorem dX0_putInUse_17 : decode cX0_putInUse 17 = .ok (.iconst 1, 1) := by decide +kernel
theorem dX0_putInUse_18 : decode cX0_putInUse 18 = .ok (.iadd, 1) := by decide +kernel
theorem dX0_putInUse_19 : decode cX0_putInUse 19 = .ok (.putfield 30, 3) := by decide +kernel
theorem dX0_putInUse_22 : decode cX0_putInUse 22 = .ok (.aload_n 0, 1) := by decide +kernel
theorem dX0_putInUse_23 : decode cX0_putInUse 23 = .ok (.getfield 13, 3) := by decide +kernel
theorem dX0_putInUse_26 : decode cX0_putInUse 26 = .ok (.iload_n 2, 1) := by decide +kernel
theorem dX0_putInUse_27 : decode cX0_putInUse 27 = .ok (.dup2, 1) := by decide +kernel
theorem dX0_putInUse_28 : decode cX0_putInUse 28 = .ok (.iaload, 1) := by decide +kernel
theorem dX0_putInUse_29 : decode cX0_putInUse 29 = .ok (.iload_n 1, 1) := by decide +kernel
theorem dX0_putInUse_30 : decode cX0_putInUse 30 = .ok (.invokestatic 69, 3) := by decide +kernel
theorem dX0_putInUse_33 : decode cX0_putInUse 33 = .ok (.ior, 1) := by decide +kernel
theorem dX0_putInUse_34 : decode cX0_putInUse 34 = .ok (.iastore, 1) := by decide +kernel
theorem dX0_putInUse_35 : decode cX0_putInUse 35 = .ok (.aload_n 0, 1) := by decide +kernel
theorem dX0_putInUse_36 : decode cX0_putInUse 36 = .ok (.getfield 20, 3) := by decide +kernel
theorem dX0_putInUse_39 : decode cX0_putInUse 39 = .ok (.iload_n 2, 1) := by decide +kernel
theorem dX0_putInUse_40 : decode cX0_putInUse 40 = .ok (.aload_n 0, 1) := by decide +kernel
theorem dX0_putInUse_41 : decode cX0_putInUse 41 = .ok (.getfield 30, 3) := by decide +kernel
theorem dX0_putInUse_44 : decode cX0_putInUse 44 = .ok (.iastore, 1) := by decide +kernel
theorem dX0_putInUse_45 : decode cX0_putInUse 45 = .ok (.return_, 1) := by decide +kernel
theorem dX0_moveLog_0 : decode cX0_moveLog 0 = .ok (.iload_n 1, 1) := by decide +kernel
theorem dX0_moveLog_1 : decode cX0_moveLog 1 = .ok (.invokestatic 37, 3) := by decide +kernel
theorem dX0_moveLog_4 : decode cX0_moveLog 4 = .ok (.ifCond .eq 19, 3) := by decide +kernel
theorem dX0_moveLog_7 : decode cX0_moveLog 7 = .ok (.aload_n 0, 1) := by decide +kernel
theorem dX0_moveLog_8 : decode cX0_moveLog 8 = .ok (.getfield 27, 3) := by decide +kernel
theorem dX0_moveLog_11 : decode cX0_moveLog 11 = .ok (.iload_n 1, 1) := by decide +kernel
theorem dX0_moveLog_12 : decode cX0_moveLog 12 = .ok (.iload_n 2, 1) := by decide +kernel
theorem dX0_moveLog_13 : decode cX0_moveLog 13 = .ok (.iastore, 1) := by decide +kernel
theorem dX0_moveLog_14 : decode cX0_moveLog 14 = .ok (.aload_n 0, 1) := by decide +kernel
theorem dX0_moveLog_15 : decode cX0_moveLog 15 = .ok (.aload_n 0, 1) := by decide +kernel
theorem dX0_moveLog_16 : decode cX0_moveLog 16 = .ok (.iload_n 2, 1) := by decide +kernel
theorem dX0_moveLog_17 : decode cX0_moveLog 17 = .ok (.invokevirtual 64, 3) := by decide +kernel
theorem dX0_moveLog_20 : decode cX0_moveLog 20 = .ok (.invokevirtual 74, 3) := by decide +kernel
theorem dX0_moveLog_23 : decode cX0_moveLog 23 = .ok (.return_, 1) := by decide +kernel
theorem dX0_markTaken_0 : decode cX0_markTaken 0 = .ok (.aload_n 0, 1) := by decide +kernel
theorem dX0_markTaken_1 : decode cX0_markTaken 1 = .ok (.iload_n 1, 1) := by decide +kernel
theorem dX0_markTaken_2 : decode cX0_markTaken 2 = .ok (.invokevirtual 93, 3) := by decide +kernel
theorem dX0_markTaken_5 : decode cX0_markTaken 5 = .ok (.ifCond .eq 10, 3) := by decide +kernel
theorem dX0_markTaken_8 : decode cX0_markTaken 8 = .ok (.aload_n 0, 1) := by decide +kernel
theorem dX0_markTaken_9 : decode cX0_markTaken 9 = .ok (.getfield 23, 3) := by decide +kernel
theorem dX0_markTaken_12 : decode cX0_markTaken 12 = .ok (.iload_n 1, 1) := by decide +kernel
theorem dX0_markTaken_13 : decode cX0_markTaken 13 = .ok (.iconst 1, 1) := by decide +kernel
theorem dX0_markTaken_14 : decode cX0_markTaken 14 = .ok (.bastore, 1) := by decide +kernel
theorem dX0_markTaken_15 : decode cX0_markTaken 15 = .ok (.return_, 1) := by decide +kernel
theorem dX0_gentleWorth_0 : decode cX0_gentleWorth 0 = .ok (.bipush 16, 2) := by decide +kernel
theorem dX0_gentleWorth_2 : decode cX0_gentleWorth 2 = .ok (.iload_n 1, 1) := by decide +kernel
theorem dX0_gentleWorth_3 : decode cX0_gentleWorth 3 = .ok (.isub, 1) := by decide +kernel
theorem dX0_gentleWorth_4 : decode cX0_gentleWorth 4 = .ok (.aload_n 0, 1) := by decide +kernel
theorem dX0_gentleWorth_5 : decode cX0_gentleWorth 5 = .ok (.getfield 30, 3) := by decide +kernel
theorem dX0_gentleWorth_8 : decode cX0_gentleWorth 8 = .ok (.iload_n 2, 1) := by decide +kernel
theorem dX0_gentleWorth_9 : decode cX0_gentleWorth 9 = .ok (.isub, 1) := by decide +kernel
theorem dX0_gentleWorth_10 : decode cX0_gentleWorth 10 = .ok (.iconst 1, 1) := by decide +kernel
theorem dX0_gentleWorth_11 : decode cX0_gentleWorth 11 = .ok (.iadd, 1) := by decide +kernel
theorem dX0_gentleWorth_12 : decode cX0_gentleWorth 12 = .ok (.imul, 1) := by decide +kernel
theorem dX0_gentleWorth_13 : decode cX0_gentleWorth 13 = .ok (.iload_n 1, 1) := by decide +kernel
theorem dX0_gentleWorth_14 : decode cX0_gentleWorth 14 = .ok (.bipush 16, 2) := by decide +kernel
theorem dX0_gentleWorth_16 : decode cX0_gentleWorth 16 = .ok (.iadd, 1) := by decide +kernel
theorem dX0_gentleWorth_17 : decode cX0_gentleWorth 17 = .ok (.idiv, 1) := by decide +kernel
theorem dX0_gentleWorth_18 : decode cX0_gentleWorth 18 = .ok (.ireturn, 1) := by decide +kernel
theorem dJ6_bitCount_0f7a4_0 : decode cJ6_bitCount_0f7a4 0 = .ok (.iload_n 0, 1) := by decide +kernel
theorem dJ6_bitCount_0f7a4_1 : decode cJ6_bitCount_0f7a4 1 = .ok (.iload_n 0, 1) := by decide +kernel
theorem dJ6_bitCount_0f7a4_2 : decode cJ6_bitCount_0f7a4 2 = .ok (.iconst 1, 1) := by decide +kernel
theorem dJ6_bitCount_0f7a4_3 : decode cJ6_bitCount_0f7a4 3 = .ok (.iushr, 1) := by decide +kernel
theorem dJ6_bitCount_0f7a4_4 : decode cJ6_bitCount_0f7a4 4 = .ok (.ldc_w 265, 3) := by decide +kernel
theorem dJ6_bitCount_0f7a4_7 : decode cJ6_bitCount_0f7a4 7 = .ok (.iand, 1) := by decide +kernel
theorem dJ6_bitCount_0f7a4_8 : decode cJ6_bitCount_0f7a4 8 = .ok (.isub, 1) := by decide +kernel
theorem dJ6_bitCount_0f7a4_9 : decode cJ6_bitCount_0f7a4 9 = .ok (.istore_n 0, 1) := by decide +kernel
theorem dJ6_bitCount_0f7a4_10 : decode cJ6_bitCount_0f7a4 10 = .ok (.iload_n 0, 1) := by decide +kernel
theorem dJ6_bitCount_0f7a4_11 : decode cJ6_bitCount_0f7a4 11 = .ok (.ldc_w 266, 3) := by decide +kernel
theorem dJ6_bitCount_0f7a4_14 : decode cJ6_bitCount_0f7a4 14 = .ok (.iand, 1) := by decide +kernel
theorem dJ6_bitCount_0f7a4_15 : decode cJ6_bitCount_0f7a4 15 = .ok (.iload_n 0, 1) := by decide +kernel
theorem dJ6_bitCount_0f7a4_16 : decode cJ6_bitCount_0f7a4 16 = .ok (.iconst 2, 1) := by decide +kernel
theorem dJ6_bitCount_0f7a4_17 : decode cJ6_bitCount_0f7a4 17 = .ok (.iushr, 1) := by decide +kernel
theorem dJ6_bitCount_0f7a4_18 : decode cJ6_bitCount_0f7a4 18 = .ok (.ldc_w 266, 3) := by decide +kernel
theorem dJ6_bitCount_0f7a4_21 : decode cJ6_bitCount_0f7a4 21 = .ok (.iand, 1) := by decide +kernel
theorem dJ6_bitCount_0f7a4_22 : decode cJ6_bitCount_0f7a4 22 = .ok (.iadd, 1) := by decide +kernel
theorem dJ6_bitCount_0f7a4_23 : decode cJ6_bitCount_0f7a4 23 = .ok (.istore_n 0, 1) := by decide +kernel
theorem dJ6_bitCount_0f7a4_24 : decode cJ6_bitCount_0f7a4 24 = .ok (.iload_n 0, 1) := by decide +kernel
theorem dJ6_bitCount_0f7a4_25 : decode cJ6_bitCount_0f7a4 25 = .ok (.iload_n 0, 1) := by decide +kernel
theorem dJ6_bitCount_0f7a4_26 : decode cJ6_bitCount_0f7a4 26 = .ok (.iconst 4, 1) := by decide +kernel
theorem dJ6_bitCount_0f7a4_27 : decode cJ6_bitCount_0f7a4 27 = .ok (.iushr, 1) := by decide +kernel
theorem dJ6_bitCount_0f7a4_28 : decode cJ6_bitCount_0f7a4 28 = .ok (.iadd, 1) := by decide +kernel
theorem dJ6_bitCount_0f7a4_29 : decode cJ6_bitCount_0f7a4 29 = .ok (.ldc_w 267, 3) := by decide +kernel
theorem dJ6_bitCount_0f7a4_32 : decode cJ6_bitCount_0f7a4 32 = .ok (.iand, 1) := by decide +kernel
theorem dJ6_bitCount_0f7a4_33 : decode cJ6_bitCount_0f7a4 33 = .ok (.istore_n 0, 1) := by decide +kernel
theorem dJ6_bitCount_0f7a4_34 : decode cJ6_bitCount_0f7a4 34 = .ok (.iload_n 0, 1) := by decide +kernel
theorem dJ6_bitCount_0f7a4_35 : decode cJ6_bitCount_0f7a4 35 = .ok (.iload_n 0, 1) := by decide +kernel
theorem dJ6_bitCount_0f7a4_36 : decode cJ6_bitCount_0f7a4 36 = .ok (.bipush 8, 2) := by decide +kernel
theorem dJ6_bitCount_0f7a4_38 : decode cJ6_bitCount_0f7a4 38 = .ok (.iushr, 1) := by decide +kernel
theorem dJ6_bitCount_0f7a4_39 : decode cJ6_bitCount_0f7a4 39 = .ok (.iadd, 1) := by decide +kernel
theorem dJ6_bitCount_0f7a4_40 : decode cJ6_bitCount_0f7a4 40 = .ok (.istore_n 0, 1) := by decide +kernel
theorem dJ6_bitCount_0f7a4_41 : decode cJ6_bitCount_0f7a4 41 = .ok (.iload_n 0, 1) := by decide +kernel
theorem dJ6_bitCount_0f7a4_42 : decode cJ6_bitCount_0f7a4 42 = .ok (.iload_n 0, 1) := by decide +kernel
theorem dJ6_bitCount_0f7a4_43 : decode cJ6_bitCount_0f7a4 43 = .ok (.bipush 16, 2) := by decide +kernel
theorem dJ6_bitCount_0f7a4_45 : decode cJ6_bitCount_0f7a4 45 = .ok (.iushr, 1) := by decide +kernel
theorem dJ6_bitCount_0f7a4_46 : decode cJ6_bitCount_0f7a4 46 = .ok (.iadd, 1) := by decide +kernel
theorem dJ6_bitCount_0f7a4_47 : decode cJ6_bitCount_0f7a4 47 = .ok (.istore_n 0, 1) := by decide +kernel
theorem dJ6_bitCount_0f7a4_48 : decode cJ6_bitCount_0f7a4 48 = .ok (.iload_n 0, 1) := by decide +kernel
theorem dJ6_bitCount_0f7a4_49 : decode cJ6_bitCount_0f7a4 49 = .ok (.bipush 63, 2) := by decide +kernel
theorem dJ6_bitCount_0f7a4_51 : decode cJ6_bitCount_0f7a4 51 = .ok (.iand, 1) := by decide +kernel
theorem dJ6_bitCount_0f7a4_52 : decode cJ6_bitCount_0f7a4 52 = .ok (.ireturn, 1) := by decide +kernel
