theorem dX8_highest_12 : decode cX8_highest 12 = .ok (.aload_n 0, 1) := by decide +kernel
theorem dX8_highest_13 : decode cX8_highest 13 = .ok (.iload_n 1, 1) := by decide +kernel
theorem dX8_highest_14 : decode cX8_highest 14 = .ok (.iload_n 2, 1) := by decide +kernel
theorem dX8_highest_15 : decode cX8_highest 15 = .ok (.invokevirtual 140, 3) := by decide +kernel
theorem dX8_highest_18 : decode cX8_highest 18 = .ok (.ifCond .ne 9, 3) := by decide +kernel
theorem dX8_highest_21 : decode cX8_highest 21 = .ok (.iinc 2 (-1), 3) := by decide +kernel
theorem dX8_highest_24 : decode cX8_highest 24 = .ok (.goto (-16), 3) := by decide +kernel
theorem dX8_highest_27 : decode cX8_highest 27 = .ok (.iload_n 2, 1) := by decide +kernel
theorem dX8_highest_28 : decode cX8_highest 28 = .ok (.ireturn, 1) := by decide +kernel
theorem dX8_told_0 : decode cX8_told 0 = .ok (.iload_n 1, 1) := by decide +kernel
theorem dX8_told_1 : decode cX8_told 1 = .ok (.invokestatic 149, 3) := by decide +kernel
theorem dX8_told_4 : decode cX8_told 4 = .ok (.ifCond .eq 15, 3) := by decide +kernel
theorem dX8_told_7 : decode cX8_told 7 = .ok (.iload_n 2, 1) := by decide +kernel
theorem dX8_told_8 : decode cX8_told 8 = .ok (.i2l, 1) := by decide +kernel
theorem dX8_told_9 : decode cX8_told 9 = .ok (.lconst 0, 1) := by decide +kernel
theorem dX8_told_10 : decode cX8_told 10 = .ok (.ldc2_w 133, 3) := by decide +kernel
theorem dX8_told_13 : decode cX8_told 13 = .ok (.invokestatic 104, 3) := by decide +kernel
theorem dX8_told_16 : decode cX8_told 16 = .ok (.ifCond .ne 6, 3) := by decide +kernel
theorem dX8_told_19 : decode cX8_told 19 = .ok (.bipush (-2), 2) := by decide +kernel
theorem dX8_told_21 : decode cX8_told 21 = .ok (.ireturn, 1) := by decide +kernel
theorem dX8_told_22 : decode cX8_told 22 = .ok (.aload_n 0, 1) := by decide +kernel
theorem dX8_told_23 : decode cX8_told 23 = .ok (.iload_n 1, 1) := by decide +kernel
theorem dX8_told_24 : decode cX8_told 24 = .ok (.invokevirtual 159, 3) := by decide +kernel
theorem dX8_told_27 : decode cX8_told 27 = .ok (.ifCond .eq 6, 3) := by decide +kernel
theorem dX8_told_30 : decode cX8_told 30 = .ok (.bipush (-11), 2) := by decide +kernel
theorem dX8_told_32 : decode cX8_told 32 = .ok (.ireturn, 1) := by decide +kernel
theorem dX8_told_33 : decode cX8_told 33 = .ok (.iload_n 2, 1) := by decide +kernel
theorem dX8_told_34 : decode cX8_told 34 = .ok (.ifCond .ne 12, 3) := by decide +kernel
theorem dX8_told_37 : decode cX8_told 37 = .ok (.aload_n 0, 1) := by decide +kernel
theorem dX8_told_38 : decode cX8_told 38 = .ok (.getfield 28, 3) := by decide +kernel
theorem dX8_told_41 : decode cX8_told 41 = .ok (.iload_n 1, 1) := by decide +kernel
theorem dX8_told_42 : decode cX8_told 42 = .ok (.iaload, 1) := by decide +kernel
theorem dX8_told_43 : decode cX8_told 43 = .ok (.goto 42, 3) := by decide +kernel
theorem dX8_told_46 : decode cX8_told 46 = .ok (.iload_n 2, 1) := by decide +kernel
theorem dX8_told_47 : decode cX8_told 47 = .ok (.iconst 1, 1) := by decide +kernel
theorem dX8_told_48 : decode cX8_told 48 = .ok (.if_icmp .ne 19, 3) := by decide +kernel
theorem dX8_told_51 : decode cX8_told 51 = .ok (.aload_n 0, 1) := by decide +kernel
theorem dX8_told_52 : decode cX8_told 52 = .ok (.iload_n 1, 1) := by decide +kernel
theorem dX8_told_53 : decode cX8_told 53 = .ok (.invokevirtual 165, 3) := by decide +kernel
theorem dX8_told_56 : decode cX8_told 56 = .ok (.ifCond .eq 7, 3) := by decide +kernel
theorem dX8_told_59 : decode cX8_told 59 = .ok (.iconst 1, 1) := by decide +kernel
theorem dX8_told_60 : decode cX8_told 60 = .ok (.goto 25, 3) := by decide +kernel
theorem dX8_told_63 : decode cX8_told 63 = .ok (.iconst 0, 1) := by decide +kernel
theorem dX8_told_64 : decode cX8_told 64 = .ok (.goto 21, 3) := by decide +kernel
theorem dX8_told_67 : decode cX8_told 67 = .ok (.iload_n 2, 1) := by decide +kernel
theorem dX8_told_68 : decode cX8_told 68 = .ok (.iconst 2, 1) := by decide +kernel
theorem dX8_told_69 : decode cX8_told 69 = .ok (.if_icmp .ne 11, 3) := by decide +kernel
theorem dX8_told_72 : decode cX8_told 72 = .ok (.aload_n 0, 1) := by decide +kernel
theorem dX8_told_73 : decode cX8_told 73 = .ok (.iload_n 1, 1) := by decide +kernel
theorem dX8_told_74 : decode cX8_told 74 = .ok (.invokevirtual 146, 3) := by decide +kernel
theorem dX8_told_77 : decode cX8_told 77 = .ok (.goto 8, 3) := by decide +kernel
theorem dX8_told_80 : decode cX8_told 80 = .ok (.aload_n 0, 1) := by decide +kernel
theorem dX8_told_81 : decode cX8_told 81 = .ok (.iload_n 1, 1) := by decide +kernel
theorem dX8_told_82 : decode cX8_told 82 = .ok (.invokevirtual 168, 3) := by decide +kernel
theorem dX8_told_85 : decode cX8_told 85 = .ok (.ireturn, 1) := by decide +kernel
theorem dX8_at_0 : decode cX8_at 0 = .ok (.aload_n 0, 1) := by decide +kernel
theorem dX8_at_1 : decode cX8_at 1 = .ok (.iload_n 1, 1) := by decide +kernel
theorem dX8_at_2 : decode cX8_at 2 = .ok (.iload_n 2, 1) := by decide +kernel
theorem dX8_at_3 : decode cX8_at 3 = .ok (.iconst 1, 1) := by decide +kernel
theorem dX8_at_4 : decode cX8_at 4 = .ok (.invokevirtual 171, 3) := by decide +kernel
theorem dX8_at_7 : decode cX8_at 7 = .ok (.istore_n 3, 1) := by decide +kernel
theorem dX8_at_8 : decode cX8_at 8 = .ok (.iload_n 3, 1) := by decide +kernel
theorem dX8_at_9 : decode cX8_at 9 = .ok (.ifCond .eq 7, 3) := by decide +kernel
theorem dX8_at_12 : decode cX8_at 12 = .ok (.iload_n 3, 1) := by decide +kernel
theorem dX8_at_13 : decode cX8_at 13 = .ok (.goto 9, 3) := by decide +kernel
theorem dX8_at_16 : decode cX8_at 16 = .ok (.aload_n 0, 1) := by decide +kernel
theorem dX8_at_17 : decode cX8_at 17 = .ok (.iload_n 1, 1) := by decide +kernel
theorem dX8_at_18 : decode cX8_at 18 = .ok (.iload_n 2, 1) := by decide +kernel
theorem dX8_at_19 : decode cX8_at 19 = .ok (.invokevirtual 140, 3) := by decide +kernel
theorem dX8_at_22 : decode cX8_at 22 = .ok (.ireturn, 1) := by decide +kernel
theorem dX8_value_0 : decode cX8_value 0 = .ok (.aload_n 0, 1) := by decide +kernel
theorem dX8_value_1 : decode cX8_value 1 = .ok (.iload_n 1, 1) := by decide +kernel
theorem dX8_value_2 : decode cX8_value 2 = .ok (.invokevirtual 162, 3) := by decide +kernel
theorem dX8_value_5 : decode cX8_value 5 = .ok (.ifCond .eq 9, 3) := by decide +kernel
theorem dX8_value_8 : decode cX8_value 8 = .ok (.ldc2_w 127, 3) := by decide +kernel
theorem dX8_value_11 : decode cX8_value 11 = .ok (.goto 8, 3) := by decide +kernel
theorem dX8_value_14 : decode cX8_value 14 = .ok (.aload_n 0, 1) := by decide +kernel
theorem dX8_value_15 : decode cX8_value 15 = .ok (.iload_n 1, 1) := by decide +kernel
theorem dX8_value_16 : decode cX8_value 16 = .ok (.invokevirtual 174, 3) := by decide +kernel
theorem dX8_value_19 : decode cX8_value 19 = .ok (.lreturn, 1) := by decide +kernel
theorem dX8_moves_0 : decode cX8_moves 0 = .ok (.aload_n 0, 1) := by decide +kernel
theorem dX8_moves_1 : decode cX8_moves 1 = .ok (.getfield 37, 3) := by decide +kernel
theorem dX8_moves_4 : decode cX8_moves 4 = .ok (.iload_n 2, 1) := by decide +kernel
theorem dX8_moves_5 : decode cX8_moves 5 = .ok (.aload_n 0, 1) := by decide +kernel
theorem dX8_moves_6 : decode cX8_moves 6 = .ok (.getfield 37, 3) := by decide +kernel
theorem dX8_moves_9 : decode cX8_moves 9 = .ok (.iload_n 1, 1) := by decide +kernel
theorem dX8_moves_10 : decode cX8_moves 10 = .ok (.iaload, 1) := by decide +kernel
theorem dX8_moves_11 : decode cX8_moves 11 = .ok (.iastore, 1) := by decide +kernel
theorem dX8_moves_12 : decode cX8_moves 12 = .ok (.iconst 0, 1) := by decide +kernel
theorem dX8_moves_13 : decode cX8_moves 13 = .ok (.istore_n 3, 1) := by decide +kernel
theorem dX8_moves_14 : decode cX8_moves 14 = .ok (.iload_n 3, 1) := by decide +kernel
theorem dX8_moves_15 : decode cX8_moves 15 = .ok (.bipush 50, 2) := by decide +kernel
theorem dX8_moves_17 : decode cX8_moves 17 = .ok (.if_icmp .ge 31, 3) := by decide +kernel
theorem dX8_moves_20 : decode cX8_moves 20 = .ok (.aload_n 0, 1) := by decide +kernel
theorem dX8_moves_21 : decode cX8_moves 21 = .ok (.getfield 40, 3) := by decide +kernel
theorem dX8_moves_24 : decode cX8_moves 24 = .ok (.bipush 50, 2) := by decide +kernel
theorem dX8_moves_26 : decode cX8_moves 26 = .ok (.iload_n 2, 1) := by decide +kernel
theorem dX8_moves_27 : decode cX8_moves 27 = .ok (.imul, 1) := by decide +kernel
theorem dX8_moves_28 : decode cX8_moves 28 = .ok (.iload_n 3, 1) := by decide +kernel
theorem dX8_moves_29 : decode cX8_moves 29 = .ok (.iadd, 1) := by decide +kernel
theorem dX8_moves_30 : decode cX8_moves 30 = .ok (.aload_n 0, 1) := by decide +kernel
theorem dX8_moves_31 : decode cX8_moves 31 = .ok (.getfield 40, 3) := by decide +kernel
theorem dX8_moves_34 : decode cX8_moves 34 = .ok (.bipush 50, 2) := by decide +kernel
theorem dX8_moves_36 : decode cX8_moves 36 = .ok (.iload_n 1, 1) := by decide +kernel
theorem dX8_moves_37 : decode cX8_moves 37 = .ok (.imul, 1) := by decide +kernel
theorem dX8_moves_38 : decode cX8_moves 38 = .ok (.iload_n 3, 1) := by decide +kernel
theorem dX8_moves_39 : decode cX8_moves 39 = .ok (.iadd, 1) := by decide +kernel
theorem dX8_moves_40 : decode cX8_moves 40 = .ok (.iaload, 1) := by decide +kernel
theorem dX8_moves_41 : decode cX8_moves 41 = .ok (.iastore, 1) := by decide +kernel
theorem dX8_moves_42 : decode cX8_moves 42 = .ok (.iinc 3 1, 3) := by decide +kernel
theorem dX8_moves_45 : decode cX8_moves 45 = .ok (.goto (-31), 3) := by decide +kernel
theorem dX8_moves_48 : decode cX8_moves 48 = .ok (.return_, 1) := by decide +kernel
theorem dX8_does_0 : decode cX8_does 0 = .ok (.aload_n 0, 1) := by decide +kernel
theorem dX8_does_1 : decode cX8_does 1 = .ok (.getfield 178, 3) := by decide +kernel
theorem dX8_does_4 : decode cX8_does 4 = .ok (.bipush 12, 2) := by decide +kernel
theorem dX8_does_6 : decode cX8_does 6 = .ok (.if_icmp .ne 35, 3) := by decide +kernel
theorem dX8_does_9 : decode cX8_does 9 = .ok (.iconst 1, 1) := by decide +kernel
theorem dX8_does_10 : decode cX8_does 10 = .ok (.istore_n 2, 1) := by decide +kernel
theorem dX8_does_11 : decode cX8_does 11 = .ok (.iload_n 2, 1) := by decide +kernel
theorem dX8_does_12 : decode cX8_does 12 = .ok (.bipush 12, 2) := by decide +kernel
theorem dX8_does_14 : decode cX8_does 14 = .ok (.if_icmp .ge 17, 3) := by decide +kernel
theorem dX8_does_17 : decode cX8_does 17 = .ok (.aload_n 0, 1) := by decide +kernel
theorem dX8_does_18 : decode cX8_does 18 = .ok (.iload_n 2, 1) := by decide +kernel
theorem dX8_does_19 : decode cX8_does 19 = .ok (.iload_n 2, 1) := by decide +kernel
theorem dX8_does_20 : decode cX8_does 20 = .ok (.iconst 1, 1) := by decide +kernel
theorem dX8_does_21 : decode cX8_does 21 = .ok (.isub, 1) := by decide +kernel
theorem dX8_does_22 : decode cX8_does 22 = .ok (.invokevirtual 182, 3) := by decide +kernel
theorem dX8_does_25 : decode cX8_does 25 = .ok (.iinc 2 1, 3) := by decide +kernel
theorem dX8_does_28 : decode cX8_does 28 = .ok (.goto (-17), 3) := by decide +kernel
theorem dX8_does_31 : decode cX8_does 31 = .ok (.aload_n 0, 1) := by decide +kernel
theorem dX8_does_32 : decode cX8_does 32 = .ok (.dup, 1) := by decide +kernel
theorem dX8_does_33 : decode cX8_does 33 = .ok (.getfield 178, 3) := by decide +kernel
theorem dX8_does_36 : decode cX8_does 36 = .ok (.iconst 1, 1) := by decide +kernel
theorem dX8_does_37 : decode cX8_does 37 = .ok (.isub, 1) := by decide +kernel
theorem dX8_does_38 : decode cX8_does 38 = .ok (.putfield 178, 3) := by decide +kernel
theorem dX8_does_41 : decode cX8_does 41 = .ok (.aload_n 0, 1) := by decide +kernel
theorem dX8_does_42 : decode cX8_does 42 = .ok (.getfield 37, 3) := by decide +kernel
theorem dX8_does_45 : decode cX8_does 45 = .ok (.aload_n 0, 1) := by decide +kernel
theorem dX8_does_46 : decode cX8_does 46 = .ok (.getfield 178, 3) := by decide +kernel
theorem dX8_does_49 : decode cX8_does 49 = .ok (.iload_n 1, 1) := by decide +kernel
theorem dX8_does_50 : decode cX8_does 50 = .ok (.iastore, 1) := by decide +kernel
theorem dX8_does_51 : decode cX8_does 51 = .ok (.iconst 0, 1) := by decide +kernel
theorem dX8_does_52 : decode cX8_does 52 = .ok (.istore_n 2, 1) := by decide +kernel
theorem dX8_does_53 : decode cX8_does 53 = .ok (.iload_n 2, 1) := by decide +kernel
theorem dX8_does_54 : decode cX8_does 54 = .ok (.bipush 50, 2) := by decide +kernel
theorem dX8_does_56 : decode cX8_does 56 = .ok (.if_icmp .ge 29, 3) := by decide +kernel
theorem dX8_does_59 : decode cX8_does 59 = .ok (.aload_n 0, 1) := by decide +kernel
theorem dX8_does_60 : decode cX8_does 60 = .ok (.getfield 40, 3) := by decide +kernel
theorem dX8_does_63 : decode cX8_does 63 = .ok (.bipush 50, 2) := by decide +kernel
theorem dX8_does_65 : decode cX8_does 65 = .ok (.aload_n 0, 1) := by decide +kernel
theorem dX8_does_66 : decode cX8_does 66 = .ok (.getfield 178, 3) := by decide +kernel
theorem dX8_does_69 : decode cX8_does 69 = .ok (.imul, 1) := by decide +kernel
theorem dX8_does_70 : decode cX8_does 70 = .ok (.iload_n 2, 1) := by decide +kernel
theorem dX8_does_71 : decode cX8_does 71 = .ok (.iadd, 1) := by decide +kernel
theorem dX8_does_72 : decode cX8_does 72 = .ok (.aload_n 0, 1) := by decide +kernel
theorem dX8_does_73 : decode cX8_does 73 = .ok (.iload_n 1, 1) := by decide +kernel
theorem dX8_does_74 : decode cX8_does 74 = .ok (.iload_n 2, 1) := by decide +kernel
theorem dX8_does_75 : decode cX8_does 75 = .ok (.invokevirtual 140, 3) := by decide +kernel
theorem dX8_does_78 : decode cX8_does 78 = .ok (.iastore, 1) := by decide +kernel
theorem dX8_does_79 : decode cX8_does 79 = .ok (.iinc 2 1, 3) := by decide +kernel
theorem dX8_does_82 : decode cX8_does 82 = .ok (.goto (-29), 3) := by decide +kernel
theorem dX8_does_85 : decode cX8_does 85 = .ok (.aload_n 0, 1) := by decide +kernel
theorem dX8_does_86 : decode cX8_does 86 = .ok (.dup, 1) := by decide +kernel
theorem dX8_does_87 : decode cX8_does 87 = .ok (.getfield 178, 3) := by decide +kernel
theorem dX8_does_90 : decode cX8_does 90 = .ok (.iconst 1, 1) := by decide +kernel
theorem dX8_does_91 : decode cX8_does 91 = .ok (.iadd, 1) := by decide +kernel
theorem dX8_does_92 : decode cX8_does 92 = .ok (.putfield 178, 3) := by decide +kernel
theorem dX8_does_95 : decode cX8_does 95 = .ok (.return_, 1) := by decide +kernel
theorem dX8_forgets_0 : decode cX8_forgets 0 = .ok (.iconst 0, 1) := by decide +kernel
theorem dX8_forgets_1 : decode cX8_forgets 1 = .ok (.istore_n 2, 1) := by decide +kernel
theorem dX8_forgets_2 : decode cX8_forgets 2 = .ok (.iconst 0, 1) := by decide +kernel
theorem dX8_forgets_3 : decode cX8_forgets 3 = .ok (.istore_n 3, 1) := by decide +kernel
theorem dX8_forgets_4 : decode cX8_forgets 4 = .ok (.iload_n 3, 1) := by decide +kernel
theorem dX8_forgets_5 : decode cX8_forgets 5 = .ok (.aload_n 0, 1) := by decide +kernel
theorem dX8_forgets_6 : decode cX8_forgets 6 = .ok (.getfield 178, 3) := by decide +kernel
theorem dX8_forgets_9 : decode cX8_forgets 9 = .ok (.if_icmp .ge 31, 3) := by decide +kernel
theorem dX8_forgets_12 : decode cX8_forgets 12 = .ok (.aload_n 0, 1) := by decide +kernel
theorem dX8_forgets_13 : decode cX8_forgets 13 = .ok (.getfield 37, 3) := by decide +kernel
theorem dX8_forgets_16 : decode cX8_forgets 16 = .ok (.iload_n 3, 1) := by decide +kernel
theorem dX8_forgets_17 : decode cX8_forgets 17 = .ok (.iaload, 1) := by decide +kernel
theorem dX8_forgets_18 : decode cX8_forgets 18 = .ok (.iload_n 1, 1) := by decide +kernel
theorem dX8_forgets_19 : decode cX8_forgets 19 = .ok (.if_icmp .ne 6, 3) := by decide +kernel
theorem dX8_forgets_22 : decode cX8_forgets 22 = .ok (.goto 12, 3) := by decide +kernel
theorem dX8_forgets_25 : decode cX8_forgets 25 = .ok (.aload_n 0, 1) := by decide +kernel
theorem dX8_forgets_26 : decode cX8_forgets 26 = .ok (.iload_n 3, 1) := by decide +kernel
theorem dX8_forgets_27 : decode cX8_forgets 27 = .ok (.iload_n 2, 1) := by decide +kernel
theorem dX8_forgets_28 : decode cX8_forgets 28 = .ok (.invokevirtual 182, 3) := by decide +kernel
theorem dX8_forgets_31 : decode cX8_forgets 31 = .ok (.iinc 2 1, 3) := by decide +kernel
theorem dX8_forgets_34 : decode cX8_forgets 34 = .ok (.iinc 3 1, 3) := by decide +kernel
theorem dX8_forgets_37 : decode cX8_forgets 37 = .ok (.goto (-33), 3) := by decide +kernel
theorem dX8_forgets_40 : decode cX8_forgets 40 = .ok (.aload_n 0, 1) := by decide +kernel
theorem dX8_forgets_41 : decode cX8_forgets 41 = .ok (.iload_n 2, 1) := by decide +kernel
theorem dX8_forgets_42 : decode cX8_forgets 42 = .ok (.putfield 178, 3) := by decide +kernel
theorem dX8_forgets_45 : decode cX8_forgets 45 = .ok (.return_, 1) := by decide +kernel
theorem dX8_back_0 : decode cX8_back 0 = .ok (.aload_n 0, 1) := by decide +kernel
theorem dX8_back_1 : decode cX8_back 1 = .ok (.getfield 178, 3) := by decide +kernel
theorem dX8_back_4 : decode cX8_back 4 = .ok (.ifCond .ne 6, 3) := by decide +kernel
theorem dX8_back_7 : decode cX8_back 7 = .ok (.bipush (-3), 2) := by decide +kernel
theorem dX8_back_9 : decode cX8_back 9 = .ok (.ireturn, 1) := by decide +kernel
theorem dX8_back_10 : decode cX8_back 10 = .ok (.aload_n 0, 1) := by decide +kernel
theorem dX8_back_11 : decode cX8_back 11 = .ok (.dup, 1) := by decide +kernel
theorem dX8_back_12 : decode cX8_back 12 = .ok (.getfield 178, 3) := by decide +kernel
theorem dX8_back_15 : decode cX8_back 15 = .ok (.iconst 1, 1) := by decide +kernel
theorem dX8_back_16 : decode cX8_back 16 = .ok (.isub, 1) := by decide +kernel
theorem dX8_back_17 : decode cX8_back 17 = .ok (.putfield 178, 3) := by decide +kernel
theorem dX8_back_20 : decode cX8_back 20 = .ok (.iconst 0, 1) := by decide +kernel
theorem dX8_back_21 : decode cX8_back 21 = .ok (.istore_n 1, 1) := by decide +kernel
theorem dX8_back_22 : decode cX8_back 22 = .ok (.iload_n 1, 1) := by decide +kernel
theorem dX8_back_23 : decode cX8_back 23 = .ok (.bipush 50, 2) := by decide +kernel
theorem dX8_back_25 : decode cX8_back 25 = .ok (.if_icmp .ge 42, 3) := by decide +kernel
theorem dX8_back_28 : decode cX8_back 28 = .ok (.aload_n 0, 1) := by decide +kernel
theorem dX8_back_29 : decode cX8_back 29 = .ok (.getfield 31, 3) := by decide +kernel
theorem dX8_back_32 : decode cX8_back 32 = .ok (.bipush 50, 2) := by decide +kernel
theorem dX8_back_34 : decode cX8_back 34 = .ok (.aload_n 0, 1) := by decide +kernel
theorem dX8_back_35 : decode cX8_back 35 = .ok (.getfield 37, 3) := by decide +kernel
theorem dX8_back_38 : decode cX8_back 38 = .ok (.aload_n 0, 1) := by decide +kernel
theorem dX8_back_39 : decode cX8_back 39 = .ok (.getfield 178, 3) := by decide +kernel
theorem dX8_back_42 : decode cX8_back 42 = .ok (.iaload, 1) := by decide +kernel
theorem dX8_back_43 : decode cX8_back 43 = .ok (.imul, 1) := by decide +kernel
theorem dX8_back_44 : decode cX8_back 44 = .ok (.iload_n 1, 1) := by decide +kernel
theorem dX8_back_45 : decode cX8_back 45 = .ok (.iadd, 1) := by decide +kernel
theorem dX8_back_46 : decode cX8_back 46 = .ok (.aload_n 0, 1) := by decide +kernel
theorem dX8_back_47 : decode cX8_back 47 = .ok (.getfield 40, 3) := by decide +kernel
theorem dX8_back_50 : decode cX8_back 50 = .ok (.bipush 50, 2) := by decide +kernel
theorem dX8_back_52 : decode cX8_back 52 = .ok (.aload_n 0, 1) := by decide +kernel
theorem dX8_back_53 : decode cX8_back 53 = .ok (.getfield 178, 3) := by decide +kernel
theorem dX8_back_56 : decode cX8_back 56 = .ok (.imul, 1) := by decide +kernel
theorem dX8_back_57 : decode cX8_back 57 = .ok (.iload_n 1, 1) := by decide +kernel
theorem dX8_back_58 : decode cX8_back 58 = .ok (.iadd, 1) := by decide +kernel
theorem dX8_back_59 : decode cX8_back 59 = .ok (.iaload, 1) := by decide +kernel
theorem dX8_back_60 : decode cX8_back 60 = .ok (.iastore, 1) := by decide +kernel
theorem dX8_back_61 : decode cX8_back 61 = .ok (.iinc 1 1, 3) := by decide +kernel
theorem dX8_back_64 : decode cX8_back 64 = .ok (.goto (-42), 3) := by decide +kernel
theorem dX8_back_67 : decode cX8_back 67 = .ok (.aload_n 0, 1) := by decide +kernel
theorem dX8_back_68 : decode cX8_back 68 = .ok (.getfield 178, 3) := by decide +kernel
theorem dX8_back_71 : decode cX8_back 71 = .ok (.ireturn, 1) := by decide +kernel
theorem dX8_digit_0 : decode cX8_digit 0 = .ok (.iload_n 1, 1) := by decide +kernel
theorem dX8_digit_1 : decode cX8_digit 1 = .ok (.invokestatic 149, 3) := by decide +kernel
theorem dX8_digit_4 : decode cX8_digit 4 = .ok (.ifCond .eq 15, 3) := by decide +kernel
theorem dX8_digit_7 : decode cX8_digit 7 = .ok (.iload_n 3, 1) := by decide +kernel
theorem dX8_digit_8 : decode cX8_digit 8 = .ok (.i2l, 1) := by decide +kernel
theorem dX8_digit_9 : decode cX8_digit 9 = .ok (.lconst 0, 1) := by decide +kernel
theorem dX8_digit_10 : decode cX8_digit 10 = .ok (.ldc2_w 186, 3) := by decide +kernel
theorem dX8_digit_13 : decode cX8_digit 13 = .ok (.invokestatic 104, 3) := by decide +kernel
theorem dX8_digit_16 : decode cX8_digit 16 = .ok (.ifCond .ne 6, 3) := by decide +kernel
theorem dX8_digit_19 : decode cX8_digit 19 = .ok (.bipush (-2), 2) := by decide +kernel
theorem dX8_digit_21 : decode cX8_digit 21 = .ok (.ireturn, 1) := by decide +kernel
theorem dX8_digit_22 : decode cX8_digit 22 = .ok (.aload_n 0, 1) := by decide +kernel
theorem dX8_digit_23 : decode cX8_digit 23 = .ok (.iload_n 1, 1) := by decide +kernel
theorem dX8_digit_24 : decode cX8_digit 24 = .ok (.iload_n 2, 1) := by decide +kernel
theorem dX8_digit_25 : decode cX8_digit 25 = .ok (.iconst 1, 1) := by decide +kernel
theorem dX8_digit_26 : decode cX8_digit 26 = .ok (.invokevirtual 171, 3) := by decide +kernel
theorem dX8_digit_29 : decode cX8_digit 29 = .ok (.istore 4, 2) := by decide +kernel
theorem dX8_digit_31 : decode cX8_digit 31 = .ok (.iload 4, 2) := by decide +kernel
theorem dX8_digit_33 : decode cX8_digit 33 = .ok (.ifCond .eq 6, 3) := by decide +kernel
theorem dX8_digit_36 : decode cX8_digit 36 = .ok (.iload 4, 2) := by decide +kernel
theorem dX8_digit_38 : decode cX8_digit 38 = .ok (.ireturn, 1) := by decide +kernel
theorem dX8_digit_39 : decode cX8_digit 39 = .ok (.aload_n 0, 1) := by decide +kernel
theorem dX8_digit_40 : decode cX8_digit 40 = .ok (.iload_n 1, 1) := by decide +kernel
theorem dX8_digit_41 : decode cX8_digit 41 = .ok (.invokevirtual 188, 3) := by decide +kernel
theorem dX8_digit_44 : decode cX8_digit 44 = .ok (.aload_n 0, 1) := by decide +kernel
theorem dX8_digit_45 : decode cX8_digit 45 = .ok (.iload_n 1, 1) := by decide +kernel
theorem dX8_digit_46 : decode cX8_digit 46 = .ok (.iload_n 2, 1) := by decide +kernel
theorem dX8_digit_47 : decode cX8_digit 47 = .ok (.invokevirtual 140, 3) := by decide +kernel
theorem dX8_digit_50 : decode cX8_digit 50 = .ok (.istore 5, 2) := by decide +kernel
theorem dX8_digit_52 : decode cX8_digit 52 = .ok (.aload_n 0, 1) := by decide +kernel
theorem dX8_digit_53 : decode cX8_digit 53 = .ok (.getfield 31, 3) := by decide +kernel
theorem dX8_digit_56 : decode cX8_digit 56 = .ok (.bipush 50, 2) := by decide +kernel
theorem dX8_digit_58 : decode cX8_digit 58 = .ok (.iload_n 1, 1) := by decide +kernel
theorem dX8_digit_59 : decode cX8_digit 59 = .ok (.imul, 1) := by decide +kernel
theorem dX8_digit_60 : decode cX8_digit 60 = .ok (.iload_n 2, 1) := by decide +kernel
theorem dX8_digit_61 : decode cX8_digit 61 = .ok (.iadd, 1) := by decide +kernel
theorem dX8_digit_62 : decode cX8_digit 62 = .ok (.iload_n 3, 1) := by decide +kernel
theorem dX8_digit_63 : decode cX8_digit 63 = .ok (.iastore, 1) := by decide +kernel
theorem dX8_digit_64 : decode cX8_digit 64 = .ok (.iload 5, 2) := by decide +kernel
theorem dX8_digit_66 : decode cX8_digit 66 = .ok (.ireturn, 1) := by decide +kernel
theorem dX8_can_0 : decode cX8_can 0 = .ok (.aload_n 0, 1) := by decide +kernel
theorem dX8_can_1 : decode cX8_can 1 = .ok (.getfield 28, 3) := by decide +kernel
theorem dX8_can_4 : decode cX8_can 4 = .ok (.iload_n 1, 1) := by decide +kernel
theorem dX8_can_5 : decode cX8_can 5 = .ok (.iaload, 1) := by decide +kernel
theorem dX8_can_6 : decode cX8_can 6 = .ok (.istore 4, 2) := by decide +kernel
theorem dX8_can_8 : decode cX8_can 8 = .ok (.aload_n 0, 1) := by decide +kernel
theorem dX8_can_9 : decode cX8_can 9 = .ok (.iload_n 1, 1) := by decide +kernel
theorem dX8_can_10 : decode cX8_can 10 = .ok (.iload_n 2, 1) := by decide +kernel
theorem dX8_can_11 : decode cX8_can 11 = .ok (.iconst 1, 1) := by decide +kernel
theorem dX8_can_12 : decode cX8_can 12 = .ok (.iadd, 1) := by decide +kernel
theorem dX8_can_13 : decode cX8_can 13 = .ok (.invokevirtual 140, 3) := by decide +kernel
theorem dX8_can_16 : decode cX8_can 16 = .ok (.iload_n 3, 1) := by decide +kernel
theorem dX8_can_17 : decode cX8_can 17 = .ok (.isub, 1) := by decide +kernel
theorem dX8_can_18 : decode cX8_can 18 = .ok (.istore 5, 2) := by decide +kernel
theorem dX8_can_20 : decode cX8_can 20 = .ok (.aload_n 0, 1) := by decide +kernel
theorem dX8_can_21 : decode cX8_can 21 = .ok (.iload_n 1, 1) := by decide +kernel
theorem dX8_can_22 : decode cX8_can 22 = .ok (.iload_n 2, 1) := by decide +kernel
theorem dX8_can_23 : decode cX8_can 23 = .ok (.invokevirtual 140, 3) := by decide +kernel
theorem dX8_can_26 : decode cX8_can 26 = .ok (.iload_n 3, 1) := by decide +kernel
theorem dX8_can_27 : decode cX8_can 27 = .ok (.iload_n 2, 1) := by decide +kernel
theorem dX8_can_28 : decode cX8_can 28 = .ok (.ifCond .ne 14, 3) := by decide +kernel
theorem dX8_can_31 : decode cX8_can 31 = .ok (.aload_n 0, 1) := by decide +kernel
theorem dX8_can_32 : decode cX8_can 32 = .ok (.iload 4, 2) := by decide +kernel
theorem dX8_can_34 : decode cX8_can 34 = .ok (.iconst 1, 1) := by decide +kernel
theorem dX8_can_35 : decode cX8_can 35 = .ok (.invokevirtual 129, 3) := by decide +kernel
theorem dX8_can_38 : decode cX8_can 38 = .ok (.l2i, 1) := by decide +kernel
theorem dX8_can_39 : decode cX8_can 39 = .ok (.goto 10, 3) := by decide +kernel
theorem dX8_can_42 : decode cX8_can 42 = .ok (.aload_n 0, 1) := by decide +kernel
theorem dX8_can_43 : decode cX8_can 43 = .ok (.iload 4, 2) := by decide +kernel
theorem dX8_can_45 : decode cX8_can 45 = .ok (.iload_n 2, 1) := by decide +kernel
theorem dX8_can_46 : decode cX8_can 46 = .ok (.invokevirtual 110, 3) := by decide +kernel
theorem dX8_can_49 : decode cX8_can 49 = .ok (.imul, 1) := by decide +kernel
theorem dX8_can_50 : decode cX8_can 50 = .ok (.iadd, 1) := by decide +kernel
theorem dX8_can_51 : decode cX8_can 51 = .ok (.istore 6, 2) := by decide +kernel
theorem dX8_can_53 : decode cX8_can 53 = .ok (.iload_n 2, 1) := by decide +kernel
theorem dX8_can_54 : decode cX8_can 54 = .ok (.ifCond .ne 7, 3) := by decide +kernel
theorem dX8_can_57 : decode cX8_can 57 = .ok (.iconst 0, 1) := by decide +kernel
theorem dX8_can_58 : decode cX8_can 58 = .ok (.goto 13, 3) := by decide +kernel
theorem dX8_can_61 : decode cX8_can 61 = .ok (.aload_n 0, 1) := by decide +kernel
theorem dX8_can_62 : decode cX8_can 62 = .ok (.iload_n 1, 1) := by decide +kernel
theorem dX8_can_63 : decode cX8_can 63 = .ok (.iload_n 2, 1) := by decide +kernel
theorem dX8_can_64 : decode cX8_can 64 = .ok (.iconst 1, 1) := by decide +kernel
theorem dX8_can_65 : decode cX8_can 65 = .ok (.isub, 1) := by decide +kernel
theorem dX8_can_66 : decode cX8_can 66 = .ok (.invokevirtual 140, 3) := by decide +kernel
theorem dX8_can_69 : decode cX8_can 69 = .ok (.iload_n 3, 1) := by decide +kernel
theorem dX8_can_70 : decode cX8_can 70 = .ok (.iadd, 1) := by decide +kernel
theorem dX8_can_71 : decode cX8_can 71 = .ok (.istore 7, 2) := by decide +kernel
theorem dX8_can_73 : decode cX8_can 73 = .ok (.iload 5, 2) := by decide +kernel
theorem dX8_can_75 : decode cX8_can 75 = .ok (.i2l, 1) := by decide +kernel
theorem dX8_can_76 : decode cX8_can 76 = .ok (.lconst 0, 1) := by decide +kernel
theorem dX8_can_77 : decode cX8_can 77 = .ok (.ldc2_w 186, 3) := by decide +kernel
theorem dX8_can_80 : decode cX8_can 80 = .ok (.invokestatic 104, 3) := by decide +kernel
theorem dX8_can_83 : decode cX8_can 83 = .ok (.ifCond .eq 33, 3) := by decide +kernel
theorem dX8_can_86 : decode cX8_can 86 = .ok (.iload 6, 2) := by decide +kernel
theorem dX8_can_88 : decode cX8_can 88 = .ok (.i2l, 1) := by decide +kernel
theorem dX8_can_89 : decode cX8_can 89 = .ok (.lconst 0, 1) := by decide +kernel
theorem dX8_can_90 : decode cX8_can 90 = .ok (.ldc2_w 186, 3) := by decide +kernel
theorem dX8_can_93 : decode cX8_can 93 = .ok (.invokestatic 104, 3) := by decide +kernel
theorem dX8_can_96 : decode cX8_can 96 = .ok (.ifCond .eq 20, 3) := by decide +kernel
theorem dX8_can_99 : decode cX8_can 99 = .ok (.iload 7, 2) := by decide +kernel
theorem dX8_can_101 : decode cX8_can 101 = .ok (.i2l, 1) := by decide +kernel
theorem dX8_can_102 : decode cX8_can 102 = .ok (.lconst 0, 1) := by decide +kernel
theorem dX8_can_103 : decode cX8_can 103 = .ok (.ldc2_w 186, 3) := by decide +kernel
theorem dX8_can_106 : decode cX8_can 106 = .ok (.invokestatic 104, 3) := by decide +kernel
theorem dX8_can_109 : decode cX8_can 109 = .ok (.ifCond .eq 7, 3) := by decide +kernel
theorem dX8_can_112 : decode cX8_can 112 = .ok (.iconst 1, 1) := by decide +kernel
theorem dX8_can_113 : decode cX8_can 113 = .ok (.goto 4, 3) := by decide +kernel
theorem dX8_can_116 : decode cX8_can 116 = .ok (.iconst 0, 1) := by decide +kernel
theorem dX8_can_117 : decode cX8_can 117 = .ok (.ireturn, 1) := by decide +kernel
theorem dX8_goes_0 : decode cX8_goes 0 = .ok (.aload_n 0, 1) := by decide +kernel
theorem dX8_goes_1 : decode cX8_goes 1 = .ok (.getfield 28, 3) := by decide +kernel
theorem dX8_goes_4 : decode cX8_goes 4 = .ok (.iload_n 1, 1) := by decide +kernel
theorem dX8_goes_5 : decode cX8_goes 5 = .ok (.iaload, 1) := by decide +kernel
theorem dX8_goes_6 : decode cX8_goes 6 = .ok (.istore 4, 2) := by decide +kernel
theorem dX8_goes_8 : decode cX8_goes 8 = .ok (.aload_n 0, 1) := by decide +kernel
theorem dX8_goes_9 : decode cX8_goes 9 = .ok (.getfield 31, 3) := by decide +kernel
theorem dX8_goes_12 : decode cX8_goes 12 = .ok (.bipush 50, 2) := by decide +kernel
theorem dX8_goes_14 : decode cX8_goes 14 = .ok (.iload_n 1, 1) := by decide +kernel
theorem dX8_goes_15 : decode cX8_goes 15 = .ok (.imul, 1) := by decide +kernel
theorem dX8_goes_16 : decode cX8_goes 16 = .ok (.iload_n 2, 1) := by decide +kernel
theorem dX8_goes_17 : decode cX8_goes 17 = .ok (.iadd, 1) := by decide +kernel
theorem dX8_goes_18 : decode cX8_goes 18 = .ok (.iconst 1, 1) := by decide +kernel
theorem dX8_goes_19 : decode cX8_goes 19 = .ok (.iadd, 1) := by decide +kernel
theorem dX8_goes_20 : decode cX8_goes 20 = .ok (.dup2, 1) := by decide +kernel
theorem dX8_goes_21 : decode cX8_goes 21 = .ok (.iaload, 1) := by decide +kernel
theorem dX8_goes_22 : decode cX8_goes 22 = .ok (.iload_n 3, 1) := by decide +kernel
theorem dX8_goes_23 : decode cX8_goes 23 = .ok (.isub, 1) := by decide +kernel
theorem dX8_goes_24 : decode cX8_goes 24 = .ok (.iastore, 1) := by decide +kernel
theorem dX8_goes_25 : decode cX8_goes 25 = .ok (.aload_n 0, 1) := by decide +kernel
theorem dX8_goes_26 : decode cX8_goes 26 = .ok (.getfield 31, 3) := by decide +kernel
theorem dX8_goes_29 : decode cX8_goes 29 = .ok (.bipush 50, 2) := by decide +kernel
theorem dX8_goes_31 : decode cX8_goes 31 = .ok (.iload_n 1, 1) := by decide +kernel
theorem dX8_goes_32 : decode cX8_goes 32 = .ok (.imul, 1) := by decide +kernel
theorem dX8_goes_33 : decode cX8_goes 33 = .ok (.iload_n 2, 1) := by decide +kernel
theorem dX8_goes_34 : decode cX8_goes 34 = .ok (.iadd, 1) := by decide +kernel
theorem dX8_goes_35 : decode cX8_goes 35 = .ok (.dup2, 1) := by decide +kernel
theorem dX8_goes_36 : decode cX8_goes 36 = .ok (.iaload, 1) := by decide +kernel
theorem dX8_goes_37 : decode cX8_goes 37 = .ok (.iload_n 3, 1) := by decide +kernel
theorem dX8_goes_38 : decode cX8_goes 38 = .ok (.iload_n 2, 1) := by decide +kernel
theorem dX8_goes_39 : decode cX8_goes 39 = .ok (.ifCond .ne 14, 3) := by decide +kernel
theorem dX8_goes_42 : decode cX8_goes 42 = .ok (.aload_n 0, 1) := by decide +kernel
theorem dX8_goes_43 : decode cX8_goes 43 = .ok (.iload 4, 2) := by decide +kernel
theorem dX8_goes_45 : decode cX8_goes 45 = .ok (.iconst 1, 1) := by decide +kernel
theorem dX8_goes_46 : decode cX8_goes 46 = .ok (.invokevirtual 129, 3) := by decide +kernel
theorem dX8_goes_49 : decode cX8_goes 49 = .ok (.l2i, 1) := by decide +kernel
theorem dX8_goes_50 : decode cX8_goes 50 = .ok (.goto 10, 3) := by decide +kernel
theorem dX8_goes_53 : decode cX8_goes 53 = .ok (.aload_n 0, 1) := by decide +kernel
theorem dX8_goes_54 : decode cX8_goes 54 = .ok (.iload 4, 2) := by decide +kernel
theorem dX8_goes_56 : decode cX8_goes 56 = .ok (.iload_n 2, 1) := by decide +kernel
theorem dX8_goes_57 : decode cX8_goes 57 = .ok (.invokevirtual 110, 3) := by decide +kernel
theorem dX8_goes_60 : decode cX8_goes 60 = .ok (.imul, 1) := by decide +kernel
theorem dX8_goes_61 : decode cX8_goes 61 = .ok (.iadd, 1) := by decide +kernel
theorem dX8_goes_62 : decode cX8_goes 62 = .ok (.iastore, 1) := by decide +kernel
theorem dX8_goes_63 : decode cX8_goes 63 = .ok (.iload_n 2, 1) := by decide +kernel
theorem dX8_goes_64 : decode cX8_goes 64 = .ok (.ifCond .le 20, 3) := by decide +kernel
theorem dX8_goes_67 : decode cX8_goes 67 = .ok (.aload_n 0, 1) := by decide +kernel
theorem dX8_goes_68 : decode cX8_goes 68 = .ok (.getfield 31, 3) := by decide +kernel
theorem dX8_goes_71 : decode cX8_goes 71 = .ok (.bipush 50, 2) := by decide +kernel
theorem dX8_goes_73 : decode cX8_goes 73 = .ok (.iload_n 1, 1) := by decide +kernel
theorem dX8_goes_74 : decode cX8_goes 74 = .ok (.imul, 1) := by decide +kernel
theorem dX8_goes_75 : decode cX8_goes 75 = .ok (.iload_n 2, 1) := by decide +kernel
theorem dX8_goes_76 : decode cX8_goes 76 = .ok (.iadd, 1) := by decide +kernel
theorem dX8_goes_77 : decode cX8_goes 77 = .ok (.iconst 1, 1) := by decide +kernel
theorem dX8_goes_78 : decode cX8_goes 78 = .ok (.isub, 1) := by decide +kernel
