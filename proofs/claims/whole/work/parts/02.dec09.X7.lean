theorem dX7_digit_34 : decode cX7_digit 34 = .ok (.ifnonnull 6, 3) := by decide +kernel
theorem dX7_digit_37 : decode cX7_digit 37 = .ok (.bipush (-11), 2) := by decide +kernel
theorem dX7_digit_39 : decode cX7_digit 39 = .ok (.ireturn, 1) := by decide +kernel
theorem dX7_digit_40 : decode cX7_digit 40 = .ok (.aload 5, 2) := by decide +kernel
theorem dX7_digit_42 : decode cX7_digit 42 = .ok (.iload_n 2, 1) := by decide +kernel
theorem dX7_digit_43 : decode cX7_digit 43 = .ok (.invokevirtual 113, 3) := by decide +kernel
theorem dX7_digit_46 : decode cX7_digit 46 = .ok (.ifCond .ne 6, 3) := by decide +kernel
theorem dX7_digit_49 : decode cX7_digit 49 = .ok (.bipush (-12), 2) := by decide +kernel
theorem dX7_digit_51 : decode cX7_digit 51 = .ok (.ireturn, 1) := by decide +kernel
theorem dX7_digit_52 : decode cX7_digit 52 = .ok (.aload_n 0, 1) := by decide +kernel
theorem dX7_digit_53 : decode cX7_digit 53 = .ok (.getfield 39, 3) := by decide +kernel
theorem dX7_digit_56 : decode cX7_digit 56 = .ok (.iload_n 1, 1) := by decide +kernel
theorem dX7_digit_57 : decode cX7_digit 57 = .ok (.aload 4, 2) := by decide +kernel
theorem dX7_digit_59 : decode cX7_digit 59 = .ok (.getfield 144, 3) := by decide +kernel
theorem dX7_digit_62 : decode cX7_digit 62 = .ok (.invokevirtual 162, 3) := by decide +kernel
theorem dX7_digit_65 : decode cX7_digit 65 = .ok (.aload 4, 2) := by decide +kernel
theorem dX7_digit_67 : decode cX7_digit 67 = .ok (.getfield 144, 3) := by decide +kernel
theorem dX7_digit_70 : decode cX7_digit 70 = .ok (.iload_n 2, 1) := by decide +kernel
theorem dX7_digit_71 : decode cX7_digit 71 = .ok (.iaload, 1) := by decide +kernel
theorem dX7_digit_72 : decode cX7_digit 72 = .ok (.istore 6, 2) := by decide +kernel
theorem dX7_digit_74 : decode cX7_digit 74 = .ok (.aload 4, 2) := by decide +kernel
theorem dX7_digit_76 : decode cX7_digit 76 = .ok (.getfield 144, 3) := by decide +kernel
theorem dX7_digit_79 : decode cX7_digit 79 = .ok (.iload_n 2, 1) := by decide +kernel
theorem dX7_digit_80 : decode cX7_digit 80 = .ok (.iload_n 3, 1) := by decide +kernel
theorem dX7_digit_81 : decode cX7_digit 81 = .ok (.iastore, 1) := by decide +kernel
theorem dX7_digit_82 : decode cX7_digit 82 = .ok (.iload 6, 2) := by decide +kernel
theorem dX7_digit_84 : decode cX7_digit 84 = .ok (.ireturn, 1) := by decide +kernel
theorem dX7_borrow_0 : decode cX7_borrow 0 = .ok (.aload_n 0, 1) := by decide +kernel
theorem dX7_borrow_1 : decode cX7_borrow 1 = .ok (.iload_n 1, 1) := by decide +kernel
theorem dX7_borrow_2 : decode cX7_borrow 2 = .ok (.iload_n 2, 1) := by decide +kernel
theorem dX7_borrow_3 : decode cX7_borrow 3 = .ok (.iconst (-1), 1) := by decide +kernel
theorem dX7_borrow_4 : decode cX7_borrow 4 = .ok (.invokevirtual 166, 3) := by decide +kernel
theorem dX7_borrow_7 : decode cX7_borrow 7 = .ok (.istore_n 3, 1) := by decide +kernel
theorem dX7_borrow_8 : decode cX7_borrow 8 = .ok (.iload_n 3, 1) := by decide +kernel
theorem dX7_borrow_9 : decode cX7_borrow 9 = .ok (.iconst 1, 1) := by decide +kernel
theorem dX7_borrow_10 : decode cX7_borrow 10 = .ok (.if_icmp .ne 12, 3) := by decide +kernel
theorem dX7_borrow_13 : decode cX7_borrow 13 = .ok (.aload_n 0, 1) := by decide +kernel
theorem dX7_borrow_14 : decode cX7_borrow 14 = .ok (.iload_n 1, 1) := by decide +kernel
theorem dX7_borrow_15 : decode cX7_borrow 15 = .ok (.iload_n 2, 1) := by decide +kernel
theorem dX7_borrow_16 : decode cX7_borrow 16 = .ok (.invokevirtual 170, 3) := by decide +kernel
theorem dX7_borrow_19 : decode cX7_borrow 19 = .ok (.goto 4, 3) := by decide +kernel
theorem dX7_borrow_22 : decode cX7_borrow 22 = .ok (.iload_n 3, 1) := by decide +kernel
theorem dX7_borrow_23 : decode cX7_borrow 23 = .ok (.ireturn, 1) := by decide +kernel
theorem dX7_carry_0 : decode cX7_carry 0 = .ok (.aload_n 0, 1) := by decide +kernel
theorem dX7_carry_1 : decode cX7_carry 1 = .ok (.iload_n 1, 1) := by decide +kernel
theorem dX7_carry_2 : decode cX7_carry 2 = .ok (.iload_n 2, 1) := by decide +kernel
theorem dX7_carry_3 : decode cX7_carry 3 = .ok (.iconst 1, 1) := by decide +kernel
theorem dX7_carry_4 : decode cX7_carry 4 = .ok (.invokevirtual 166, 3) := by decide +kernel
theorem dX7_carry_7 : decode cX7_carry 7 = .ok (.istore_n 3, 1) := by decide +kernel
theorem dX7_carry_8 : decode cX7_carry 8 = .ok (.iload_n 3, 1) := by decide +kernel
theorem dX7_carry_9 : decode cX7_carry 9 = .ok (.iconst 1, 1) := by decide +kernel
theorem dX7_carry_10 : decode cX7_carry 10 = .ok (.if_icmp .ne 14, 3) := by decide +kernel
theorem dX7_carry_13 : decode cX7_carry 13 = .ok (.aload_n 0, 1) := by decide +kernel
theorem dX7_carry_14 : decode cX7_carry 14 = .ok (.iload_n 1, 1) := by decide +kernel
theorem dX7_carry_15 : decode cX7_carry 15 = .ok (.iload_n 2, 1) := by decide +kernel
theorem dX7_carry_16 : decode cX7_carry 16 = .ok (.iconst 1, 1) := by decide +kernel
theorem dX7_carry_17 : decode cX7_carry 17 = .ok (.iadd, 1) := by decide +kernel
theorem dX7_carry_18 : decode cX7_carry 18 = .ok (.invokevirtual 170, 3) := by decide +kernel
theorem dX7_carry_21 : decode cX7_carry 21 = .ok (.goto 4, 3) := by decide +kernel
theorem dX7_carry_24 : decode cX7_carry 24 = .ok (.iload_n 3, 1) := by decide +kernel
theorem dX7_carry_25 : decode cX7_carry 25 = .ok (.ireturn, 1) := by decide +kernel
theorem dX7_settle_0 : decode cX7_settle 0 = .ok (.aload_n 0, 1) := by decide +kernel
theorem dX7_settle_1 : decode cX7_settle 1 = .ok (.iload_n 1, 1) := by decide +kernel
theorem dX7_settle_2 : decode cX7_settle 2 = .ok (.invokevirtual 87, 3) := by decide +kernel
theorem dX7_settle_5 : decode cX7_settle 5 = .ok (.astore_n 2, 1) := by decide +kernel
theorem dX7_settle_6 : decode cX7_settle 6 = .ok (.aload_n 2, 1) := by decide +kernel
theorem dX7_settle_7 : decode cX7_settle 7 = .ok (.ifnonnull 6, 3) := by decide +kernel
theorem dX7_settle_10 : decode cX7_settle 10 = .ok (.bipush (-2), 2) := by decide +kernel
theorem dX7_settle_12 : decode cX7_settle 12 = .ok (.ireturn, 1) := by decide +kernel
theorem dX7_settle_13 : decode cX7_settle 13 = .ok (.aload_n 2, 1) := by decide +kernel
theorem dX7_settle_14 : decode cX7_settle 14 = .ok (.getfield 91, 3) := by decide +kernel
theorem dX7_settle_17 : decode cX7_settle 17 = .ok (.astore_n 3, 1) := by decide +kernel
theorem dX7_settle_18 : decode cX7_settle 18 = .ok (.aload_n 3, 1) := by decide +kernel
theorem dX7_settle_19 : decode cX7_settle 19 = .ok (.ifnonnull 6, 3) := by decide +kernel
theorem dX7_settle_22 : decode cX7_settle 22 = .ok (.bipush (-11), 2) := by decide +kernel
theorem dX7_settle_24 : decode cX7_settle 24 = .ok (.ireturn, 1) := by decide +kernel
theorem dX7_settle_25 : decode cX7_settle 25 = .ok (.aload_n 0, 1) := by decide +kernel
theorem dX7_settle_26 : decode cX7_settle 26 = .ok (.getfield 39, 3) := by decide +kernel
theorem dX7_settle_29 : decode cX7_settle 29 = .ok (.iload_n 1, 1) := by decide +kernel
theorem dX7_settle_30 : decode cX7_settle 30 = .ok (.aload_n 2, 1) := by decide +kernel
theorem dX7_settle_31 : decode cX7_settle 31 = .ok (.getfield 144, 3) := by decide +kernel
theorem dX7_settle_34 : decode cX7_settle 34 = .ok (.invokevirtual 162, 3) := by decide +kernel
theorem dX7_settle_37 : decode cX7_settle 37 = .ok (.aload_n 3, 1) := by decide +kernel
theorem dX7_settle_38 : decode cX7_settle 38 = .ok (.aload_n 2, 1) := by decide +kernel
theorem dX7_settle_39 : decode cX7_settle 39 = .ok (.getfield 144, 3) := by decide +kernel
theorem dX7_settle_42 : decode cX7_settle 42 = .ok (.invokevirtual 174, 3) := by decide +kernel
theorem dX7_settle_45 : decode cX7_settle 45 = .ok (.ireturn, 1) := by decide +kernel
theorem dX7_right_0 : decode cX7_right 0 = .ok (.aload_n 0, 1) := by decide +kernel
theorem dX7_right_1 : decode cX7_right 1 = .ok (.iload_n 1, 1) := by decide +kernel
theorem dX7_right_2 : decode cX7_right 2 = .ok (.invokevirtual 87, 3) := by decide +kernel
theorem dX7_right_5 : decode cX7_right 5 = .ok (.astore_n 2, 1) := by decide +kernel
theorem dX7_right_6 : decode cX7_right 6 = .ok (.aload_n 2, 1) := by decide +kernel
theorem dX7_right_7 : decode cX7_right 7 = .ok (.ifnonnull 6, 3) := by decide +kernel
theorem dX7_right_10 : decode cX7_right 10 = .ok (.bipush (-2), 2) := by decide +kernel
theorem dX7_right_12 : decode cX7_right 12 = .ok (.ireturn, 1) := by decide +kernel
theorem dX7_right_13 : decode cX7_right 13 = .ok (.aload_n 2, 1) := by decide +kernel
theorem dX7_right_14 : decode cX7_right 14 = .ok (.getfield 91, 3) := by decide +kernel
theorem dX7_right_17 : decode cX7_right 17 = .ok (.astore_n 3, 1) := by decide +kernel
theorem dX7_right_18 : decode cX7_right 18 = .ok (.aload_n 3, 1) := by decide +kernel
theorem dX7_right_19 : decode cX7_right 19 = .ok (.ifnonnull 6, 3) := by decide +kernel
theorem dX7_right_22 : decode cX7_right 22 = .ok (.bipush (-11), 2) := by decide +kernel
theorem dX7_right_24 : decode cX7_right 24 = .ok (.ireturn, 1) := by decide +kernel
theorem dX7_right_25 : decode cX7_right 25 = .ok (.aload_n 3, 1) := by decide +kernel
theorem dX7_right_26 : decode cX7_right 26 = .ok (.aload_n 2, 1) := by decide +kernel
theorem dX7_right_27 : decode cX7_right 27 = .ok (.getfield 144, 3) := by decide +kernel
theorem dX7_right_30 : decode cX7_right 30 = .ok (.invokevirtual 158, 3) := by decide +kernel
theorem dX7_right_33 : decode cX7_right 33 = .ok (.lstore 4, 2) := by decide +kernel
theorem dX7_right_35 : decode cX7_right 35 = .ok (.lload 4, 2) := by decide +kernel
theorem dX7_right_37 : decode cX7_right 37 = .ok (.aload_n 3, 1) := by decide +kernel
theorem dX7_right_38 : decode cX7_right 38 = .ok (.getfield 126, 3) := by decide +kernel
theorem dX7_right_41 : decode cX7_right 41 = .ok (.lcmp, 1) := by decide +kernel
theorem dX7_right_42 : decode cX7_right 42 = .ok (.ifCond .le 8, 3) := by decide +kernel
theorem dX7_right_45 : decode cX7_right 45 = .ok (.bipush (-3), 2) := by decide +kernel
theorem dX7_right_47 : decode cX7_right 47 = .ok (.goto 15, 3) := by decide +kernel
theorem dX7_right_50 : decode cX7_right 50 = .ok (.aload_n 0, 1) := by decide +kernel
theorem dX7_right_51 : decode cX7_right 51 = .ok (.iload_n 1, 1) := by decide +kernel
theorem dX7_right_52 : decode cX7_right 52 = .ok (.aload_n 3, 1) := by decide +kernel
theorem dX7_right_53 : decode cX7_right 53 = .ok (.aload_n 2, 1) := by decide +kernel
theorem dX7_right_54 : decode cX7_right 54 = .ok (.getfield 144, 3) := by decide +kernel
theorem dX7_right_57 : decode cX7_right 57 = .ok (.lload 4, 2) := by decide +kernel
theorem dX7_right_59 : decode cX7_right 59 = .ok (.invokevirtual 177, 3) := by decide +kernel
theorem dX7_right_62 : decode cX7_right 62 = .ok (.ireturn, 1) := by decide +kernel
theorem dX7_shift_0 : decode cX7_shift 0 = .ok (.aload_n 0, 1) := by decide +kernel
theorem dX7_shift_1 : decode cX7_shift 1 = .ok (.iload_n 1, 1) := by decide +kernel
theorem dX7_shift_2 : decode cX7_shift 2 = .ok (.invokevirtual 87, 3) := by decide +kernel
theorem dX7_shift_5 : decode cX7_shift 5 = .ok (.astore_n 3, 1) := by decide +kernel
theorem dX7_shift_6 : decode cX7_shift 6 = .ok (.aload_n 3, 1) := by decide +kernel
theorem dX7_shift_7 : decode cX7_shift 7 = .ok (.ifnull 14, 3) := by decide +kernel
theorem dX7_shift_10 : decode cX7_shift 10 = .ok (.iload_n 2, 1) := by decide +kernel
theorem dX7_shift_11 : decode cX7_shift 11 = .ok (.bipush (-9), 2) := by decide +kernel
theorem dX7_shift_13 : decode cX7_shift 13 = .ok (.bipush 9, 2) := by decide +kernel
theorem dX7_shift_15 : decode cX7_shift 15 = .ok (.invokestatic 102, 3) := by decide +kernel
theorem dX7_shift_18 : decode cX7_shift 18 = .ok (.ifCond .ne 6, 3) := by decide +kernel
theorem dX7_shift_21 : decode cX7_shift 21 = .ok (.bipush (-2), 2) := by decide +kernel
theorem dX7_shift_23 : decode cX7_shift 23 = .ok (.ireturn, 1) := by decide +kernel
theorem dX7_shift_24 : decode cX7_shift 24 = .ok (.aload_n 3, 1) := by decide +kernel
theorem dX7_shift_25 : decode cX7_shift 25 = .ok (.getfield 91, 3) := by decide +kernel
theorem dX7_shift_28 : decode cX7_shift 28 = .ok (.astore 4, 2) := by decide +kernel
theorem dX7_shift_30 : decode cX7_shift 30 = .ok (.aload 4, 2) := by decide +kernel
theorem dX7_shift_32 : decode cX7_shift 32 = .ok (.ifnonnull 6, 3) := by decide +kernel
theorem dX7_shift_35 : decode cX7_shift 35 = .ok (.bipush (-11), 2) := by decide +kernel
theorem dX7_shift_37 : decode cX7_shift 37 = .ok (.ireturn, 1) := by decide +kernel
theorem dX7_shift_38 : decode cX7_shift 38 = .ok (.aload_n 0, 1) := by decide +kernel
theorem dX7_shift_39 : decode cX7_shift 39 = .ok (.getfield 39, 3) := by decide +kernel
theorem dX7_shift_42 : decode cX7_shift 42 = .ok (.iload_n 1, 1) := by decide +kernel
theorem dX7_shift_43 : decode cX7_shift 43 = .ok (.aload_n 3, 1) := by decide +kernel
theorem dX7_shift_44 : decode cX7_shift 44 = .ok (.getfield 144, 3) := by decide +kernel
theorem dX7_shift_47 : decode cX7_shift 47 = .ok (.invokevirtual 162, 3) := by decide +kernel
theorem dX7_shift_50 : decode cX7_shift 50 = .ok (.aload_n 3, 1) := by decide +kernel
theorem dX7_shift_51 : decode cX7_shift 51 = .ok (.getfield 144, 3) := by decide +kernel
theorem dX7_shift_54 : decode cX7_shift 54 = .ok (.invokestatic 151, 3) := by decide +kernel
theorem dX7_shift_57 : decode cX7_shift 57 = .ok (.istore 5, 2) := by decide +kernel
theorem dX7_shift_59 : decode cX7_shift 59 = .ok (.aload 4, 2) := by decide +kernel
theorem dX7_shift_61 : decode cX7_shift 61 = .ok (.aload_n 0, 1) := by decide +kernel
theorem dX7_shift_62 : decode cX7_shift 62 = .ok (.getfield 60, 3) := by decide +kernel
theorem dX7_shift_65 : decode cX7_shift 65 = .ok (.aload_n 3, 1) := by decide +kernel
theorem dX7_shift_66 : decode cX7_shift 66 = .ok (.getfield 144, 3) := by decide +kernel
theorem dX7_shift_69 : decode cX7_shift 69 = .ok (.iload_n 2, 1) := by decide +kernel
theorem dX7_shift_70 : decode cX7_shift 70 = .ok (.invokevirtual 181, 3) := by decide +kernel
theorem dX7_shift_73 : decode cX7_shift 73 = .ok (.aload_n 0, 1) := by decide +kernel
theorem dX7_shift_74 : decode cX7_shift 74 = .ok (.getfield 60, 3) := by decide +kernel
theorem dX7_shift_77 : decode cX7_shift 77 = .ok (.aload_n 3, 1) := by decide +kernel
theorem dX7_shift_78 : decode cX7_shift 78 = .ok (.getfield 144, 3) := by decide +kernel
theorem dX7_shift_81 : decode cX7_shift 81 = .ok (.invokestatic 185, 3) := by decide +kernel
theorem dX7_shift_84 : decode cX7_shift 84 = .ok (.iload 5, 2) := by decide +kernel
theorem dX7_shift_86 : decode cX7_shift 86 = .ok (.aload_n 3, 1) := by decide +kernel
theorem dX7_shift_87 : decode cX7_shift 87 = .ok (.getfield 144, 3) := by decide +kernel
theorem dX7_shift_90 : decode cX7_shift 90 = .ok (.invokestatic 151, 3) := by decide +kernel
theorem dX7_shift_93 : decode cX7_shift 93 = .ok (.isub, 1) := by decide +kernel
theorem dX7_shift_94 : decode cX7_shift 94 = .ok (.ireturn, 1) := by decide +kernel
theorem dX7_on_0 : decode cX7_on 0 = .ok (.aload_n 0, 1) := by decide +kernel
theorem dX7_on_1 : decode cX7_on 1 = .ok (.iload_n 1, 1) := by decide +kernel
theorem dX7_on_2 : decode cX7_on 2 = .ok (.invokevirtual 87, 3) := by decide +kernel
theorem dX7_on_5 : decode cX7_on 5 = .ok (.astore_n 3, 1) := by decide +kernel
theorem dX7_on_6 : decode cX7_on 6 = .ok (.aload_n 3, 1) := by decide +kernel
theorem dX7_on_7 : decode cX7_on 7 = .ok (.ifnull 14, 3) := by decide +kernel
theorem dX7_on_10 : decode cX7_on 10 = .ok (.iload_n 2, 1) := by decide +kernel
theorem dX7_on_11 : decode cX7_on 11 = .ok (.ldc 189, 2) := by decide +kernel
theorem dX7_on_13 : decode cX7_on 13 = .ok (.ldc 190, 2) := by decide +kernel
theorem dX7_on_15 : decode cX7_on 15 = .ok (.invokestatic 102, 3) := by decide +kernel
theorem dX7_on_18 : decode cX7_on 18 = .ok (.ifCond .ne 6, 3) := by decide +kernel
theorem dX7_on_21 : decode cX7_on 21 = .ok (.bipush (-2), 2) := by decide +kernel
theorem dX7_on_23 : decode cX7_on 23 = .ok (.ireturn, 1) := by decide +kernel
theorem dX7_on_24 : decode cX7_on 24 = .ok (.aload_n 3, 1) := by decide +kernel
theorem dX7_on_25 : decode cX7_on 25 = .ok (.getfield 91, 3) := by decide +kernel
theorem dX7_on_28 : decode cX7_on 28 = .ok (.astore 4, 2) := by decide +kernel
theorem dX7_on_30 : decode cX7_on 30 = .ok (.aload 4, 2) := by decide +kernel
theorem dX7_on_32 : decode cX7_on 32 = .ok (.ifnonnull 6, 3) := by decide +kernel
theorem dX7_on_35 : decode cX7_on 35 = .ok (.bipush (-11), 2) := by decide +kernel
theorem dX7_on_37 : decode cX7_on 37 = .ok (.ireturn, 1) := by decide +kernel
theorem dX7_on_38 : decode cX7_on 38 = .ok (.aload 4, 2) := by decide +kernel
theorem dX7_on_40 : decode cX7_on 40 = .ok (.aload_n 3, 1) := by decide +kernel
theorem dX7_on_41 : decode cX7_on 41 = .ok (.getfield 144, 3) := by decide +kernel
theorem dX7_on_44 : decode cX7_on 44 = .ok (.invokevirtual 147, 3) := by decide +kernel
theorem dX7_on_47 : decode cX7_on 47 = .ok (.ifCond .ne 6, 3) := by decide +kernel
theorem dX7_on_50 : decode cX7_on 50 = .ok (.bipush (-3), 2) := by decide +kernel
theorem dX7_on_52 : decode cX7_on 52 = .ok (.ireturn, 1) := by decide +kernel
theorem dX7_on_53 : decode cX7_on 53 = .ok (.aload 4, 2) := by decide +kernel
theorem dX7_on_55 : decode cX7_on 55 = .ok (.aload_n 3, 1) := by decide +kernel
theorem dX7_on_56 : decode cX7_on 56 = .ok (.getfield 144, 3) := by decide +kernel
theorem dX7_on_59 : decode cX7_on 59 = .ok (.invokevirtual 158, 3) := by decide +kernel
theorem dX7_on_62 : decode cX7_on 62 = .ok (.iload_n 2, 1) := by decide +kernel
theorem dX7_on_63 : decode cX7_on 63 = .ok (.i2l, 1) := by decide +kernel
theorem dX7_on_64 : decode cX7_on 64 = .ok (.ladd, 1) := by decide +kernel
theorem dX7_on_65 : decode cX7_on 65 = .ok (.lstore 5, 2) := by decide +kernel
theorem dX7_on_67 : decode cX7_on 67 = .ok (.lload 5, 2) := by decide +kernel
theorem dX7_on_69 : decode cX7_on 69 = .ok (.lconst 0, 1) := by decide +kernel
theorem dX7_on_70 : decode cX7_on 70 = .ok (.lcmp, 1) := by decide +kernel
theorem dX7_on_71 : decode cX7_on 71 = .ok (.ifCond .lt 14, 3) := by decide +kernel
theorem dX7_on_74 : decode cX7_on 74 = .ok (.lload 5, 2) := by decide +kernel
theorem dX7_on_76 : decode cX7_on 76 = .ok (.aload 4, 2) := by decide +kernel
theorem dX7_on_78 : decode cX7_on 78 = .ok (.getfield 126, 3) := by decide +kernel
theorem dX7_on_81 : decode cX7_on 81 = .ok (.lcmp, 1) := by decide +kernel
theorem dX7_on_82 : decode cX7_on 82 = .ok (.ifCond .le 8, 3) := by decide +kernel
theorem dX7_on_85 : decode cX7_on 85 = .ok (.bipush (-4), 2) := by decide +kernel
theorem dX7_on_87 : decode cX7_on 87 = .ok (.goto 16, 3) := by decide +kernel
theorem dX7_on_90 : decode cX7_on 90 = .ok (.aload_n 0, 1) := by decide +kernel
theorem dX7_on_91 : decode cX7_on 91 = .ok (.iload_n 1, 1) := by decide +kernel
theorem dX7_on_92 : decode cX7_on 92 = .ok (.aload 4, 2) := by decide +kernel
theorem dX7_on_94 : decode cX7_on 94 = .ok (.aload_n 3, 1) := by decide +kernel
theorem dX7_on_95 : decode cX7_on 95 = .ok (.getfield 144, 3) := by decide +kernel
theorem dX7_on_98 : decode cX7_on 98 = .ok (.lload 5, 2) := by decide +kernel
theorem dX7_on_100 : decode cX7_on 100 = .ok (.invokevirtual 177, 3) := by decide +kernel
theorem dX7_on_103 : decode cX7_on 103 = .ok (.ireturn, 1) := by decide +kernel
theorem dX7_soon_0 : decode cX7_soon 0 = .ok (.aload_n 0, 1) := by decide +kernel
theorem dX7_soon_1 : decode cX7_soon 1 = .ok (.iload_n 1, 1) := by decide +kernel
theorem dX7_soon_2 : decode cX7_soon 2 = .ok (.invokevirtual 87, 3) := by decide +kernel
theorem dX7_soon_5 : decode cX7_soon 5 = .ok (.astore_n 3, 1) := by decide +kernel
theorem dX7_soon_6 : decode cX7_soon 6 = .ok (.aload_n 3, 1) := by decide +kernel
theorem dX7_soon_7 : decode cX7_soon 7 = .ok (.ifnonnull 6, 3) := by decide +kernel
theorem dX7_soon_10 : decode cX7_soon 10 = .ok (.bipush (-2), 2) := by decide +kernel
theorem dX7_soon_12 : decode cX7_soon 12 = .ok (.ireturn, 1) := by decide +kernel
theorem dX7_soon_13 : decode cX7_soon 13 = .ok (.aload_n 3, 1) := by decide +kernel
theorem dX7_soon_14 : decode cX7_soon 14 = .ok (.getfield 91, 3) := by decide +kernel
theorem dX7_soon_17 : decode cX7_soon 17 = .ok (.astore 4, 2) := by decide +kernel
theorem dX7_soon_19 : decode cX7_soon 19 = .ok (.aload 4, 2) := by decide +kernel
theorem dX7_soon_21 : decode cX7_soon 21 = .ok (.ifnonnull 6, 3) := by decide +kernel
theorem dX7_soon_24 : decode cX7_soon 24 = .ok (.bipush (-11), 2) := by decide +kernel
theorem dX7_soon_26 : decode cX7_soon 26 = .ok (.ireturn, 1) := by decide +kernel
theorem dX7_soon_27 : decode cX7_soon 27 = .ok (.aload 4, 2) := by decide +kernel
theorem dX7_soon_29 : decode cX7_soon 29 = .ok (.iload_n 2, 1) := by decide +kernel
theorem dX7_soon_30 : decode cX7_soon 30 = .ok (.invokevirtual 113, 3) := by decide +kernel
theorem dX7_soon_33 : decode cX7_soon 33 = .ok (.ifCond .ne 6, 3) := by decide +kernel
theorem dX7_soon_36 : decode cX7_soon 36 = .ok (.bipush (-12), 2) := by decide +kernel
theorem dX7_soon_38 : decode cX7_soon 38 = .ok (.ireturn, 1) := by decide +kernel
theorem dX7_soon_39 : decode cX7_soon 39 = .ok (.aload 4, 2) := by decide +kernel
theorem dX7_soon_41 : decode cX7_soon 41 = .ok (.aload_n 3, 1) := by decide +kernel
theorem dX7_soon_42 : decode cX7_soon 42 = .ok (.getfield 144, 3) := by decide +kernel
theorem dX7_soon_45 : decode cX7_soon 45 = .ok (.invokevirtual 147, 3) := by decide +kernel
theorem dX7_soon_48 : decode cX7_soon 48 = .ok (.ifCond .ne 6, 3) := by decide +kernel
theorem dX7_soon_51 : decode cX7_soon 51 = .ok (.bipush (-3), 2) := by decide +kernel
theorem dX7_soon_53 : decode cX7_soon 53 = .ok (.ireturn, 1) := by decide +kernel
theorem dX7_soon_54 : decode cX7_soon 54 = .ok (.aload 4, 2) := by decide +kernel
theorem dX7_soon_56 : decode cX7_soon 56 = .ok (.aload_n 3, 1) := by decide +kernel
theorem dX7_soon_57 : decode cX7_soon 57 = .ok (.getfield 144, 3) := by decide +kernel
theorem dX7_soon_60 : decode cX7_soon 60 = .ok (.iload_n 2, 1) := by decide +kernel
theorem dX7_soon_61 : decode cX7_soon 61 = .ok (.invokevirtual 191, 3) := by decide +kernel
theorem dX7_soon_64 : decode cX7_soon 64 = .ok (.lstore 5, 2) := by decide +kernel
theorem dX7_soon_66 : decode cX7_soon 66 = .ok (.lload 5, 2) := by decide +kernel
theorem dX7_soon_68 : decode cX7_soon 68 = .ok (.ldc2_w 195, 3) := by decide +kernel
theorem dX7_soon_71 : decode cX7_soon 71 = .ok (.lcmp, 1) := by decide +kernel
theorem dX7_soon_72 : decode cX7_soon 72 = .ok (.ifCond .gt 28, 3) := by decide +kernel
theorem dX7_soon_75 : decode cX7_soon 75 = .ok (.aload 4, 2) := by decide +kernel
theorem dX7_soon_77 : decode cX7_soon 77 = .ok (.aload_n 3, 1) := by decide +kernel
theorem dX7_soon_78 : decode cX7_soon 78 = .ok (.getfield 144, 3) := by decide +kernel
theorem dX7_soon_81 : decode cX7_soon 81 = .ok (.invokevirtual 158, 3) := by decide +kernel
theorem dX7_soon_84 : decode cX7_soon 84 = .ok (.lload 5, 2) := by decide +kernel
theorem dX7_soon_86 : decode cX7_soon 86 = .ok (.ladd, 1) := by decide +kernel
theorem dX7_soon_87 : decode cX7_soon 87 = .ok (.aload 4, 2) := by decide +kernel
theorem dX7_soon_89 : decode cX7_soon 89 = .ok (.getfield 126, 3) := by decide +kernel
theorem dX7_soon_92 : decode cX7_soon 92 = .ok (.lcmp, 1) := by decide +kernel
theorem dX7_soon_93 : decode cX7_soon 93 = .ok (.ifCond .gt 7, 3) := by decide +kernel
theorem dX7_soon_96 : decode cX7_soon 96 = .ok (.iconst 1, 1) := by decide +kernel
theorem dX7_soon_97 : decode cX7_soon 97 = .ok (.goto 4, 3) := by decide +kernel
theorem dX7_soon_100 : decode cX7_soon 100 = .ok (.iconst 0, 1) := by decide +kernel
theorem dX7_soon_101 : decode cX7_soon 101 = .ok (.istore 7, 2) := by decide +kernel
theorem dX7_soon_103 : decode cX7_soon 103 = .ok (.iload 7, 2) := by decide +kernel
theorem dX7_soon_105 : decode cX7_soon 105 = .ok (.ifCond .eq 9, 3) := by decide +kernel
theorem dX7_soon_108 : decode cX7_soon 108 = .ok (.lload 5, 2) := by decide +kernel
theorem dX7_soon_110 : decode cX7_soon 110 = .ok (.l2i, 1) := by decide +kernel
theorem dX7_soon_111 : decode cX7_soon 111 = .ok (.goto 4, 3) := by decide +kernel
theorem dX7_soon_114 : decode cX7_soon 114 = .ok (.iconst (-1), 1) := by decide +kernel
theorem dX7_soon_115 : decode cX7_soon 115 = .ok (.ireturn, 1) := by decide +kernel
theorem dX7_sum_0 : decode cX7_sum 0 = .ok (.aload_n 0, 1) := by decide +kernel
theorem dX7_sum_1 : decode cX7_sum 1 = .ok (.iload_n 1, 1) := by decide +kernel
theorem dX7_sum_2 : decode cX7_sum 2 = .ok (.invokevirtual 87, 3) := by decide +kernel
theorem dX7_sum_5 : decode cX7_sum 5 = .ok (.astore 5, 2) := by decide +kernel
theorem dX7_sum_7 : decode cX7_sum 7 = .ok (.aload_n 0, 1) := by decide +kernel
theorem dX7_sum_8 : decode cX7_sum 8 = .ok (.iload_n 2, 1) := by decide +kernel
theorem dX7_sum_9 : decode cX7_sum 9 = .ok (.invokevirtual 87, 3) := by decide +kernel
theorem dX7_sum_12 : decode cX7_sum 12 = .ok (.astore 6, 2) := by decide +kernel
theorem dX7_sum_14 : decode cX7_sum 14 = .ok (.aload 5, 2) := by decide +kernel
theorem dX7_sum_16 : decode cX7_sum 16 = .ok (.ifnull 26, 3) := by decide +kernel
theorem dX7_sum_19 : decode cX7_sum 19 = .ok (.aload 6, 2) := by decide +kernel
theorem dX7_sum_21 : decode cX7_sum 21 = .ok (.ifnull 21, 3) := by decide +kernel
theorem dX7_sum_24 : decode cX7_sum 24 = .ok (.aload_n 0, 1) := by decide +kernel
theorem dX7_sum_25 : decode cX7_sum 25 = .ok (.iload_n 3, 1) := by decide +kernel
theorem dX7_sum_26 : decode cX7_sum 26 = .ok (.invokevirtual 87, 3) := by decide +kernel
theorem dX7_sum_29 : decode cX7_sum 29 = .ok (.ifnull 13, 3) := by decide +kernel
theorem dX7_sum_32 : decode cX7_sum 32 = .ok (.iload 4, 2) := by decide +kernel
theorem dX7_sum_34 : decode cX7_sum 34 = .ok (.iconst 0, 1) := by decide +kernel
theorem dX7_sum_35 : decode cX7_sum 35 = .ok (.iconst 4, 1) := by decide +kernel
theorem dX7_sum_36 : decode cX7_sum 36 = .ok (.invokestatic 102, 3) := by decide +kernel
theorem dX7_sum_39 : decode cX7_sum 39 = .ok (.ifCond .ne 6, 3) := by decide +kernel
theorem dX7_sum_42 : decode cX7_sum 42 = .ok (.bipush (-2), 2) := by decide +kernel
theorem dX7_sum_44 : decode cX7_sum 44 = .ok (.ireturn, 1) := by decide +kernel
theorem dX7_sum_45 : decode cX7_sum 45 = .ok (.aload 5, 2) := by decide +kernel
theorem dX7_sum_47 : decode cX7_sum 47 = .ok (.getfield 91, 3) := by decide +kernel
theorem dX7_sum_50 : decode cX7_sum 50 = .ok (.astore 7, 2) := by decide +kernel
theorem dX7_sum_52 : decode cX7_sum 52 = .ok (.aload 7, 2) := by decide +kernel
theorem dX7_sum_54 : decode cX7_sum 54 = .ok (.ifnull 11, 3) := by decide +kernel
theorem dX7_sum_57 : decode cX7_sum 57 = .ok (.aload 6, 2) := by decide +kernel
theorem dX7_sum_59 : decode cX7_sum 59 = .ok (.getfield 91, 3) := by decide +kernel
theorem dX7_sum_62 : decode cX7_sum 62 = .ok (.ifnonnull 6, 3) := by decide +kernel
theorem dX7_sum_65 : decode cX7_sum 65 = .ok (.bipush (-11), 2) := by decide +kernel
theorem dX7_sum_67 : decode cX7_sum 67 = .ok (.ireturn, 1) := by decide +kernel
theorem dX7_sum_68 : decode cX7_sum 68 = .ok (.aload 7, 2) := by decide +kernel
theorem dX7_sum_70 : decode cX7_sum 70 = .ok (.aload 6, 2) := by decide +kernel
theorem dX7_sum_72 : decode cX7_sum 72 = .ok (.getfield 91, 3) := by decide +kernel
theorem dX7_sum_75 : decode cX7_sum 75 = .ok (.if_acmp .eq 6, 3) := by decide +kernel
theorem dX7_sum_78 : decode cX7_sum 78 = .ok (.bipush (-13), 2) := by decide +kernel
theorem dX7_sum_80 : decode cX7_sum 80 = .ok (.ireturn, 1) := by decide +kernel
theorem dX7_sum_81 : decode cX7_sum 81 = .ok (.iload 4, 2) := by decide +kernel
theorem dX7_sum_83 : decode cX7_sum 83 = .ok (.ifCond .ne 40, 3) := by decide +kernel
theorem dX7_sum_86 : decode cX7_sum 86 = .ok (.aload_n 0, 1) := by decide +kernel
theorem dX7_sum_87 : decode cX7_sum 87 = .ok (.getfield 60, 3) := by decide +kernel
theorem dX7_sum_90 : decode cX7_sum 90 = .ok (.aload 5, 2) := by decide +kernel
theorem dX7_sum_92 : decode cX7_sum 92 = .ok (.getfield 144, 3) := by decide +kernel
theorem dX7_sum_95 : decode cX7_sum 95 = .ok (.aload 6, 2) := by decide +kernel
theorem dX7_sum_97 : decode cX7_sum 97 = .ok (.getfield 144, 3) := by decide +kernel
theorem dX7_sum_100 : decode cX7_sum 100 = .ok (.invokestatic 197, 3) := by decide +kernel
theorem dX7_sum_103 : decode cX7_sum 103 = .ok (.ifCond .eq 17, 3) := by decide +kernel
theorem dX7_sum_106 : decode cX7_sum 106 = .ok (.aload_n 0, 1) := by decide +kernel
theorem dX7_sum_107 : decode cX7_sum 107 = .ok (.iload_n 3, 1) := by decide +kernel
theorem dX7_sum_108 : decode cX7_sum 108 = .ok (.aload 7, 2) := by decide +kernel
theorem dX7_sum_110 : decode cX7_sum 110 = .ok (.aload_n 0, 1) := by decide +kernel
theorem dX7_sum_111 : decode cX7_sum 111 = .ok (.getfield 60, 3) := by decide +kernel
theorem dX7_sum_114 : decode cX7_sum 114 = .ok (.invokevirtual 137, 3) := by decide +kernel
theorem dX7_sum_117 : decode cX7_sum 117 = .ok (.goto 5, 3) := by decide +kernel
theorem dX7_sum_120 : decode cX7_sum 120 = .ok (.bipush (-3), 2) := by decide +kernel
theorem dX7_sum_122 : decode cX7_sum 122 = .ok (.ireturn, 1) := by decide +kernel
theorem dX7_sum_123 : decode cX7_sum 123 = .ok (.aload 7, 2) := by decide +kernel
theorem dX7_sum_125 : decode cX7_sum 125 = .ok (.aload 5, 2) := by decide +kernel
theorem dX7_sum_127 : decode cX7_sum 127 = .ok (.getfield 144, 3) := by decide +kernel
theorem dX7_sum_130 : decode cX7_sum 130 = .ok (.invokevirtual 158, 3) := by decide +kernel
theorem dX7_sum_133 : decode cX7_sum 133 = .ok (.aload 7, 2) := by decide +kernel
theorem dX7_sum_135 : decode cX7_sum 135 = .ok (.aload 6, 2) := by decide +kernel
theorem dX7_sum_137 : decode cX7_sum 137 = .ok (.getfield 144, 3) := by decide +kernel
theorem dX7_sum_140 : decode cX7_sum 140 = .ok (.invokevirtual 158, 3) := by decide +kernel
theorem dX7_sum_143 : decode cX7_sum 143 = .ok (.iload 4, 2) := by decide +kernel
theorem dX7_sum_145 : decode cX7_sum 145 = .ok (.aload 7, 2) := by decide +kernel
theorem dX7_sum_147 : decode cX7_sum 147 = .ok (.getfield 126, 3) := by decide +kernel
theorem dX7_sum_150 : decode cX7_sum 150 = .ok (.invokestatic 201, 3) := by decide +kernel
theorem dX7_sum_153 : decode cX7_sum 153 = .ok (.lstore 8, 2) := by decide +kernel
theorem dX7_sum_155 : decode cX7_sum 155 = .ok (.lload 8, 2) := by decide +kernel
theorem dX7_sum_157 : decode cX7_sum 157 = .ok (.lconst 0, 1) := by decide +kernel
theorem dX7_sum_158 : decode cX7_sum 158 = .ok (.lcmp, 1) := by decide +kernel
theorem dX7_sum_159 : decode cX7_sum 159 = .ok (.ifCond .lt 14, 3) := by decide +kernel
theorem dX7_sum_162 : decode cX7_sum 162 = .ok (.lload 8, 2) := by decide +kernel
theorem dX7_sum_164 : decode cX7_sum 164 = .ok (.aload 7, 2) := by decide +kernel
theorem dX7_sum_166 : decode cX7_sum 166 = .ok (.getfield 126, 3) := by decide +kernel
theorem dX7_sum_169 : decode cX7_sum 169 = .ok (.lcmp, 1) := by decide +kernel
theorem dX7_sum_170 : decode cX7_sum 170 = .ok (.ifCond .le 8, 3) := by decide +kernel
theorem dX7_sum_173 : decode cX7_sum 173 = .ok (.bipush (-3), 2) := by decide +kernel
theorem dX7_sum_175 : decode cX7_sum 175 = .ok (.goto 15, 3) := by decide +kernel
theorem dX7_sum_178 : decode cX7_sum 178 = .ok (.aload_n 0, 1) := by decide +kernel
theorem dX7_sum_179 : decode cX7_sum 179 = .ok (.iload_n 3, 1) := by decide +kernel
theorem dX7_sum_180 : decode cX7_sum 180 = .ok (.aload 7, 2) := by decide +kernel
theorem dX7_sum_182 : decode cX7_sum 182 = .ok (.getfield 141, 3) := by decide +kernel
theorem dX7_sum_185 : decode cX7_sum 185 = .ok (.lload 8, 2) := by decide +kernel
theorem dX7_sum_187 : decode cX7_sum 187 = .ok (.invokevirtual 205, 3) := by decide +kernel
theorem dX7_sum_190 : decode cX7_sum 190 = .ok (.ireturn, 1) := by decide +kernel
theorem dX7_like_0 : decode cX7_like 0 = .ok (.aload_n 0, 1) := by decide +kernel
theorem dX7_like_1 : decode cX7_like 1 = .ok (.iload_n 1, 1) := by decide +kernel
theorem dX7_like_2 : decode cX7_like 2 = .ok (.invokevirtual 87, 3) := by decide +kernel
theorem dX7_like_5 : decode cX7_like 5 = .ok (.astore 4, 2) := by decide +kernel
theorem dX7_like_7 : decode cX7_like 7 = .ok (.aload_n 0, 1) := by decide +kernel
theorem dX7_like_8 : decode cX7_like 8 = .ok (.iload_n 2, 1) := by decide +kernel
theorem dX7_like_9 : decode cX7_like 9 = .ok (.invokevirtual 87, 3) := by decide +kernel
theorem dX7_like_12 : decode cX7_like 12 = .ok (.astore 5, 2) := by decide +kernel
theorem dX7_like_14 : decode cX7_like 14 = .ok (.aload 4, 2) := by decide +kernel
theorem dX7_like_16 : decode cX7_like 16 = .ok (.ifnull 17, 3) := by decide +kernel
theorem dX7_like_19 : decode cX7_like 19 = .ok (.aload 5, 2) := by decide +kernel
theorem dX7_like_21 : decode cX7_like 21 = .ok (.ifnull 12, 3) := by decide +kernel
theorem dX7_like_24 : decode cX7_like 24 = .ok (.iload_n 3, 1) := by decide +kernel
theorem dX7_like_25 : decode cX7_like 25 = .ok (.iconst 0, 1) := by decide +kernel
theorem dX7_like_26 : decode cX7_like 26 = .ok (.iconst 1, 1) := by decide +kernel
theorem dX7_like_27 : decode cX7_like 27 = .ok (.invokestatic 102, 3) := by decide +kernel
theorem dX7_like_30 : decode cX7_like 30 = .ok (.ifCond .ne 6, 3) := by decide +kernel
theorem dX7_like_33 : decode cX7_like 33 = .ok (.bipush (-2), 2) := by decide +kernel
theorem dX7_like_35 : decode cX7_like 35 = .ok (.ireturn, 1) := by decide +kernel
theorem dX7_like_36 : decode cX7_like 36 = .ok (.aload 4, 2) := by decide +kernel
theorem dX7_like_38 : decode cX7_like 38 = .ok (.getfield 91, 3) := by decide +kernel
theorem dX7_like_41 : decode cX7_like 41 = .ok (.astore 6, 2) := by decide +kernel
theorem dX7_like_43 : decode cX7_like 43 = .ok (.aload 5, 2) := by decide +kernel
theorem dX7_like_45 : decode cX7_like 45 = .ok (.getfield 91, 3) := by decide +kernel
theorem dX7_like_48 : decode cX7_like 48 = .ok (.astore 7, 2) := by decide +kernel
theorem dX7_like_50 : decode cX7_like 50 = .ok (.aload 6, 2) := by decide +kernel
theorem dX7_like_52 : decode cX7_like 52 = .ok (.ifnull 8, 3) := by decide +kernel
theorem dX7_like_55 : decode cX7_like 55 = .ok (.aload 7, 2) := by decide +kernel
