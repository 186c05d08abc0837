theorem dX8_goes_79 : decode cX8_goes 79 = .ok (.dup2, 1) := by decide +kernel
theorem dX8_goes_80 : decode cX8_goes 80 = .ok (.iaload, 1) := by decide +kernel
theorem dX8_goes_81 : decode cX8_goes 81 = .ok (.iload_n 3, 1) := by decide +kernel
theorem dX8_goes_82 : decode cX8_goes 82 = .ok (.iadd, 1) := by decide +kernel
theorem dX8_goes_83 : decode cX8_goes 83 = .ok (.iastore, 1) := by decide +kernel
theorem dX8_goes_84 : decode cX8_goes 84 = .ok (.return_, 1) := by decide +kernel
theorem dX8_borrow_0 : decode cX8_borrow 0 = .ok (.aload_n 0, 1) := by decide +kernel
theorem dX8_borrow_1 : decode cX8_borrow 1 = .ok (.iload_n 1, 1) := by decide +kernel
theorem dX8_borrow_2 : decode cX8_borrow 2 = .ok (.iload_n 2, 1) := by decide +kernel
theorem dX8_borrow_3 : decode cX8_borrow 3 = .ok (.iconst 2, 1) := by decide +kernel
theorem dX8_borrow_4 : decode cX8_borrow 4 = .ok (.invokevirtual 171, 3) := by decide +kernel
theorem dX8_borrow_7 : decode cX8_borrow 7 = .ok (.istore_n 3, 1) := by decide +kernel
theorem dX8_borrow_8 : decode cX8_borrow 8 = .ok (.iload_n 3, 1) := by decide +kernel
theorem dX8_borrow_9 : decode cX8_borrow 9 = .ok (.ifCond .eq 5, 3) := by decide +kernel
theorem dX8_borrow_12 : decode cX8_borrow 12 = .ok (.iload_n 3, 1) := by decide +kernel
theorem dX8_borrow_13 : decode cX8_borrow 13 = .ok (.ireturn, 1) := by decide +kernel
theorem dX8_borrow_14 : decode cX8_borrow 14 = .ok (.aload_n 0, 1) := by decide +kernel
theorem dX8_borrow_15 : decode cX8_borrow 15 = .ok (.iload_n 1, 1) := by decide +kernel
theorem dX8_borrow_16 : decode cX8_borrow 16 = .ok (.iload_n 2, 1) := by decide +kernel
theorem dX8_borrow_17 : decode cX8_borrow 17 = .ok (.iconst 1, 1) := by decide +kernel
theorem dX8_borrow_18 : decode cX8_borrow 18 = .ok (.invokevirtual 191, 3) := by decide +kernel
theorem dX8_borrow_21 : decode cX8_borrow 21 = .ok (.ifCond .ne 6, 3) := by decide +kernel
theorem dX8_borrow_24 : decode cX8_borrow 24 = .ok (.bipush (-3), 2) := by decide +kernel
theorem dX8_borrow_26 : decode cX8_borrow 26 = .ok (.ireturn, 1) := by decide +kernel
theorem dX8_borrow_27 : decode cX8_borrow 27 = .ok (.aload_n 0, 1) := by decide +kernel
theorem dX8_borrow_28 : decode cX8_borrow 28 = .ok (.iload_n 1, 1) := by decide +kernel
theorem dX8_borrow_29 : decode cX8_borrow 29 = .ok (.invokevirtual 188, 3) := by decide +kernel
theorem dX8_borrow_32 : decode cX8_borrow 32 = .ok (.aload_n 0, 1) := by decide +kernel
theorem dX8_borrow_33 : decode cX8_borrow 33 = .ok (.iload_n 1, 1) := by decide +kernel
theorem dX8_borrow_34 : decode cX8_borrow 34 = .ok (.iload_n 2, 1) := by decide +kernel
theorem dX8_borrow_35 : decode cX8_borrow 35 = .ok (.iconst 1, 1) := by decide +kernel
theorem dX8_borrow_36 : decode cX8_borrow 36 = .ok (.invokevirtual 195, 3) := by decide +kernel
theorem dX8_borrow_39 : decode cX8_borrow 39 = .ok (.aload_n 0, 1) := by decide +kernel
theorem dX8_borrow_40 : decode cX8_borrow 40 = .ok (.iload_n 1, 1) := by decide +kernel
theorem dX8_borrow_41 : decode cX8_borrow 41 = .ok (.iload_n 2, 1) := by decide +kernel
theorem dX8_borrow_42 : decode cX8_borrow 42 = .ok (.invokevirtual 140, 3) := by decide +kernel
theorem dX8_borrow_45 : decode cX8_borrow 45 = .ok (.ireturn, 1) := by decide +kernel
theorem dX8_carry_0 : decode cX8_carry 0 = .ok (.aload_n 0, 1) := by decide +kernel
theorem dX8_carry_1 : decode cX8_carry 1 = .ok (.iload_n 1, 1) := by decide +kernel
theorem dX8_carry_2 : decode cX8_carry 2 = .ok (.iload_n 2, 1) := by decide +kernel
theorem dX8_carry_3 : decode cX8_carry 3 = .ok (.iconst 2, 1) := by decide +kernel
theorem dX8_carry_4 : decode cX8_carry 4 = .ok (.invokevirtual 171, 3) := by decide +kernel
theorem dX8_carry_7 : decode cX8_carry 7 = .ok (.istore_n 3, 1) := by decide +kernel
theorem dX8_carry_8 : decode cX8_carry 8 = .ok (.iload_n 3, 1) := by decide +kernel
theorem dX8_carry_9 : decode cX8_carry 9 = .ok (.ifCond .eq 5, 3) := by decide +kernel
theorem dX8_carry_12 : decode cX8_carry 12 = .ok (.iload_n 3, 1) := by decide +kernel
theorem dX8_carry_13 : decode cX8_carry 13 = .ok (.ireturn, 1) := by decide +kernel
theorem dX8_carry_14 : decode cX8_carry 14 = .ok (.aload_n 0, 1) := by decide +kernel
theorem dX8_carry_15 : decode cX8_carry 15 = .ok (.iload_n 1, 1) := by decide +kernel
theorem dX8_carry_16 : decode cX8_carry 16 = .ok (.iload_n 2, 1) := by decide +kernel
theorem dX8_carry_17 : decode cX8_carry 17 = .ok (.iconst (-1), 1) := by decide +kernel
theorem dX8_carry_18 : decode cX8_carry 18 = .ok (.invokevirtual 191, 3) := by decide +kernel
theorem dX8_carry_21 : decode cX8_carry 21 = .ok (.ifCond .ne 6, 3) := by decide +kernel
theorem dX8_carry_24 : decode cX8_carry 24 = .ok (.bipush (-3), 2) := by decide +kernel
theorem dX8_carry_26 : decode cX8_carry 26 = .ok (.ireturn, 1) := by decide +kernel
theorem dX8_carry_27 : decode cX8_carry 27 = .ok (.aload_n 0, 1) := by decide +kernel
theorem dX8_carry_28 : decode cX8_carry 28 = .ok (.iload_n 1, 1) := by decide +kernel
theorem dX8_carry_29 : decode cX8_carry 29 = .ok (.invokevirtual 188, 3) := by decide +kernel
theorem dX8_carry_32 : decode cX8_carry 32 = .ok (.aload_n 0, 1) := by decide +kernel
theorem dX8_carry_33 : decode cX8_carry 33 = .ok (.iload_n 1, 1) := by decide +kernel
theorem dX8_carry_34 : decode cX8_carry 34 = .ok (.iload_n 2, 1) := by decide +kernel
theorem dX8_carry_35 : decode cX8_carry 35 = .ok (.iconst (-1), 1) := by decide +kernel
theorem dX8_carry_36 : decode cX8_carry 36 = .ok (.invokevirtual 195, 3) := by decide +kernel
theorem dX8_carry_39 : decode cX8_carry 39 = .ok (.aload_n 0, 1) := by decide +kernel
theorem dX8_carry_40 : decode cX8_carry 40 = .ok (.iload_n 1, 1) := by decide +kernel
theorem dX8_carry_41 : decode cX8_carry 41 = .ok (.iload_n 2, 1) := by decide +kernel
theorem dX8_carry_42 : decode cX8_carry 42 = .ok (.iconst 1, 1) := by decide +kernel
theorem dX8_carry_43 : decode cX8_carry 43 = .ok (.iadd, 1) := by decide +kernel
theorem dX8_carry_44 : decode cX8_carry 44 = .ok (.invokevirtual 140, 3) := by decide +kernel
theorem dX8_carry_47 : decode cX8_carry 47 = .ok (.ireturn, 1) := by decide +kernel
theorem dX8_settle_0 : decode cX8_settle 0 = .ok (.aload_n 0, 1) := by decide +kernel
theorem dX8_settle_1 : decode cX8_settle 1 = .ok (.iload_n 1, 1) := by decide +kernel
theorem dX8_settle_2 : decode cX8_settle 2 = .ok (.invokevirtual 162, 3) := by decide +kernel
theorem dX8_settle_5 : decode cX8_settle 5 = .ok (.istore_n 2, 1) := by decide +kernel
theorem dX8_settle_6 : decode cX8_settle 6 = .ok (.iload_n 2, 1) := by decide +kernel
theorem dX8_settle_7 : decode cX8_settle 7 = .ok (.ifCond .eq 5, 3) := by decide +kernel
theorem dX8_settle_10 : decode cX8_settle 10 = .ok (.iload_n 2, 1) := by decide +kernel
theorem dX8_settle_11 : decode cX8_settle 11 = .ok (.ireturn, 1) := by decide +kernel
theorem dX8_settle_12 : decode cX8_settle 12 = .ok (.aload_n 0, 1) := by decide +kernel
theorem dX8_settle_13 : decode cX8_settle 13 = .ok (.iload_n 1, 1) := by decide +kernel
theorem dX8_settle_14 : decode cX8_settle 14 = .ok (.invokevirtual 188, 3) := by decide +kernel
theorem dX8_settle_17 : decode cX8_settle 17 = .ok (.iconst 0, 1) := by decide +kernel
theorem dX8_settle_18 : decode cX8_settle 18 = .ok (.istore_n 3, 1) := by decide +kernel
theorem dX8_settle_19 : decode cX8_settle 19 = .ok (.aload_n 0, 1) := by decide +kernel
theorem dX8_settle_20 : decode cX8_settle 20 = .ok (.iload_n 1, 1) := by decide +kernel
theorem dX8_settle_21 : decode cX8_settle 21 = .ok (.invokevirtual 137, 3) := by decide +kernel
theorem dX8_settle_24 : decode cX8_settle 24 = .ok (.iconst 2, 1) := by decide +kernel
theorem dX8_settle_25 : decode cX8_settle 25 = .ok (.isub, 1) := by decide +kernel
theorem dX8_settle_26 : decode cX8_settle 26 = .ok (.istore 4, 2) := by decide +kernel
theorem dX8_settle_28 : decode cX8_settle 28 = .ok (.iload 4, 2) := by decide +kernel
theorem dX8_settle_30 : decode cX8_settle 30 = .ok (.ifCond .lt 43, 3) := by decide +kernel
theorem dX8_settle_33 : decode cX8_settle 33 = .ok (.aload_n 0, 1) := by decide +kernel
theorem dX8_settle_34 : decode cX8_settle 34 = .ok (.iload_n 1, 1) := by decide +kernel
theorem dX8_settle_35 : decode cX8_settle 35 = .ok (.iload 4, 2) := by decide +kernel
theorem dX8_settle_37 : decode cX8_settle 37 = .ok (.iconst (-1), 1) := by decide +kernel
theorem dX8_settle_38 : decode cX8_settle 38 = .ok (.invokevirtual 191, 3) := by decide +kernel
theorem dX8_settle_41 : decode cX8_settle 41 = .ok (.ifCond .ne 9, 3) := by decide +kernel
theorem dX8_settle_44 : decode cX8_settle 44 = .ok (.iinc 4 (-1), 3) := by decide +kernel
theorem dX8_settle_47 : decode cX8_settle 47 = .ok (.goto (-19), 3) := by decide +kernel
theorem dX8_settle_50 : decode cX8_settle 50 = .ok (.aload_n 0, 1) := by decide +kernel
theorem dX8_settle_51 : decode cX8_settle 51 = .ok (.iload_n 1, 1) := by decide +kernel
theorem dX8_settle_52 : decode cX8_settle 52 = .ok (.iload 4, 2) := by decide +kernel
theorem dX8_settle_54 : decode cX8_settle 54 = .ok (.iconst (-1), 1) := by decide +kernel
theorem dX8_settle_55 : decode cX8_settle 55 = .ok (.invokevirtual 195, 3) := by decide +kernel
theorem dX8_settle_58 : decode cX8_settle 58 = .ok (.iinc 3 1, 3) := by decide +kernel
theorem dX8_settle_61 : decode cX8_settle 61 = .ok (.aload_n 0, 1) := by decide +kernel
theorem dX8_settle_62 : decode cX8_settle 62 = .ok (.iload_n 1, 1) := by decide +kernel
theorem dX8_settle_63 : decode cX8_settle 63 = .ok (.invokevirtual 137, 3) := by decide +kernel
theorem dX8_settle_66 : decode cX8_settle 66 = .ok (.iconst 2, 1) := by decide +kernel
theorem dX8_settle_67 : decode cX8_settle 67 = .ok (.isub, 1) := by decide +kernel
theorem dX8_settle_68 : decode cX8_settle 68 = .ok (.istore 4, 2) := by decide +kernel
theorem dX8_settle_70 : decode cX8_settle 70 = .ok (.goto (-42), 3) := by decide +kernel
theorem dX8_settle_73 : decode cX8_settle 73 = .ok (.iload_n 3, 1) := by decide +kernel
theorem dX8_settle_74 : decode cX8_settle 74 = .ok (.ireturn, 1) := by decide +kernel
theorem dX8_right_0 : decode cX8_right 0 = .ok (.aload_n 0, 1) := by decide +kernel
theorem dX8_right_1 : decode cX8_right 1 = .ok (.iload_n 1, 1) := by decide +kernel
theorem dX8_right_2 : decode cX8_right 2 = .ok (.invokevirtual 162, 3) := by decide +kernel
theorem dX8_right_5 : decode cX8_right 5 = .ok (.istore_n 2, 1) := by decide +kernel
theorem dX8_right_6 : decode cX8_right 6 = .ok (.iload_n 2, 1) := by decide +kernel
theorem dX8_right_7 : decode cX8_right 7 = .ok (.ifCond .eq 5, 3) := by decide +kernel
theorem dX8_right_10 : decode cX8_right 10 = .ok (.iload_n 2, 1) := by decide +kernel
theorem dX8_right_11 : decode cX8_right 11 = .ok (.ireturn, 1) := by decide +kernel
theorem dX8_right_12 : decode cX8_right 12 = .ok (.aload_n 0, 1) := by decide +kernel
theorem dX8_right_13 : decode cX8_right 13 = .ok (.iload_n 1, 1) := by decide +kernel
theorem dX8_right_14 : decode cX8_right 14 = .ok (.invokevirtual 174, 3) := by decide +kernel
theorem dX8_right_17 : decode cX8_right 17 = .ok (.aload_n 0, 1) := by decide +kernel
theorem dX8_right_18 : decode cX8_right 18 = .ok (.getfield 25, 3) := by decide +kernel
theorem dX8_right_21 : decode cX8_right 21 = .ok (.aload_n 0, 1) := by decide +kernel
theorem dX8_right_22 : decode cX8_right 22 = .ok (.getfield 28, 3) := by decide +kernel
theorem dX8_right_25 : decode cX8_right 25 = .ok (.iload_n 1, 1) := by decide +kernel
theorem dX8_right_26 : decode cX8_right 26 = .ok (.iaload, 1) := by decide +kernel
theorem dX8_right_27 : decode cX8_right 27 = .ok (.laload, 1) := by decide +kernel
theorem dX8_right_28 : decode cX8_right 28 = .ok (.lcmp, 1) := by decide +kernel
theorem dX8_right_29 : decode cX8_right 29 = .ok (.ifCond .le 6, 3) := by decide +kernel
theorem dX8_right_32 : decode cX8_right 32 = .ok (.bipush (-3), 2) := by decide +kernel
theorem dX8_right_34 : decode cX8_right 34 = .ok (.ireturn, 1) := by decide +kernel
theorem dX8_right_35 : decode cX8_right 35 = .ok (.aload_n 0, 1) := by decide +kernel
theorem dX8_right_36 : decode cX8_right 36 = .ok (.aload_n 0, 1) := by decide +kernel
theorem dX8_right_37 : decode cX8_right 37 = .ok (.getfield 28, 3) := by decide +kernel
theorem dX8_right_40 : decode cX8_right 40 = .ok (.iload_n 1, 1) := by decide +kernel
theorem dX8_right_41 : decode cX8_right 41 = .ok (.iaload, 1) := by decide +kernel
theorem dX8_right_42 : decode cX8_right 42 = .ok (.aload_n 0, 1) := by decide +kernel
theorem dX8_right_43 : decode cX8_right 43 = .ok (.iload_n 1, 1) := by decide +kernel
theorem dX8_right_44 : decode cX8_right 44 = .ok (.invokevirtual 174, 3) := by decide +kernel
theorem dX8_right_47 : decode cX8_right 47 = .ok (.invokevirtual 152, 3) := by decide +kernel
theorem dX8_right_50 : decode cX8_right 50 = .ok (.aload_n 0, 1) := by decide +kernel
theorem dX8_right_51 : decode cX8_right 51 = .ok (.iload_n 1, 1) := by decide +kernel
theorem dX8_right_52 : decode cX8_right 52 = .ok (.invokevirtual 188, 3) := by decide +kernel
theorem dX8_right_55 : decode cX8_right 55 = .ok (.aload_n 0, 1) := by decide +kernel
theorem dX8_right_56 : decode cX8_right 56 = .ok (.iload_n 1, 1) := by decide +kernel
theorem dX8_right_57 : decode cX8_right 57 = .ok (.invokevirtual 143, 3) := by decide +kernel
theorem dX8_right_60 : decode cX8_right 60 = .ok (.ireturn, 1) := by decide +kernel
theorem dX8_shift_0 : decode cX8_shift 0 = .ok (.iload_n 1, 1) := by decide +kernel
theorem dX8_shift_1 : decode cX8_shift 1 = .ok (.invokestatic 149, 3) := by decide +kernel
theorem dX8_shift_4 : decode cX8_shift 4 = .ok (.ifCond .eq 17, 3) := by decide +kernel
theorem dX8_shift_7 : decode cX8_shift 7 = .ok (.iload_n 2, 1) := by decide +kernel
theorem dX8_shift_8 : decode cX8_shift 8 = .ok (.i2l, 1) := by decide +kernel
theorem dX8_shift_9 : decode cX8_shift 9 = .ok (.ldc2_w 199, 3) := by decide +kernel
theorem dX8_shift_12 : decode cX8_shift 12 = .ok (.ldc2_w 201, 3) := by decide +kernel
theorem dX8_shift_15 : decode cX8_shift 15 = .ok (.invokestatic 104, 3) := by decide +kernel
theorem dX8_shift_18 : decode cX8_shift 18 = .ok (.ifCond .ne 6, 3) := by decide +kernel
theorem dX8_shift_21 : decode cX8_shift 21 = .ok (.bipush (-2), 2) := by decide +kernel
theorem dX8_shift_23 : decode cX8_shift 23 = .ok (.ireturn, 1) := by decide +kernel
theorem dX8_shift_24 : decode cX8_shift 24 = .ok (.aload_n 0, 1) := by decide +kernel
theorem dX8_shift_25 : decode cX8_shift 25 = .ok (.iload_n 1, 1) := by decide +kernel
theorem dX8_shift_26 : decode cX8_shift 26 = .ok (.invokevirtual 159, 3) := by decide +kernel
theorem dX8_shift_29 : decode cX8_shift 29 = .ok (.ifCond .eq 6, 3) := by decide +kernel
theorem dX8_shift_32 : decode cX8_shift 32 = .ok (.bipush (-11), 2) := by decide +kernel
theorem dX8_shift_34 : decode cX8_shift 34 = .ok (.ireturn, 1) := by decide +kernel
theorem dX8_shift_35 : decode cX8_shift 35 = .ok (.aload_n 0, 1) := by decide +kernel
theorem dX8_shift_36 : decode cX8_shift 36 = .ok (.iload_n 1, 1) := by decide +kernel
theorem dX8_shift_37 : decode cX8_shift 37 = .ok (.invokevirtual 188, 3) := by decide +kernel
theorem dX8_shift_40 : decode cX8_shift 40 = .ok (.iconst 0, 1) := by decide +kernel
theorem dX8_shift_41 : decode cX8_shift 41 = .ok (.istore_n 3, 1) := by decide +kernel
theorem dX8_shift_42 : decode cX8_shift 42 = .ok (.iconst 0, 1) := by decide +kernel
theorem dX8_shift_43 : decode cX8_shift 43 = .ok (.istore 4, 2) := by decide +kernel
theorem dX8_shift_45 : decode cX8_shift 45 = .ok (.iload 4, 2) := by decide +kernel
theorem dX8_shift_47 : decode cX8_shift 47 = .ok (.aload_n 0, 1) := by decide +kernel
theorem dX8_shift_48 : decode cX8_shift 48 = .ok (.iload_n 1, 1) := by decide +kernel
theorem dX8_shift_49 : decode cX8_shift 49 = .ok (.invokevirtual 137, 3) := by decide +kernel
theorem dX8_shift_52 : decode cX8_shift 52 = .ok (.if_icmp .ge 87, 3) := by decide +kernel
theorem dX8_shift_55 : decode cX8_shift 55 = .ok (.iload_n 3, 1) := by decide +kernel
theorem dX8_shift_56 : decode cX8_shift 56 = .ok (.aload_n 0, 1) := by decide +kernel
theorem dX8_shift_57 : decode cX8_shift 57 = .ok (.iload_n 1, 1) := by decide +kernel
theorem dX8_shift_58 : decode cX8_shift 58 = .ok (.iload 4, 2) := by decide +kernel
theorem dX8_shift_60 : decode cX8_shift 60 = .ok (.invokevirtual 140, 3) := by decide +kernel
theorem dX8_shift_63 : decode cX8_shift 63 = .ok (.ifCond .le 27, 3) := by decide +kernel
theorem dX8_shift_66 : decode cX8_shift 66 = .ok (.iload 4, 2) := by decide +kernel
theorem dX8_shift_68 : decode cX8_shift 68 = .ok (.iload_n 2, 1) := by decide +kernel
theorem dX8_shift_69 : decode cX8_shift 69 = .ok (.iadd, 1) := by decide +kernel
theorem dX8_shift_70 : decode cX8_shift 70 = .ok (.i2l, 1) := by decide +kernel
theorem dX8_shift_71 : decode cX8_shift 71 = .ok (.lconst 0, 1) := by decide +kernel
theorem dX8_shift_72 : decode cX8_shift 72 = .ok (.aload_n 0, 1) := by decide +kernel
theorem dX8_shift_73 : decode cX8_shift 73 = .ok (.iload_n 1, 1) := by decide +kernel
theorem dX8_shift_74 : decode cX8_shift 74 = .ok (.invokevirtual 137, 3) := by decide +kernel
theorem dX8_shift_77 : decode cX8_shift 77 = .ok (.iconst 1, 1) := by decide +kernel
theorem dX8_shift_78 : decode cX8_shift 78 = .ok (.isub, 1) := by decide +kernel
theorem dX8_shift_79 : decode cX8_shift 79 = .ok (.i2l, 1) := by decide +kernel
theorem dX8_shift_80 : decode cX8_shift 80 = .ok (.invokestatic 104, 3) := by decide +kernel
theorem dX8_shift_83 : decode cX8_shift 83 = .ok (.ifCond .ne 7, 3) := by decide +kernel
theorem dX8_shift_86 : decode cX8_shift 86 = .ok (.iconst 1, 1) := by decide +kernel
theorem dX8_shift_87 : decode cX8_shift 87 = .ok (.goto 4, 3) := by decide +kernel
theorem dX8_shift_90 : decode cX8_shift 90 = .ok (.iconst 0, 1) := by decide +kernel
theorem dX8_shift_91 : decode cX8_shift 91 = .ok (.iadd, 1) := by decide +kernel
theorem dX8_shift_92 : decode cX8_shift 92 = .ok (.istore_n 3, 1) := by decide +kernel
theorem dX8_shift_93 : decode cX8_shift 93 = .ok (.aload_n 0, 1) := by decide +kernel
theorem dX8_shift_94 : decode cX8_shift 94 = .ok (.getfield 34, 3) := by decide +kernel
theorem dX8_shift_97 : decode cX8_shift 97 = .ok (.iload 4, 2) := by decide +kernel
theorem dX8_shift_99 : decode cX8_shift 99 = .ok (.iload 4, 2) := by decide +kernel
theorem dX8_shift_101 : decode cX8_shift 101 = .ok (.iload_n 2, 1) := by decide +kernel
theorem dX8_shift_102 : decode cX8_shift 102 = .ok (.isub, 1) := by decide +kernel
theorem dX8_shift_103 : decode cX8_shift 103 = .ok (.i2l, 1) := by decide +kernel
theorem dX8_shift_104 : decode cX8_shift 104 = .ok (.lconst 0, 1) := by decide +kernel
theorem dX8_shift_105 : decode cX8_shift 105 = .ok (.aload_n 0, 1) := by decide +kernel
theorem dX8_shift_106 : decode cX8_shift 106 = .ok (.iload_n 1, 1) := by decide +kernel
theorem dX8_shift_107 : decode cX8_shift 107 = .ok (.invokevirtual 137, 3) := by decide +kernel
theorem dX8_shift_110 : decode cX8_shift 110 = .ok (.iconst 1, 1) := by decide +kernel
theorem dX8_shift_111 : decode cX8_shift 111 = .ok (.isub, 1) := by decide +kernel
theorem dX8_shift_112 : decode cX8_shift 112 = .ok (.i2l, 1) := by decide +kernel
theorem dX8_shift_113 : decode cX8_shift 113 = .ok (.invokestatic 104, 3) := by decide +kernel
theorem dX8_shift_116 : decode cX8_shift 116 = .ok (.ifCond .eq 15, 3) := by decide +kernel
theorem dX8_shift_119 : decode cX8_shift 119 = .ok (.aload_n 0, 1) := by decide +kernel
theorem dX8_shift_120 : decode cX8_shift 120 = .ok (.iload_n 1, 1) := by decide +kernel
theorem dX8_shift_121 : decode cX8_shift 121 = .ok (.iload 4, 2) := by decide +kernel
theorem dX8_shift_123 : decode cX8_shift 123 = .ok (.iload_n 2, 1) := by decide +kernel
theorem dX8_shift_124 : decode cX8_shift 124 = .ok (.isub, 1) := by decide +kernel
theorem dX8_shift_125 : decode cX8_shift 125 = .ok (.invokevirtual 140, 3) := by decide +kernel
theorem dX8_shift_128 : decode cX8_shift 128 = .ok (.goto 4, 3) := by decide +kernel
theorem dX8_shift_131 : decode cX8_shift 131 = .ok (.iconst 0, 1) := by decide +kernel
theorem dX8_shift_132 : decode cX8_shift 132 = .ok (.iastore, 1) := by decide +kernel
theorem dX8_shift_133 : decode cX8_shift 133 = .ok (.iinc 4 1, 3) := by decide +kernel
theorem dX8_shift_136 : decode cX8_shift 136 = .ok (.goto (-91), 3) := by decide +kernel
theorem dX8_shift_139 : decode cX8_shift 139 = .ok (.aload_n 0, 1) := by decide +kernel
theorem dX8_shift_140 : decode cX8_shift 140 = .ok (.iload_n 1, 1) := by decide +kernel
theorem dX8_shift_141 : decode cX8_shift 141 = .ok (.invokevirtual 143, 3) := by decide +kernel
theorem dX8_shift_144 : decode cX8_shift 144 = .ok (.istore 4, 2) := by decide +kernel
theorem dX8_shift_146 : decode cX8_shift 146 = .ok (.iload_n 3, 1) := by decide +kernel
theorem dX8_shift_147 : decode cX8_shift 147 = .ok (.ireturn, 1) := by decide +kernel
theorem dX8_on_0 : decode cX8_on 0 = .ok (.iload_n 1, 1) := by decide +kernel
theorem dX8_on_1 : decode cX8_on 1 = .ok (.invokestatic 149, 3) := by decide +kernel
theorem dX8_on_4 : decode cX8_on 4 = .ok (.ifCond .eq 17, 3) := by decide +kernel
theorem dX8_on_7 : decode cX8_on 7 = .ok (.iload_n 2, 1) := by decide +kernel
theorem dX8_on_8 : decode cX8_on 8 = .ok (.i2l, 1) := by decide +kernel
theorem dX8_on_9 : decode cX8_on 9 = .ok (.ldc2_w 203, 3) := by decide +kernel
theorem dX8_on_12 : decode cX8_on 12 = .ok (.ldc2_w 205, 3) := by decide +kernel
theorem dX8_on_15 : decode cX8_on 15 = .ok (.invokestatic 104, 3) := by decide +kernel
theorem dX8_on_18 : decode cX8_on 18 = .ok (.ifCond .ne 6, 3) := by decide +kernel
theorem dX8_on_21 : decode cX8_on 21 = .ok (.bipush (-2), 2) := by decide +kernel
theorem dX8_on_23 : decode cX8_on 23 = .ok (.ireturn, 1) := by decide +kernel
theorem dX8_on_24 : decode cX8_on 24 = .ok (.aload_n 0, 1) := by decide +kernel
theorem dX8_on_25 : decode cX8_on 25 = .ok (.iload_n 1, 1) := by decide +kernel
theorem dX8_on_26 : decode cX8_on 26 = .ok (.invokevirtual 159, 3) := by decide +kernel
theorem dX8_on_29 : decode cX8_on 29 = .ok (.ifCond .eq 6, 3) := by decide +kernel
theorem dX8_on_32 : decode cX8_on 32 = .ok (.bipush (-11), 2) := by decide +kernel
theorem dX8_on_34 : decode cX8_on 34 = .ok (.ireturn, 1) := by decide +kernel
theorem dX8_on_35 : decode cX8_on 35 = .ok (.aload_n 0, 1) := by decide +kernel
theorem dX8_on_36 : decode cX8_on 36 = .ok (.iload_n 1, 1) := by decide +kernel
theorem dX8_on_37 : decode cX8_on 37 = .ok (.invokevirtual 165, 3) := by decide +kernel
theorem dX8_on_40 : decode cX8_on 40 = .ok (.ifCond .ne 6, 3) := by decide +kernel
theorem dX8_on_43 : decode cX8_on 43 = .ok (.bipush (-3), 2) := by decide +kernel
theorem dX8_on_45 : decode cX8_on 45 = .ok (.ireturn, 1) := by decide +kernel
theorem dX8_on_46 : decode cX8_on 46 = .ok (.aload_n 0, 1) := by decide +kernel
theorem dX8_on_47 : decode cX8_on 47 = .ok (.iload_n 1, 1) := by decide +kernel
theorem dX8_on_48 : decode cX8_on 48 = .ok (.invokevirtual 174, 3) := by decide +kernel
theorem dX8_on_51 : decode cX8_on 51 = .ok (.iload_n 2, 1) := by decide +kernel
theorem dX8_on_52 : decode cX8_on 52 = .ok (.i2l, 1) := by decide +kernel
theorem dX8_on_53 : decode cX8_on 53 = .ok (.ladd, 1) := by decide +kernel
theorem dX8_on_54 : decode cX8_on 54 = .ok (.lstore_n 3, 1) := by decide +kernel
theorem dX8_on_55 : decode cX8_on 55 = .ok (.lload_n 3, 1) := by decide +kernel
theorem dX8_on_56 : decode cX8_on 56 = .ok (.lconst 0, 1) := by decide +kernel
theorem dX8_on_57 : decode cX8_on 57 = .ok (.aload_n 0, 1) := by decide +kernel
theorem dX8_on_58 : decode cX8_on 58 = .ok (.getfield 25, 3) := by decide +kernel
theorem dX8_on_61 : decode cX8_on 61 = .ok (.aload_n 0, 1) := by decide +kernel
theorem dX8_on_62 : decode cX8_on 62 = .ok (.getfield 28, 3) := by decide +kernel
theorem dX8_on_65 : decode cX8_on 65 = .ok (.iload_n 1, 1) := by decide +kernel
theorem dX8_on_66 : decode cX8_on 66 = .ok (.iaload, 1) := by decide +kernel
theorem dX8_on_67 : decode cX8_on 67 = .ok (.laload, 1) := by decide +kernel
theorem dX8_on_68 : decode cX8_on 68 = .ok (.invokestatic 104, 3) := by decide +kernel
theorem dX8_on_71 : decode cX8_on 71 = .ok (.ifCond .ne 6, 3) := by decide +kernel
theorem dX8_on_74 : decode cX8_on 74 = .ok (.bipush (-4), 2) := by decide +kernel
theorem dX8_on_76 : decode cX8_on 76 = .ok (.ireturn, 1) := by decide +kernel
theorem dX8_on_77 : decode cX8_on 77 = .ok (.aload_n 0, 1) := by decide +kernel
theorem dX8_on_78 : decode cX8_on 78 = .ok (.aload_n 0, 1) := by decide +kernel
theorem dX8_on_79 : decode cX8_on 79 = .ok (.getfield 28, 3) := by decide +kernel
theorem dX8_on_82 : decode cX8_on 82 = .ok (.iload_n 1, 1) := by decide +kernel
theorem dX8_on_83 : decode cX8_on 83 = .ok (.iaload, 1) := by decide +kernel
theorem dX8_on_84 : decode cX8_on 84 = .ok (.lload_n 3, 1) := by decide +kernel
theorem dX8_on_85 : decode cX8_on 85 = .ok (.invokevirtual 152, 3) := by decide +kernel
theorem dX8_on_88 : decode cX8_on 88 = .ok (.aload_n 0, 1) := by decide +kernel
theorem dX8_on_89 : decode cX8_on 89 = .ok (.iload_n 1, 1) := by decide +kernel
theorem dX8_on_90 : decode cX8_on 90 = .ok (.invokevirtual 188, 3) := by decide +kernel
theorem dX8_on_93 : decode cX8_on 93 = .ok (.aload_n 0, 1) := by decide +kernel
theorem dX8_on_94 : decode cX8_on 94 = .ok (.iload_n 1, 1) := by decide +kernel
theorem dX8_on_95 : decode cX8_on 95 = .ok (.invokevirtual 143, 3) := by decide +kernel
theorem dX8_on_98 : decode cX8_on 98 = .ok (.ireturn, 1) := by decide +kernel
theorem dX8_soon_0 : decode cX8_soon 0 = .ok (.aload_n 0, 1) := by decide +kernel
theorem dX8_soon_1 : decode cX8_soon 1 = .ok (.iload_n 1, 1) := by decide +kernel
theorem dX8_soon_2 : decode cX8_soon 2 = .ok (.iload_n 2, 1) := by decide +kernel
theorem dX8_soon_3 : decode cX8_soon 3 = .ok (.iconst 1, 1) := by decide +kernel
theorem dX8_soon_4 : decode cX8_soon 4 = .ok (.invokevirtual 171, 3) := by decide +kernel
theorem dX8_soon_7 : decode cX8_soon 7 = .ok (.istore_n 3, 1) := by decide +kernel
theorem dX8_soon_8 : decode cX8_soon 8 = .ok (.iload_n 3, 1) := by decide +kernel
theorem dX8_soon_9 : decode cX8_soon 9 = .ok (.ifCond .eq 5, 3) := by decide +kernel
theorem dX8_soon_12 : decode cX8_soon 12 = .ok (.iload_n 3, 1) := by decide +kernel
theorem dX8_soon_13 : decode cX8_soon 13 = .ok (.ireturn, 1) := by decide +kernel
theorem dX8_soon_14 : decode cX8_soon 14 = .ok (.aload_n 0, 1) := by decide +kernel
theorem dX8_soon_15 : decode cX8_soon 15 = .ok (.iload_n 1, 1) := by decide +kernel
theorem dX8_soon_16 : decode cX8_soon 16 = .ok (.invokevirtual 165, 3) := by decide +kernel
theorem dX8_soon_19 : decode cX8_soon 19 = .ok (.ifCond .ne 6, 3) := by decide +kernel
theorem dX8_soon_22 : decode cX8_soon 22 = .ok (.bipush (-3), 2) := by decide +kernel
theorem dX8_soon_24 : decode cX8_soon 24 = .ok (.ireturn, 1) := by decide +kernel
theorem dX8_soon_25 : decode cX8_soon 25 = .ok (.aload_n 0, 1) := by decide +kernel
theorem dX8_soon_26 : decode cX8_soon 26 = .ok (.iload_n 1, 1) := by decide +kernel
theorem dX8_soon_27 : decode cX8_soon 27 = .ok (.invokevirtual 174, 3) := by decide +kernel
theorem dX8_soon_30 : decode cX8_soon 30 = .ok (.lstore 4, 2) := by decide +kernel
theorem dX8_soon_32 : decode cX8_soon 32 = .ok (.iconst 1, 1) := by decide +kernel
theorem dX8_soon_33 : decode cX8_soon 33 = .ok (.istore 6, 2) := by decide +kernel
theorem dX8_soon_35 : decode cX8_soon 35 = .ok (.iload 6, 2) := by decide +kernel
theorem dX8_soon_37 : decode cX8_soon 37 = .ok (.sipush 1000, 3) := by decide +kernel
theorem dX8_soon_40 : decode cX8_soon 40 = .ok (.if_icmp .gt 64, 3) := by decide +kernel
theorem dX8_soon_43 : decode cX8_soon 43 = .ok (.lload 4, 2) := by decide +kernel
theorem dX8_soon_45 : decode cX8_soon 45 = .ok (.iload 6, 2) := by decide +kernel
theorem dX8_soon_47 : decode cX8_soon 47 = .ok (.i2l, 1) := by decide +kernel
theorem dX8_soon_48 : decode cX8_soon 48 = .ok (.ladd, 1) := by decide +kernel
theorem dX8_soon_49 : decode cX8_soon 49 = .ok (.aload_n 0, 1) := by decide +kernel
theorem dX8_soon_50 : decode cX8_soon 50 = .ok (.getfield 25, 3) := by decide +kernel
theorem dX8_soon_53 : decode cX8_soon 53 = .ok (.aload_n 0, 1) := by decide +kernel
theorem dX8_soon_54 : decode cX8_soon 54 = .ok (.getfield 28, 3) := by decide +kernel
theorem dX8_soon_57 : decode cX8_soon 57 = .ok (.iload_n 1, 1) := by decide +kernel
theorem dX8_soon_58 : decode cX8_soon 58 = .ok (.iaload, 1) := by decide +kernel
theorem dX8_soon_59 : decode cX8_soon 59 = .ok (.laload, 1) := by decide +kernel
theorem dX8_soon_60 : decode cX8_soon 60 = .ok (.lcmp, 1) := by decide +kernel
theorem dX8_soon_61 : decode cX8_soon 61 = .ok (.ifCond .gt 43, 3) := by decide +kernel
theorem dX8_soon_64 : decode cX8_soon 64 = .ok (.aload_n 0, 1) := by decide +kernel
theorem dX8_soon_65 : decode cX8_soon 65 = .ok (.aload_n 0, 1) := by decide +kernel
theorem dX8_soon_66 : decode cX8_soon 66 = .ok (.getfield 28, 3) := by decide +kernel
theorem dX8_soon_69 : decode cX8_soon 69 = .ok (.iload_n 1, 1) := by decide +kernel
theorem dX8_soon_70 : decode cX8_soon 70 = .ok (.iaload, 1) := by decide +kernel
theorem dX8_soon_71 : decode cX8_soon 71 = .ok (.lload 4, 2) := by decide +kernel
theorem dX8_soon_73 : decode cX8_soon 73 = .ok (.iload 6, 2) := by decide +kernel
theorem dX8_soon_75 : decode cX8_soon 75 = .ok (.i2l, 1) := by decide +kernel
theorem dX8_soon_76 : decode cX8_soon 76 = .ok (.ladd, 1) := by decide +kernel
theorem dX8_soon_77 : decode cX8_soon 77 = .ok (.invokevirtual 152, 3) := by decide +kernel
theorem dX8_soon_80 : decode cX8_soon 80 = .ok (.aload_n 0, 1) := by decide +kernel
theorem dX8_soon_81 : decode cX8_soon 81 = .ok (.getfield 34, 3) := by decide +kernel
theorem dX8_soon_84 : decode cX8_soon 84 = .ok (.iload_n 2, 1) := by decide +kernel
theorem dX8_soon_85 : decode cX8_soon 85 = .ok (.iaload, 1) := by decide +kernel
theorem dX8_soon_86 : decode cX8_soon 86 = .ok (.aload_n 0, 1) := by decide +kernel
theorem dX8_soon_87 : decode cX8_soon 87 = .ok (.iload_n 1, 1) := by decide +kernel
theorem dX8_soon_88 : decode cX8_soon 88 = .ok (.iload_n 2, 1) := by decide +kernel
theorem dX8_soon_89 : decode cX8_soon 89 = .ok (.invokevirtual 140, 3) := by decide +kernel
theorem dX8_soon_92 : decode cX8_soon 92 = .ok (.if_icmp .eq 6, 3) := by decide +kernel
theorem dX8_soon_95 : decode cX8_soon 95 = .ok (.iload 6, 2) := by decide +kernel
theorem dX8_soon_97 : decode cX8_soon 97 = .ok (.ireturn, 1) := by decide +kernel
theorem dX8_soon_98 : decode cX8_soon 98 = .ok (.iinc 6 1, 3) := by decide +kernel
theorem dX8_soon_101 : decode cX8_soon 101 = .ok (.goto (-66), 3) := by decide +kernel
theorem dX8_soon_104 : decode cX8_soon 104 = .ok (.iconst (-1), 1) := by decide +kernel
theorem dX8_soon_105 : decode cX8_soon 105 = .ok (.ireturn, 1) := by decide +kernel
theorem dX8_comes_0 : decode cX8_comes 0 = .ok (.iload 4, 2) := by decide +kernel
theorem dX8_comes_2 : decode cX8_comes 2 = .ok (.iconst 1, 1) := by decide +kernel
theorem dX8_comes_3 : decode cX8_comes 3 = .ok (.if_icmp .ne 7, 3) := by decide +kernel
theorem dX8_comes_6 : decode cX8_comes 6 = .ok (.lload_n 0, 1) := by decide +kernel
theorem dX8_comes_7 : decode cX8_comes 7 = .ok (.lload_n 2, 1) := by decide +kernel
theorem dX8_comes_8 : decode cX8_comes 8 = .ok (.lsub, 1) := by decide +kernel
theorem dX8_comes_9 : decode cX8_comes 9 = .ok (.lreturn, 1) := by decide +kernel
theorem dX8_comes_10 : decode cX8_comes 10 = .ok (.iload 4, 2) := by decide +kernel
theorem dX8_comes_12 : decode cX8_comes 12 = .ok (.iconst 2, 1) := by decide +kernel
theorem dX8_comes_13 : decode cX8_comes 13 = .ok (.if_icmp .ne 28, 3) := by decide +kernel
theorem dX8_comes_16 : decode cX8_comes 16 = .ok (.lload_n 0, 1) := by decide +kernel
theorem dX8_comes_17 : decode cX8_comes 17 = .ok (.lconst 0, 1) := by decide +kernel
theorem dX8_comes_18 : decode cX8_comes 18 = .ok (.lcmp, 1) := by decide +kernel
theorem dX8_comes_19 : decode cX8_comes 19 = .ok (.ifCond .eq 18, 3) := by decide +kernel
theorem dX8_comes_22 : decode cX8_comes 22 = .ok (.lload_n 2, 1) := by decide +kernel
theorem dX8_comes_23 : decode cX8_comes 23 = .ok (.lload 5, 2) := by decide +kernel
theorem dX8_comes_25 : decode cX8_comes 25 = .ok (.lload_n 0, 1) := by decide +kernel
theorem dX8_comes_26 : decode cX8_comes 26 = .ok (.ldiv, 1) := by decide +kernel
theorem dX8_comes_27 : decode cX8_comes 27 = .ok (.lcmp, 1) := by decide +kernel
theorem dX8_comes_28 : decode cX8_comes 28 = .ok (.ifCond .le 9, 3) := by decide +kernel
theorem dX8_comes_31 : decode cX8_comes 31 = .ok (.ldc2_w 207, 3) := by decide +kernel
theorem dX8_comes_34 : decode cX8_comes 34 = .ok (.goto 6, 3) := by decide +kernel
theorem dX8_comes_37 : decode cX8_comes 37 = .ok (.lload_n 0, 1) := by decide +kernel
theorem dX8_comes_38 : decode cX8_comes 38 = .ok (.lload_n 2, 1) := by decide +kernel
theorem dX8_comes_39 : decode cX8_comes 39 = .ok (.lmul, 1) := by decide +kernel
theorem dX8_comes_40 : decode cX8_comes 40 = .ok (.lreturn, 1) := by decide +kernel
theorem dX8_comes_41 : decode cX8_comes 41 = .ok (.lload_n 2, 1) := by decide +kernel
theorem dX8_comes_42 : decode cX8_comes 42 = .ok (.lconst 0, 1) := by decide +kernel
theorem dX8_comes_43 : decode cX8_comes 43 = .ok (.lcmp, 1) := by decide +kernel
theorem dX8_comes_44 : decode cX8_comes 44 = .ok (.ifCond .ne 9, 3) := by decide +kernel
theorem dX8_comes_47 : decode cX8_comes 47 = .ok (.ldc2_w 207, 3) := by decide +kernel
theorem dX8_comes_50 : decode cX8_comes 50 = .ok (.goto 18, 3) := by decide +kernel
theorem dX8_comes_53 : decode cX8_comes 53 = .ok (.iload 4, 2) := by decide +kernel
theorem dX8_comes_55 : decode cX8_comes 55 = .ok (.iconst 3, 1) := by decide +kernel
theorem dX8_comes_56 : decode cX8_comes 56 = .ok (.if_icmp .ne 9, 3) := by decide +kernel
theorem dX8_comes_59 : decode cX8_comes 59 = .ok (.lload_n 0, 1) := by decide +kernel
theorem dX8_comes_60 : decode cX8_comes 60 = .ok (.lload_n 2, 1) := by decide +kernel
theorem dX8_comes_61 : decode cX8_comes 61 = .ok (.ldiv, 1) := by decide +kernel
theorem dX8_comes_62 : decode cX8_comes 62 = .ok (.goto 6, 3) := by decide +kernel
theorem dX8_comes_65 : decode cX8_comes 65 = .ok (.lload_n 0, 1) := by decide +kernel
theorem dX8_comes_66 : decode cX8_comes 66 = .ok (.lload_n 2, 1) := by decide +kernel
theorem dX8_comes_67 : decode cX8_comes 67 = .ok (.lrem, 1) := by decide +kernel
