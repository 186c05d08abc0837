theorem dX6_init_0 : decode cX6_init 0 = .ok (.aload_n 0, 1) := by decide +kernel
theorem dX6_init_1 : decode cX6_init 1 = .ok (.invokespecial 3, 3) := by decide +kernel
theorem dX6_init_4 : decode cX6_init 4 = .ok (.aload_n 0, 1) := by decide +kernel
theorem dX6_init_5 : decode cX6_init 5 = .ok (.bipush 80, 2) := by decide +kernel
theorem dX6_init_7 : decode cX6_init 7 = .ok (.newarray .int, 2) := by decide +kernel
theorem dX6_init_9 : decode cX6_init 9 = .ok (.putfield 11, 3) := by decide +kernel
theorem dX6_init_12 : decode cX6_init 12 = .ok (.aload_n 0, 1) := by decide +kernel
theorem dX6_init_13 : decode cX6_init 13 = .ok (.iconst 0, 1) := by decide +kernel
theorem dX6_init_14 : decode cX6_init 14 = .ok (.putfield 15, 3) := by decide +kernel
theorem dX6_init_17 : decode cX6_init 17 = .ok (.return_, 1) := by decide +kernel
theorem dX6_add_0 : decode cX6_add 0 = .ok (.aload_n 0, 1) := by decide +kernel
theorem dX6_add_1 : decode cX6_add 1 = .ok (.getfield 15, 3) := by decide +kernel
theorem dX6_add_4 : decode cX6_add 4 = .ok (.bipush 80, 2) := by decide +kernel
theorem dX6_add_6 : decode cX6_add 6 = .ok (.if_icmp .lt 5, 3) := by decide +kernel
theorem dX6_add_9 : decode cX6_add 9 = .ok (.iconst 0, 1) := by decide +kernel
theorem dX6_add_10 : decode cX6_add 10 = .ok (.ireturn, 1) := by decide +kernel
theorem dX6_add_11 : decode cX6_add 11 = .ok (.aload_n 0, 1) := by decide +kernel
theorem dX6_add_12 : decode cX6_add 12 = .ok (.getfield 11, 3) := by decide +kernel
theorem dX6_add_15 : decode cX6_add 15 = .ok (.aload_n 0, 1) := by decide +kernel
theorem dX6_add_16 : decode cX6_add 16 = .ok (.getfield 15, 3) := by decide +kernel
theorem dX6_add_19 : decode cX6_add 19 = .ok (.iload_n 1, 1) := by decide +kernel
theorem dX6_add_20 : decode cX6_add 20 = .ok (.iastore, 1) := by decide +kernel
theorem dX6_add_21 : decode cX6_add 21 = .ok (.aload_n 0, 1) := by decide +kernel
theorem dX6_add_22 : decode cX6_add 22 = .ok (.dup, 1) := by decide +kernel
theorem dX6_add_23 : decode cX6_add 23 = .ok (.getfield 15, 3) := by decide +kernel
theorem dX6_add_26 : decode cX6_add 26 = .ok (.iconst 1, 1) := by decide +kernel
theorem dX6_add_27 : decode cX6_add 27 = .ok (.iadd, 1) := by decide +kernel
theorem dX6_add_28 : decode cX6_add 28 = .ok (.putfield 15, 3) := by decide +kernel
theorem dX6_add_31 : decode cX6_add 31 = .ok (.iconst 1, 1) := by decide +kernel
theorem dX6_add_32 : decode cX6_add 32 = .ok (.ireturn, 1) := by decide +kernel
theorem dX6_fault_0 : decode cX6_fault 0 = .ok (.iconst 0, 1) := by decide +kernel
theorem dX6_fault_1 : decode cX6_fault 1 = .ok (.istore_n 2, 1) := by decide +kernel
theorem dX6_fault_2 : decode cX6_fault 2 = .ok (.iconst 0, 1) := by decide +kernel
theorem dX6_fault_3 : decode cX6_fault 3 = .ok (.istore_n 3, 1) := by decide +kernel
theorem dX6_fault_4 : decode cX6_fault 4 = .ok (.iconst 0, 1) := by decide +kernel
theorem dX6_fault_5 : decode cX6_fault 5 = .ok (.istore 4, 2) := by decide +kernel
theorem dX6_fault_7 : decode cX6_fault 7 = .ok (.iload 4, 2) := by decide +kernel
theorem dX6_fault_9 : decode cX6_fault 9 = .ok (.aload_n 0, 1) := by decide +kernel
theorem dX6_fault_10 : decode cX6_fault 10 = .ok (.getfield 15, 3) := by decide +kernel
theorem dX6_fault_13 : decode cX6_fault 13 = .ok (.if_icmp .ge 88, 3) := by decide +kernel
theorem dX6_fault_16 : decode cX6_fault 16 = .ok (.iload 4, 2) := by decide +kernel
theorem dX6_fault_18 : decode cX6_fault 18 = .ok (.bipush 80, 2) := by decide +kernel
theorem dX6_fault_20 : decode cX6_fault 20 = .ok (.if_icmp .ge 81, 3) := by decide +kernel
theorem dX6_fault_23 : decode cX6_fault 23 = .ok (.aload_n 0, 1) := by decide +kernel
theorem dX6_fault_24 : decode cX6_fault 24 = .ok (.getfield 11, 3) := by decide +kernel
theorem dX6_fault_27 : decode cX6_fault 27 = .ok (.iload 4, 2) := by decide +kernel
theorem dX6_fault_29 : decode cX6_fault 29 = .ok (.iaload, 1) := by decide +kernel
theorem dX6_fault_30 : decode cX6_fault 30 = .ok (.invokestatic 19, 3) := by decide +kernel
theorem dX6_fault_33 : decode cX6_fault 33 = .ok (.ifCond .eq 38, 3) := by decide +kernel
theorem dX6_fault_36 : decode cX6_fault 36 = .ok (.iload_n 3, 1) := by decide +kernel
theorem dX6_fault_37 : decode cX6_fault 37 = .ok (.iconst 2, 1) := by decide +kernel
theorem dX6_fault_38 : decode cX6_fault 38 = .ok (.if_icmp .eq 12, 3) := by decide +kernel
theorem dX6_fault_41 : decode cX6_fault 41 = .ok (.iload_n 3, 1) := by decide +kernel
theorem dX6_fault_42 : decode cX6_fault 42 = .ok (.ifCond .ne 11, 3) := by decide +kernel
theorem dX6_fault_45 : decode cX6_fault 45 = .ok (.iload_n 2, 1) := by decide +kernel
theorem dX6_fault_46 : decode cX6_fault 46 = .ok (.iload_n 1, 1) := by decide +kernel
theorem dX6_fault_47 : decode cX6_fault 47 = .ok (.if_icmp .ne 6, 3) := by decide +kernel
theorem dX6_fault_50 : decode cX6_fault 50 = .ok (.iload 4, 2) := by decide +kernel
theorem dX6_fault_52 : decode cX6_fault 52 = .ok (.ireturn, 1) := by decide +kernel
theorem dX6_fault_53 : decode cX6_fault 53 = .ok (.iload_n 3, 1) := by decide +kernel
theorem dX6_fault_54 : decode cX6_fault 54 = .ok (.ifCond .ne 9, 3) := by decide +kernel
theorem dX6_fault_57 : decode cX6_fault 57 = .ok (.iload_n 2, 1) := by decide +kernel
theorem dX6_fault_58 : decode cX6_fault 58 = .ok (.iconst 1, 1) := by decide +kernel
theorem dX6_fault_59 : decode cX6_fault 59 = .ok (.iadd, 1) := by decide +kernel
theorem dX6_fault_60 : decode cX6_fault 60 = .ok (.goto 4, 3) := by decide +kernel
theorem dX6_fault_63 : decode cX6_fault 63 = .ok (.iload_n 2, 1) := by decide +kernel
theorem dX6_fault_64 : decode cX6_fault 64 = .ok (.istore_n 2, 1) := by decide +kernel
theorem dX6_fault_65 : decode cX6_fault 65 = .ok (.iinc 3 1, 3) := by decide +kernel
theorem dX6_fault_68 : decode cX6_fault 68 = .ok (.goto 27, 3) := by decide +kernel
theorem dX6_fault_71 : decode cX6_fault 71 = .ok (.aload_n 0, 1) := by decide +kernel
theorem dX6_fault_72 : decode cX6_fault 72 = .ok (.getfield 11, 3) := by decide +kernel
theorem dX6_fault_75 : decode cX6_fault 75 = .ok (.iload 4, 2) := by decide +kernel
theorem dX6_fault_77 : decode cX6_fault 77 = .ok (.iaload, 1) := by decide +kernel
theorem dX6_fault_78 : decode cX6_fault 78 = .ok (.bipush 46, 2) := by decide +kernel
theorem dX6_fault_80 : decode cX6_fault 80 = .ok (.if_icmp .ne 12, 3) := by decide +kernel
theorem dX6_fault_83 : decode cX6_fault 83 = .ok (.iload_n 3, 1) := by decide +kernel
theorem dX6_fault_84 : decode cX6_fault 84 = .ok (.ifCond .le 8, 3) := by decide +kernel
theorem dX6_fault_87 : decode cX6_fault 87 = .ok (.iconst 0, 1) := by decide +kernel
theorem dX6_fault_88 : decode cX6_fault 88 = .ok (.istore_n 3, 1) := by decide +kernel
theorem dX6_fault_89 : decode cX6_fault 89 = .ok (.goto 6, 3) := by decide +kernel
theorem dX6_fault_92 : decode cX6_fault 92 = .ok (.iload 4, 2) := by decide +kernel
theorem dX6_fault_94 : decode cX6_fault 94 = .ok (.ireturn, 1) := by decide +kernel
theorem dX6_fault_95 : decode cX6_fault 95 = .ok (.iinc 4 1, 3) := by decide +kernel
theorem dX6_fault_98 : decode cX6_fault 98 = .ok (.goto (-91), 3) := by decide +kernel
theorem dX6_fault_101 : decode cX6_fault 101 = .ok (.iload_n 3, 1) := by decide +kernel
theorem dX6_fault_102 : decode cX6_fault 102 = .ok (.ifCond .ne 10, 3) := by decide +kernel
theorem dX6_fault_105 : decode cX6_fault 105 = .ok (.aload_n 0, 1) := by decide +kernel
theorem dX6_fault_106 : decode cX6_fault 106 = .ok (.getfield 15, 3) := by decide +kernel
theorem dX6_fault_109 : decode cX6_fault 109 = .ok (.goto 4, 3) := by decide +kernel
theorem dX6_fault_112 : decode cX6_fault 112 = .ok (.iconst (-1), 1) := by decide +kernel
theorem dX6_fault_113 : decode cX6_fault 113 = .ok (.ireturn, 1) := by decide +kernel
theorem dX6_numbersInto_0 : decode cX6_numbersInto 0 = .ok (.iconst 0, 1) := by decide +kernel
theorem dX6_numbersInto_1 : decode cX6_numbersInto 1 = .ok (.istore_n 2, 1) := by decide +kernel
theorem dX6_numbersInto_2 : decode cX6_numbersInto 2 = .ok (.iload_n 2, 1) := by decide +kernel
theorem dX6_numbersInto_3 : decode cX6_numbersInto 3 = .ok (.aload_n 1, 1) := by decide +kernel
theorem dX6_numbersInto_4 : decode cX6_numbersInto 4 = .ok (.arraylength, 1) := by decide +kernel
theorem dX6_numbersInto_5 : decode cX6_numbersInto 5 = .ok (.if_icmp .ge 13, 3) := by decide +kernel
theorem dX6_numbersInto_8 : decode cX6_numbersInto 8 = .ok (.aload_n 1, 1) := by decide +kernel
theorem dX6_numbersInto_9 : decode cX6_numbersInto 9 = .ok (.iload_n 2, 1) := by decide +kernel
theorem dX6_numbersInto_10 : decode cX6_numbersInto 10 = .ok (.iconst 0, 1) := by decide +kernel
theorem dX6_numbersInto_11 : decode cX6_numbersInto 11 = .ok (.iastore, 1) := by decide +kernel
theorem dX6_numbersInto_12 : decode cX6_numbersInto 12 = .ok (.iinc 2 1, 3) := by decide +kernel
theorem dX6_numbersInto_15 : decode cX6_numbersInto 15 = .ok (.goto (-13), 3) := by decide +kernel
theorem dX6_numbersInto_18 : decode cX6_numbersInto 18 = .ok (.iconst 0, 1) := by decide +kernel
theorem dX6_numbersInto_19 : decode cX6_numbersInto 19 = .ok (.istore_n 2, 1) := by decide +kernel
theorem dX6_numbersInto_20 : decode cX6_numbersInto 20 = .ok (.iconst 1, 1) := by decide +kernel
theorem dX6_numbersInto_21 : decode cX6_numbersInto 21 = .ok (.istore_n 3, 1) := by decide +kernel
theorem dX6_numbersInto_22 : decode cX6_numbersInto 22 = .ok (.aload_n 0, 1) := by decide +kernel
theorem dX6_numbersInto_23 : decode cX6_numbersInto 23 = .ok (.getfield 15, 3) := by decide +kernel
theorem dX6_numbersInto_26 : decode cX6_numbersInto 26 = .ok (.bipush 80, 2) := by decide +kernel
theorem dX6_numbersInto_28 : decode cX6_numbersInto 28 = .ok (.invokestatic 23, 3) := by decide +kernel
theorem dX6_numbersInto_31 : decode cX6_numbersInto 31 = .ok (.iconst 1, 1) := by decide +kernel
theorem dX6_numbersInto_32 : decode cX6_numbersInto 32 = .ok (.isub, 1) := by decide +kernel
theorem dX6_numbersInto_33 : decode cX6_numbersInto 33 = .ok (.istore 4, 2) := by decide +kernel
theorem dX6_numbersInto_35 : decode cX6_numbersInto 35 = .ok (.iload 4, 2) := by decide +kernel
theorem dX6_numbersInto_37 : decode cX6_numbersInto 37 = .ok (.ifCond .lt 56, 3) := by decide +kernel
theorem dX6_numbersInto_40 : decode cX6_numbersInto 40 = .ok (.aload_n 0, 1) := by decide +kernel
theorem dX6_numbersInto_41 : decode cX6_numbersInto 41 = .ok (.getfield 11, 3) := by decide +kernel
theorem dX6_numbersInto_44 : decode cX6_numbersInto 44 = .ok (.iload 4, 2) := by decide +kernel
theorem dX6_numbersInto_46 : decode cX6_numbersInto 46 = .ok (.iaload, 1) := by decide +kernel
theorem dX6_numbersInto_47 : decode cX6_numbersInto 47 = .ok (.bipush 46, 2) := by decide +kernel
theorem dX6_numbersInto_49 : decode cX6_numbersInto 49 = .ok (.if_icmp .ne 11, 3) := by decide +kernel
theorem dX6_numbersInto_52 : decode cX6_numbersInto 52 = .ok (.iinc 2 1, 3) := by decide +kernel
theorem dX6_numbersInto_55 : decode cX6_numbersInto 55 = .ok (.iconst 1, 1) := by decide +kernel
theorem dX6_numbersInto_56 : decode cX6_numbersInto 56 = .ok (.istore_n 3, 1) := by decide +kernel
theorem dX6_numbersInto_57 : decode cX6_numbersInto 57 = .ok (.goto 30, 3) := by decide +kernel
theorem dX6_numbersInto_60 : decode cX6_numbersInto 60 = .ok (.iload_n 2, 1) := by decide +kernel
theorem dX6_numbersInto_61 : decode cX6_numbersInto 61 = .ok (.aload_n 1, 1) := by decide +kernel
theorem dX6_numbersInto_62 : decode cX6_numbersInto 62 = .ok (.arraylength, 1) := by decide +kernel
theorem dX6_numbersInto_63 : decode cX6_numbersInto 63 = .ok (.if_icmp .ge 24, 3) := by decide +kernel
theorem dX6_numbersInto_66 : decode cX6_numbersInto 66 = .ok (.aload_n 1, 1) := by decide +kernel
theorem dX6_numbersInto_67 : decode cX6_numbersInto 67 = .ok (.iload_n 2, 1) := by decide +kernel
theorem dX6_numbersInto_68 : decode cX6_numbersInto 68 = .ok (.dup2, 1) := by decide +kernel
theorem dX6_numbersInto_69 : decode cX6_numbersInto 69 = .ok (.iaload, 1) := by decide +kernel
theorem dX6_numbersInto_70 : decode cX6_numbersInto 70 = .ok (.aload_n 0, 1) := by decide +kernel
theorem dX6_numbersInto_71 : decode cX6_numbersInto 71 = .ok (.getfield 11, 3) := by decide +kernel
theorem dX6_numbersInto_74 : decode cX6_numbersInto 74 = .ok (.iload 4, 2) := by decide +kernel
theorem dX6_numbersInto_76 : decode cX6_numbersInto 76 = .ok (.iaload, 1) := by decide +kernel
theorem dX6_numbersInto_77 : decode cX6_numbersInto 77 = .ok (.bipush 48, 2) := by decide +kernel
theorem dX6_numbersInto_79 : decode cX6_numbersInto 79 = .ok (.isub, 1) := by decide +kernel
theorem dX6_numbersInto_80 : decode cX6_numbersInto 80 = .ok (.iload_n 3, 1) := by decide +kernel
theorem dX6_numbersInto_81 : decode cX6_numbersInto 81 = .ok (.imul, 1) := by decide +kernel
theorem dX6_numbersInto_82 : decode cX6_numbersInto 82 = .ok (.iadd, 1) := by decide +kernel
theorem dX6_numbersInto_83 : decode cX6_numbersInto 83 = .ok (.iastore, 1) := by decide +kernel
theorem dX6_numbersInto_84 : decode cX6_numbersInto 84 = .ok (.bipush 10, 2) := by decide +kernel
theorem dX6_numbersInto_86 : decode cX6_numbersInto 86 = .ok (.istore_n 3, 1) := by decide +kernel
theorem dX6_numbersInto_87 : decode cX6_numbersInto 87 = .ok (.iinc 4 (-1), 3) := by decide +kernel
theorem dX6_numbersInto_90 : decode cX6_numbersInto 90 = .ok (.goto (-55), 3) := by decide +kernel
theorem dX6_numbersInto_93 : decode cX6_numbersInto 93 = .ok (.iload_n 2, 1) := by decide +kernel
theorem dX6_numbersInto_94 : decode cX6_numbersInto 94 = .ok (.iconst 1, 1) := by decide +kernel
theorem dX6_numbersInto_95 : decode cX6_numbersInto 95 = .ok (.iadd, 1) := by decide +kernel
theorem dX6_numbersInto_96 : decode cX6_numbersInto 96 = .ok (.ireturn, 1) := by decide +kernel
theorem dX6_isFigure_0 : decode cX6_isFigure 0 = .ok (.iload_n 0, 1) := by decide +kernel
theorem dX6_isFigure_1 : decode cX6_isFigure 1 = .ok (.bipush 48, 2) := by decide +kernel
theorem dX6_isFigure_3 : decode cX6_isFigure 3 = .ok (.bipush 57, 2) := by decide +kernel
theorem dX6_isFigure_5 : decode cX6_isFigure 5 = .ok (.invokestatic 29, 3) := by decide +kernel
theorem dX6_isFigure_8 : decode cX6_isFigure 8 = .ok (.ireturn, 1) := by decide +kernel
