theorem dX8_reads_106 : decode cX8_reads 106 = .ok (.aload_n 0, 1) := by decide +kernel
theorem dX8_reads_107 : decode cX8_reads 107 = .ok (.getfield 237, 3) := by decide +kernel
theorem dX8_reads_110 : decode cX8_reads 110 = .ok (.iaload, 1) := by decide +kernel
theorem dX8_reads_111 : decode cX8_reads 111 = .ok (.bipush 46, 2) := by decide +kernel
theorem dX8_reads_113 : decode cX8_reads 113 = .ok (.if_icmp .eq 5, 3) := by decide +kernel
theorem dX8_reads_116 : decode cX8_reads 116 = .ok (.iconst (-1), 1) := by decide +kernel
theorem dX8_reads_117 : decode cX8_reads 117 = .ok (.ireturn, 1) := by decide +kernel
theorem dX8_reads_118 : decode cX8_reads 118 = .ok (.aload_n 0, 1) := by decide +kernel
theorem dX8_reads_119 : decode cX8_reads 119 = .ok (.dup, 1) := by decide +kernel
theorem dX8_reads_120 : decode cX8_reads 120 = .ok (.getfield 237, 3) := by decide +kernel
theorem dX8_reads_123 : decode cX8_reads 123 = .ok (.iconst 1, 1) := by decide +kernel
theorem dX8_reads_124 : decode cX8_reads 124 = .ok (.iadd, 1) := by decide +kernel
theorem dX8_reads_125 : decode cX8_reads 125 = .ok (.putfield 237, 3) := by decide +kernel
theorem dX8_reads_128 : decode cX8_reads 128 = .ok (.goto (-121), 3) := by decide +kernel
theorem dX8_read_0 : decode cX8_read 0 = .ok (.iload_n 1, 1) := by decide +kernel
theorem dX8_read_1 : decode cX8_read 1 = .ok (.invokestatic 149, 3) := by decide +kernel
theorem dX8_read_4 : decode cX8_read 4 = .ok (.ifCond .eq 10, 3) := by decide +kernel
theorem dX8_read_7 : decode cX8_read 7 = .ok (.iload_n 2, 1) := by decide +kernel
theorem dX8_read_8 : decode cX8_read 8 = .ok (.invokestatic 114, 3) := by decide +kernel
theorem dX8_read_11 : decode cX8_read 11 = .ok (.ifCond .ne 6, 3) := by decide +kernel
theorem dX8_read_14 : decode cX8_read 14 = .ok (.bipush (-2), 2) := by decide +kernel
theorem dX8_read_16 : decode cX8_read 16 = .ok (.ireturn, 1) := by decide +kernel
theorem dX8_read_17 : decode cX8_read 17 = .ok (.aload_n 0, 1) := by decide +kernel
theorem dX8_read_18 : decode cX8_read 18 = .ok (.aload_n 0, 1) := by decide +kernel
theorem dX8_read_19 : decode cX8_read 19 = .ok (.getfield 18, 3) := by decide +kernel
theorem dX8_read_22 : decode cX8_read 22 = .ok (.iload_n 2, 1) := by decide +kernel
theorem dX8_read_23 : decode cX8_read 23 = .ok (.iaload, 1) := by decide +kernel
theorem dX8_read_24 : decode cX8_read 24 = .ok (.invokevirtual 248, 3) := by decide +kernel
theorem dX8_read_27 : decode cX8_read 27 = .ok (.istore_n 3, 1) := by decide +kernel
theorem dX8_read_28 : decode cX8_read 28 = .ok (.aload_n 0, 1) := by decide +kernel
theorem dX8_read_29 : decode cX8_read 29 = .ok (.iconst 0, 1) := by decide +kernel
theorem dX8_read_30 : decode cX8_read 30 = .ok (.putfield 234, 3) := by decide +kernel
theorem dX8_read_33 : decode cX8_read 33 = .ok (.iload_n 3, 1) := by decide +kernel
theorem dX8_read_34 : decode cX8_read 34 = .ok (.iconst (-1), 1) := by decide +kernel
theorem dX8_read_35 : decode cX8_read 35 = .ok (.if_icmp .ne 11, 3) := by decide +kernel
theorem dX8_read_38 : decode cX8_read 38 = .ok (.bipush (-100), 2) := by decide +kernel
theorem dX8_read_40 : decode cX8_read 40 = .ok (.aload_n 0, 1) := by decide +kernel
theorem dX8_read_41 : decode cX8_read 41 = .ok (.getfield 237, 3) := by decide +kernel
theorem dX8_read_44 : decode cX8_read 44 = .ok (.isub, 1) := by decide +kernel
theorem dX8_read_45 : decode cX8_read 45 = .ok (.ireturn, 1) := by decide +kernel
theorem dX8_read_46 : decode cX8_read 46 = .ok (.iconst 0, 1) := by decide +kernel
theorem dX8_read_47 : decode cX8_read 47 = .ok (.istore 4, 2) := by decide +kernel
theorem dX8_read_49 : decode cX8_read 49 = .ok (.iload 4, 2) := by decide +kernel
theorem dX8_read_51 : decode cX8_read 51 = .ok (.aload_n 0, 1) := by decide +kernel
theorem dX8_read_52 : decode cX8_read 52 = .ok (.getfield 18, 3) := by decide +kernel
theorem dX8_read_55 : decode cX8_read 55 = .ok (.iload_n 2, 1) := by decide +kernel
theorem dX8_read_56 : decode cX8_read 56 = .ok (.iaload, 1) := by decide +kernel
theorem dX8_read_57 : decode cX8_read 57 = .ok (.if_icmp .ge 37, 3) := by decide +kernel
theorem dX8_read_60 : decode cX8_read 60 = .ok (.aload_n 0, 1) := by decide +kernel
theorem dX8_read_61 : decode cX8_read 61 = .ok (.getfield 34, 3) := by decide +kernel
theorem dX8_read_64 : decode cX8_read 64 = .ok (.iload 4, 2) := by decide +kernel
theorem dX8_read_66 : decode cX8_read 66 = .ok (.iload 4, 2) := by decide +kernel
theorem dX8_read_68 : decode cX8_read 68 = .ok (.iload_n 3, 1) := by decide +kernel
theorem dX8_read_69 : decode cX8_read 69 = .ok (.if_icmp .ge 17, 3) := by decide +kernel
theorem dX8_read_72 : decode cX8_read 72 = .ok (.aload_n 0, 1) := by decide +kernel
theorem dX8_read_73 : decode cX8_read 73 = .ok (.getfield 64, 3) := by decide +kernel
theorem dX8_read_76 : decode cX8_read 76 = .ok (.iload_n 3, 1) := by decide +kernel
theorem dX8_read_77 : decode cX8_read 77 = .ok (.iconst 1, 1) := by decide +kernel
theorem dX8_read_78 : decode cX8_read 78 = .ok (.isub, 1) := by decide +kernel
theorem dX8_read_79 : decode cX8_read 79 = .ok (.iload 4, 2) := by decide +kernel
theorem dX8_read_81 : decode cX8_read 81 = .ok (.isub, 1) := by decide +kernel
theorem dX8_read_82 : decode cX8_read 82 = .ok (.iaload, 1) := by decide +kernel
theorem dX8_read_83 : decode cX8_read 83 = .ok (.goto 4, 3) := by decide +kernel
theorem dX8_read_86 : decode cX8_read 86 = .ok (.iconst 0, 1) := by decide +kernel
theorem dX8_read_87 : decode cX8_read 87 = .ok (.iastore, 1) := by decide +kernel
theorem dX8_read_88 : decode cX8_read 88 = .ok (.iinc 4 1, 3) := by decide +kernel
theorem dX8_read_91 : decode cX8_read 91 = .ok (.goto (-42), 3) := by decide +kernel
theorem dX8_read_94 : decode cX8_read 94 = .ok (.aload_n 0, 1) := by decide +kernel
theorem dX8_read_95 : decode cX8_read 95 = .ok (.iload_n 1, 1) := by decide +kernel
theorem dX8_read_96 : decode cX8_read 96 = .ok (.iload_n 2, 1) := by decide +kernel
theorem dX8_read_97 : decode cX8_read 97 = .ok (.invokevirtual 156, 3) := by decide +kernel
theorem dX8_read_100 : decode cX8_read 100 = .ok (.istore 4, 2) := by decide +kernel
theorem dX8_read_102 : decode cX8_read 102 = .ok (.iload_n 3, 1) := by decide +kernel
theorem dX8_read_103 : decode cX8_read 103 = .ok (.ireturn, 1) := by decide +kernel
theorem dX8_isRow_0 : decode cX8_isRow 0 = .ok (.iload_n 0, 1) := by decide +kernel
theorem dX8_isRow_1 : decode cX8_isRow 1 = .ok (.i2l, 1) := by decide +kernel
theorem dX8_isRow_2 : decode cX8_isRow 2 = .ok (.lconst 0, 1) := by decide +kernel
theorem dX8_isRow_3 : decode cX8_isRow 3 = .ok (.ldc2_w 102, 3) := by decide +kernel
theorem dX8_isRow_6 : decode cX8_isRow 6 = .ok (.invokestatic 104, 3) := by decide +kernel
theorem dX8_isRow_9 : decode cX8_isRow 9 = .ok (.ireturn, 1) := by decide +kernel
theorem dX8_row_0 : decode cX8_row 0 = .ok (.iload_n 1, 1) := by decide +kernel
theorem dX8_row_1 : decode cX8_row 1 = .ok (.invokestatic 251, 3) := by decide +kernel
theorem dX8_row_4 : decode cX8_row 4 = .ok (.ifCond .eq 9, 3) := by decide +kernel
theorem dX8_row_7 : decode cX8_row 7 = .ok (.iload_n 2, 1) := by decide +kernel
theorem dX8_row_8 : decode cX8_row 8 = .ok (.bipush 60, 2) := by decide +kernel
theorem dX8_row_10 : decode cX8_row 10 = .ok (.if_icmp .le 6, 3) := by decide +kernel
theorem dX8_row_13 : decode cX8_row 13 = .ok (.bipush (-2), 2) := by decide +kernel
theorem dX8_row_15 : decode cX8_row 15 = .ok (.ireturn, 1) := by decide +kernel
theorem dX8_row_16 : decode cX8_row 16 = .ok (.iload_n 2, 1) := by decide +kernel
theorem dX8_row_17 : decode cX8_row 17 = .ok (.iconst (-1), 1) := by decide +kernel
theorem dX8_row_18 : decode cX8_row 18 = .ok (.if_icmp .ge 6, 3) := by decide +kernel
theorem dX8_row_21 : decode cX8_row 21 = .ok (.bipush (-14), 2) := by decide +kernel
theorem dX8_row_23 : decode cX8_row 23 = .ok (.ireturn, 1) := by decide +kernel
theorem dX8_row_24 : decode cX8_row 24 = .ok (.aload_n 0, 1) := by decide +kernel
theorem dX8_row_25 : decode cX8_row 25 = .ok (.getfield 73, 3) := by decide +kernel
theorem dX8_row_28 : decode cX8_row 28 = .ok (.iload_n 1, 1) := by decide +kernel
theorem dX8_row_29 : decode cX8_row 29 = .ok (.iload_n 2, 1) := by decide +kernel
theorem dX8_row_30 : decode cX8_row 30 = .ok (.ifCond .lt 7, 3) := by decide +kernel
theorem dX8_row_33 : decode cX8_row 33 = .ok (.iconst 1, 1) := by decide +kernel
theorem dX8_row_34 : decode cX8_row 34 = .ok (.goto 4, 3) := by decide +kernel
theorem dX8_row_37 : decode cX8_row 37 = .ok (.iconst 0, 1) := by decide +kernel
theorem dX8_row_38 : decode cX8_row 38 = .ok (.bastore, 1) := by decide +kernel
theorem dX8_row_39 : decode cX8_row 39 = .ok (.aload_n 0, 1) := by decide +kernel
theorem dX8_row_40 : decode cX8_row 40 = .ok (.getfield 77, 3) := by decide +kernel
theorem dX8_row_43 : decode cX8_row 43 = .ok (.iload_n 1, 1) := by decide +kernel
theorem dX8_row_44 : decode cX8_row 44 = .ok (.iload_n 2, 1) := by decide +kernel
theorem dX8_row_45 : decode cX8_row 45 = .ok (.ifCond .ge 7, 3) := by decide +kernel
theorem dX8_row_48 : decode cX8_row 48 = .ok (.iconst 0, 1) := by decide +kernel
theorem dX8_row_49 : decode cX8_row 49 = .ok (.goto 4, 3) := by decide +kernel
theorem dX8_row_52 : decode cX8_row 52 = .ok (.iload_n 2, 1) := by decide +kernel
theorem dX8_row_53 : decode cX8_row 53 = .ok (.iastore, 1) := by decide +kernel
theorem dX8_row_54 : decode cX8_row 54 = .ok (.iconst 0, 1) := by decide +kernel
theorem dX8_row_55 : decode cX8_row 55 = .ok (.istore_n 3, 1) := by decide +kernel
theorem dX8_row_56 : decode cX8_row 56 = .ok (.iload_n 3, 1) := by decide +kernel
theorem dX8_row_57 : decode cX8_row 57 = .ok (.bipush 60, 2) := by decide +kernel
theorem dX8_row_59 : decode cX8_row 59 = .ok (.if_icmp .ge 21, 3) := by decide +kernel
theorem dX8_row_62 : decode cX8_row 62 = .ok (.aload_n 0, 1) := by decide +kernel
theorem dX8_row_63 : decode cX8_row 63 = .ok (.getfield 80, 3) := by decide +kernel
theorem dX8_row_66 : decode cX8_row 66 = .ok (.bipush 60, 2) := by decide +kernel
theorem dX8_row_68 : decode cX8_row 68 = .ok (.iload_n 1, 1) := by decide +kernel
theorem dX8_row_69 : decode cX8_row 69 = .ok (.imul, 1) := by decide +kernel
theorem dX8_row_70 : decode cX8_row 70 = .ok (.iload_n 3, 1) := by decide +kernel
theorem dX8_row_71 : decode cX8_row 71 = .ok (.iadd, 1) := by decide +kernel
theorem dX8_row_72 : decode cX8_row 72 = .ok (.lconst 0, 1) := by decide +kernel
theorem dX8_row_73 : decode cX8_row 73 = .ok (.lastore, 1) := by decide +kernel
theorem dX8_row_74 : decode cX8_row 74 = .ok (.iinc 3 1, 3) := by decide +kernel
theorem dX8_row_77 : decode cX8_row 77 = .ok (.goto (-21), 3) := by decide +kernel
theorem dX8_row_80 : decode cX8_row 80 = .ok (.iconst 1, 1) := by decide +kernel
theorem dX8_row_81 : decode cX8_row 81 = .ok (.ireturn, 1) := by decide +kernel
theorem dX8_put_0 : decode cX8_put 0 = .ok (.iload_n 1, 1) := by decide +kernel
theorem dX8_put_1 : decode cX8_put 1 = .ok (.invokestatic 251, 3) := by decide +kernel
theorem dX8_put_4 : decode cX8_put 4 = .ok (.ifCond .ne 6, 3) := by decide +kernel
theorem dX8_put_7 : decode cX8_put 7 = .ok (.bipush (-2), 2) := by decide +kernel
theorem dX8_put_9 : decode cX8_put 9 = .ok (.ireturn, 1) := by decide +kernel
theorem dX8_put_10 : decode cX8_put 10 = .ok (.aload_n 0, 1) := by decide +kernel
theorem dX8_put_11 : decode cX8_put 11 = .ok (.getfield 73, 3) := by decide +kernel
theorem dX8_put_14 : decode cX8_put 14 = .ok (.iload_n 1, 1) := by decide +kernel
theorem dX8_put_15 : decode cX8_put 15 = .ok (.baload, 1) := by decide +kernel
theorem dX8_put_16 : decode cX8_put 16 = .ok (.ifCond .ne 6, 3) := by decide +kernel
theorem dX8_put_19 : decode cX8_put 19 = .ok (.bipush (-11), 2) := by decide +kernel
theorem dX8_put_21 : decode cX8_put 21 = .ok (.ireturn, 1) := by decide +kernel
theorem dX8_put_22 : decode cX8_put 22 = .ok (.iload_n 2, 1) := by decide +kernel
theorem dX8_put_23 : decode cX8_put 23 = .ok (.i2l, 1) := by decide +kernel
theorem dX8_put_24 : decode cX8_put 24 = .ok (.lconst 0, 1) := by decide +kernel
theorem dX8_put_25 : decode cX8_put 25 = .ok (.aload_n 0, 1) := by decide +kernel
theorem dX8_put_26 : decode cX8_put 26 = .ok (.getfield 77, 3) := by decide +kernel
theorem dX8_put_29 : decode cX8_put 29 = .ok (.iload_n 1, 1) := by decide +kernel
theorem dX8_put_30 : decode cX8_put 30 = .ok (.iaload, 1) := by decide +kernel
theorem dX8_put_31 : decode cX8_put 31 = .ok (.iconst 1, 1) := by decide +kernel
theorem dX8_put_32 : decode cX8_put 32 = .ok (.isub, 1) := by decide +kernel
theorem dX8_put_33 : decode cX8_put 33 = .ok (.i2l, 1) := by decide +kernel
theorem dX8_put_34 : decode cX8_put 34 = .ok (.invokestatic 104, 3) := by decide +kernel
theorem dX8_put_37 : decode cX8_put 37 = .ok (.ifCond .ne 6, 3) := by decide +kernel
theorem dX8_put_40 : decode cX8_put 40 = .ok (.bipush (-12), 2) := by decide +kernel
theorem dX8_put_42 : decode cX8_put 42 = .ok (.ireturn, 1) := by decide +kernel
theorem dX8_put_43 : decode cX8_put 43 = .ok (.aload_n 0, 1) := by decide +kernel
theorem dX8_put_44 : decode cX8_put 44 = .ok (.getfield 80, 3) := by decide +kernel
theorem dX8_put_47 : decode cX8_put 47 = .ok (.bipush 60, 2) := by decide +kernel
theorem dX8_put_49 : decode cX8_put 49 = .ok (.iload_n 1, 1) := by decide +kernel
theorem dX8_put_50 : decode cX8_put 50 = .ok (.imul, 1) := by decide +kernel
theorem dX8_put_51 : decode cX8_put 51 = .ok (.iload_n 2, 1) := by decide +kernel
theorem dX8_put_52 : decode cX8_put 52 = .ok (.iadd, 1) := by decide +kernel
theorem dX8_put_53 : decode cX8_put 53 = .ok (.lload_n 3, 1) := by decide +kernel
theorem dX8_put_54 : decode cX8_put 54 = .ok (.lastore, 1) := by decide +kernel
theorem dX8_put_55 : decode cX8_put 55 = .ok (.iconst 1, 1) := by decide +kernel
theorem dX8_put_56 : decode cX8_put 56 = .ok (.ireturn, 1) := by decide +kernel
theorem dX8_get_0 : decode cX8_get 0 = .ok (.iload_n 1, 1) := by decide +kernel
theorem dX8_get_1 : decode cX8_get 1 = .ok (.invokestatic 251, 3) := by decide +kernel
theorem dX8_get_4 : decode cX8_get 4 = .ok (.ifCond .eq 44, 3) := by decide +kernel
theorem dX8_get_7 : decode cX8_get 7 = .ok (.aload_n 0, 1) := by decide +kernel
theorem dX8_get_8 : decode cX8_get 8 = .ok (.getfield 73, 3) := by decide +kernel
theorem dX8_get_11 : decode cX8_get 11 = .ok (.iload_n 1, 1) := by decide +kernel
theorem dX8_get_12 : decode cX8_get 12 = .ok (.baload, 1) := by decide +kernel
theorem dX8_get_13 : decode cX8_get 13 = .ok (.ifCond .eq 35, 3) := by decide +kernel
theorem dX8_get_16 : decode cX8_get 16 = .ok (.iload_n 2, 1) := by decide +kernel
theorem dX8_get_17 : decode cX8_get 17 = .ok (.i2l, 1) := by decide +kernel
theorem dX8_get_18 : decode cX8_get 18 = .ok (.lconst 0, 1) := by decide +kernel
theorem dX8_get_19 : decode cX8_get 19 = .ok (.aload_n 0, 1) := by decide +kernel
theorem dX8_get_20 : decode cX8_get 20 = .ok (.getfield 77, 3) := by decide +kernel
theorem dX8_get_23 : decode cX8_get 23 = .ok (.iload_n 1, 1) := by decide +kernel
theorem dX8_get_24 : decode cX8_get 24 = .ok (.iaload, 1) := by decide +kernel
theorem dX8_get_25 : decode cX8_get 25 = .ok (.iconst 1, 1) := by decide +kernel
theorem dX8_get_26 : decode cX8_get 26 = .ok (.isub, 1) := by decide +kernel
theorem dX8_get_27 : decode cX8_get 27 = .ok (.i2l, 1) := by decide +kernel
theorem dX8_get_28 : decode cX8_get 28 = .ok (.invokestatic 104, 3) := by decide +kernel
theorem dX8_get_31 : decode cX8_get 31 = .ok (.ifCond .eq 17, 3) := by decide +kernel
theorem dX8_get_34 : decode cX8_get 34 = .ok (.aload_n 0, 1) := by decide +kernel
theorem dX8_get_35 : decode cX8_get 35 = .ok (.getfield 80, 3) := by decide +kernel
theorem dX8_get_38 : decode cX8_get 38 = .ok (.bipush 60, 2) := by decide +kernel
theorem dX8_get_40 : decode cX8_get 40 = .ok (.iload_n 1, 1) := by decide +kernel
theorem dX8_get_41 : decode cX8_get 41 = .ok (.imul, 1) := by decide +kernel
theorem dX8_get_42 : decode cX8_get 42 = .ok (.iload_n 2, 1) := by decide +kernel
theorem dX8_get_43 : decode cX8_get 43 = .ok (.iadd, 1) := by decide +kernel
theorem dX8_get_44 : decode cX8_get 44 = .ok (.laload, 1) := by decide +kernel
theorem dX8_get_45 : decode cX8_get 45 = .ok (.goto 6, 3) := by decide +kernel
theorem dX8_get_48 : decode cX8_get 48 = .ok (.ldc2_w 127, 3) := by decide +kernel
theorem dX8_get_51 : decode cX8_get 51 = .ok (.lreturn, 1) := by decide +kernel
theorem dX8_copy_0 : decode cX8_copy 0 = .ok (.iload_n 1, 1) := by decide +kernel
theorem dX8_copy_1 : decode cX8_copy 1 = .ok (.invokestatic 251, 3) := by decide +kernel
theorem dX8_copy_4 : decode cX8_copy 4 = .ok (.ifCond .eq 10, 3) := by decide +kernel
theorem dX8_copy_7 : decode cX8_copy 7 = .ok (.iload_n 3, 1) := by decide +kernel
theorem dX8_copy_8 : decode cX8_copy 8 = .ok (.invokestatic 251, 3) := by decide +kernel
theorem dX8_copy_11 : decode cX8_copy 11 = .ok (.ifCond .ne 6, 3) := by decide +kernel
theorem dX8_copy_14 : decode cX8_copy 14 = .ok (.bipush (-2), 2) := by decide +kernel
theorem dX8_copy_16 : decode cX8_copy 16 = .ok (.ireturn, 1) := by decide +kernel
theorem dX8_copy_17 : decode cX8_copy 17 = .ok (.aload_n 0, 1) := by decide +kernel
theorem dX8_copy_18 : decode cX8_copy 18 = .ok (.getfield 73, 3) := by decide +kernel
theorem dX8_copy_21 : decode cX8_copy 21 = .ok (.iload_n 1, 1) := by decide +kernel
theorem dX8_copy_22 : decode cX8_copy 22 = .ok (.baload, 1) := by decide +kernel
theorem dX8_copy_23 : decode cX8_copy 23 = .ok (.ifCond .eq 12, 3) := by decide +kernel
theorem dX8_copy_26 : decode cX8_copy 26 = .ok (.aload_n 0, 1) := by decide +kernel
theorem dX8_copy_27 : decode cX8_copy 27 = .ok (.getfield 73, 3) := by decide +kernel
theorem dX8_copy_30 : decode cX8_copy 30 = .ok (.iload_n 3, 1) := by decide +kernel
theorem dX8_copy_31 : decode cX8_copy 31 = .ok (.baload, 1) := by decide +kernel
theorem dX8_copy_32 : decode cX8_copy 32 = .ok (.ifCond .ne 6, 3) := by decide +kernel
theorem dX8_copy_35 : decode cX8_copy 35 = .ok (.bipush (-11), 2) := by decide +kernel
theorem dX8_copy_37 : decode cX8_copy 37 = .ok (.ireturn, 1) := by decide +kernel
theorem dX8_copy_38 : decode cX8_copy 38 = .ok (.iload 5, 2) := by decide +kernel
theorem dX8_copy_40 : decode cX8_copy 40 = .ok (.ifCond .lt 47, 3) := by decide +kernel
theorem dX8_copy_43 : decode cX8_copy 43 = .ok (.iload_n 2, 1) := by decide +kernel
theorem dX8_copy_44 : decode cX8_copy 44 = .ok (.ifCond .lt 43, 3) := by decide +kernel
theorem dX8_copy_47 : decode cX8_copy 47 = .ok (.iload 4, 2) := by decide +kernel
theorem dX8_copy_49 : decode cX8_copy 49 = .ok (.ifCond .lt 38, 3) := by decide +kernel
theorem dX8_copy_52 : decode cX8_copy 52 = .ok (.iload_n 2, 1) := by decide +kernel
theorem dX8_copy_53 : decode cX8_copy 53 = .ok (.i2l, 1) := by decide +kernel
theorem dX8_copy_54 : decode cX8_copy 54 = .ok (.iload 5, 2) := by decide +kernel
theorem dX8_copy_56 : decode cX8_copy 56 = .ok (.i2l, 1) := by decide +kernel
theorem dX8_copy_57 : decode cX8_copy 57 = .ok (.ladd, 1) := by decide +kernel
theorem dX8_copy_58 : decode cX8_copy 58 = .ok (.aload_n 0, 1) := by decide +kernel
theorem dX8_copy_59 : decode cX8_copy 59 = .ok (.getfield 77, 3) := by decide +kernel
theorem dX8_copy_62 : decode cX8_copy 62 = .ok (.iload_n 1, 1) := by decide +kernel
theorem dX8_copy_63 : decode cX8_copy 63 = .ok (.iaload, 1) := by decide +kernel
theorem dX8_copy_64 : decode cX8_copy 64 = .ok (.i2l, 1) := by decide +kernel
theorem dX8_copy_65 : decode cX8_copy 65 = .ok (.lcmp, 1) := by decide +kernel
theorem dX8_copy_66 : decode cX8_copy 66 = .ok (.ifCond .gt 21, 3) := by decide +kernel
theorem dX8_copy_69 : decode cX8_copy 69 = .ok (.iload 4, 2) := by decide +kernel
theorem dX8_copy_71 : decode cX8_copy 71 = .ok (.i2l, 1) := by decide +kernel
theorem dX8_copy_72 : decode cX8_copy 72 = .ok (.iload 5, 2) := by decide +kernel
theorem dX8_copy_74 : decode cX8_copy 74 = .ok (.i2l, 1) := by decide +kernel
theorem dX8_copy_75 : decode cX8_copy 75 = .ok (.ladd, 1) := by decide +kernel
theorem dX8_copy_76 : decode cX8_copy 76 = .ok (.aload_n 0, 1) := by decide +kernel
theorem dX8_copy_77 : decode cX8_copy 77 = .ok (.getfield 77, 3) := by decide +kernel
theorem dX8_copy_80 : decode cX8_copy 80 = .ok (.iload_n 3, 1) := by decide +kernel
theorem dX8_copy_81 : decode cX8_copy 81 = .ok (.iaload, 1) := by decide +kernel
theorem dX8_copy_82 : decode cX8_copy 82 = .ok (.i2l, 1) := by decide +kernel
theorem dX8_copy_83 : decode cX8_copy 83 = .ok (.lcmp, 1) := by decide +kernel
theorem dX8_copy_84 : decode cX8_copy 84 = .ok (.ifCond .le 6, 3) := by decide +kernel
theorem dX8_copy_87 : decode cX8_copy 87 = .ok (.bipush (-12), 2) := by decide +kernel
theorem dX8_copy_89 : decode cX8_copy 89 = .ok (.ireturn, 1) := by decide +kernel
theorem dX8_copy_90 : decode cX8_copy 90 = .ok (.iconst 0, 1) := by decide +kernel
theorem dX8_copy_91 : decode cX8_copy 91 = .ok (.istore 6, 2) := by decide +kernel
theorem dX8_copy_93 : decode cX8_copy 93 = .ok (.iload 6, 2) := by decide +kernel
theorem dX8_copy_95 : decode cX8_copy 95 = .ok (.iload 5, 2) := by decide +kernel
theorem dX8_copy_97 : decode cX8_copy 97 = .ok (.if_icmp .ge 30, 3) := by decide +kernel
theorem dX8_copy_100 : decode cX8_copy 100 = .ok (.aload_n 0, 1) := by decide +kernel
theorem dX8_copy_101 : decode cX8_copy 101 = .ok (.getfield 83, 3) := by decide +kernel
theorem dX8_copy_104 : decode cX8_copy 104 = .ok (.iload 6, 2) := by decide +kernel
theorem dX8_copy_106 : decode cX8_copy 106 = .ok (.aload_n 0, 1) := by decide +kernel
theorem dX8_copy_107 : decode cX8_copy 107 = .ok (.getfield 80, 3) := by decide +kernel
theorem dX8_copy_110 : decode cX8_copy 110 = .ok (.bipush 60, 2) := by decide +kernel
theorem dX8_copy_112 : decode cX8_copy 112 = .ok (.iload_n 1, 1) := by decide +kernel
theorem dX8_copy_113 : decode cX8_copy 113 = .ok (.imul, 1) := by decide +kernel
theorem dX8_copy_114 : decode cX8_copy 114 = .ok (.iload_n 2, 1) := by decide +kernel
theorem dX8_copy_115 : decode cX8_copy 115 = .ok (.iadd, 1) := by decide +kernel
theorem dX8_copy_116 : decode cX8_copy 116 = .ok (.iload 6, 2) := by decide +kernel
theorem dX8_copy_118 : decode cX8_copy 118 = .ok (.iadd, 1) := by decide +kernel
theorem dX8_copy_119 : decode cX8_copy 119 = .ok (.laload, 1) := by decide +kernel
theorem dX8_copy_120 : decode cX8_copy 120 = .ok (.lastore, 1) := by decide +kernel
theorem dX8_copy_121 : decode cX8_copy 121 = .ok (.iinc 6 1, 3) := by decide +kernel
theorem dX8_copy_124 : decode cX8_copy 124 = .ok (.goto (-31), 3) := by decide +kernel
theorem dX8_copy_127 : decode cX8_copy 127 = .ok (.iconst 0, 1) := by decide +kernel
theorem dX8_copy_128 : decode cX8_copy 128 = .ok (.istore 6, 2) := by decide +kernel
theorem dX8_copy_130 : decode cX8_copy 130 = .ok (.iload 6, 2) := by decide +kernel
theorem dX8_copy_132 : decode cX8_copy 132 = .ok (.iload 5, 2) := by decide +kernel
theorem dX8_copy_134 : decode cX8_copy 134 = .ok (.if_icmp .ge 31, 3) := by decide +kernel
theorem dX8_copy_137 : decode cX8_copy 137 = .ok (.aload_n 0, 1) := by decide +kernel
theorem dX8_copy_138 : decode cX8_copy 138 = .ok (.getfield 80, 3) := by decide +kernel
theorem dX8_copy_141 : decode cX8_copy 141 = .ok (.bipush 60, 2) := by decide +kernel
theorem dX8_copy_143 : decode cX8_copy 143 = .ok (.iload_n 3, 1) := by decide +kernel
theorem dX8_copy_144 : decode cX8_copy 144 = .ok (.imul, 1) := by decide +kernel
theorem dX8_copy_145 : decode cX8_copy 145 = .ok (.iload 4, 2) := by decide +kernel
theorem dX8_copy_147 : decode cX8_copy 147 = .ok (.iadd, 1) := by decide +kernel
theorem dX8_copy_148 : decode cX8_copy 148 = .ok (.iload 6, 2) := by decide +kernel
theorem dX8_copy_150 : decode cX8_copy 150 = .ok (.iadd, 1) := by decide +kernel
theorem dX8_copy_151 : decode cX8_copy 151 = .ok (.aload_n 0, 1) := by decide +kernel
theorem dX8_copy_152 : decode cX8_copy 152 = .ok (.getfield 83, 3) := by decide +kernel
theorem dX8_copy_155 : decode cX8_copy 155 = .ok (.iload 6, 2) := by decide +kernel
theorem dX8_copy_157 : decode cX8_copy 157 = .ok (.laload, 1) := by decide +kernel
theorem dX8_copy_158 : decode cX8_copy 158 = .ok (.lastore, 1) := by decide +kernel
theorem dX8_copy_159 : decode cX8_copy 159 = .ok (.iinc 6 1, 3) := by decide +kernel
theorem dX8_copy_162 : decode cX8_copy 162 = .ok (.goto (-32), 3) := by decide +kernel
theorem dX8_copy_165 : decode cX8_copy 165 = .ok (.iload 5, 2) := by decide +kernel
theorem dX8_copy_167 : decode cX8_copy 167 = .ok (.ireturn, 1) := by decide +kernel
theorem dX8_lay_0 : decode cX8_lay 0 = .ok (.iload_n 1, 1) := by decide +kernel
theorem dX8_lay_1 : decode cX8_lay 1 = .ok (.invokestatic 149, 3) := by decide +kernel
theorem dX8_lay_4 : decode cX8_lay 4 = .ok (.ifCond .eq 17, 3) := by decide +kernel
theorem dX8_lay_7 : decode cX8_lay 7 = .ok (.iload_n 2, 1) := by decide +kernel
theorem dX8_lay_8 : decode cX8_lay 8 = .ok (.invokestatic 114, 3) := by decide +kernel
theorem dX8_lay_11 : decode cX8_lay 11 = .ok (.ifCond .eq 10, 3) := by decide +kernel
theorem dX8_lay_14 : decode cX8_lay 14 = .ok (.iload_n 3, 1) := by decide +kernel
theorem dX8_lay_15 : decode cX8_lay 15 = .ok (.invokestatic 251, 3) := by decide +kernel
theorem dX8_lay_18 : decode cX8_lay 18 = .ok (.ifCond .ne 6, 3) := by decide +kernel
theorem dX8_lay_21 : decode cX8_lay 21 = .ok (.bipush (-2), 2) := by decide +kernel
theorem dX8_lay_23 : decode cX8_lay 23 = .ok (.ireturn, 1) := by decide +kernel
theorem dX8_lay_24 : decode cX8_lay 24 = .ok (.aload_n 0, 1) := by decide +kernel
theorem dX8_lay_25 : decode cX8_lay 25 = .ok (.getfield 73, 3) := by decide +kernel
theorem dX8_lay_28 : decode cX8_lay 28 = .ok (.iload_n 3, 1) := by decide +kernel
theorem dX8_lay_29 : decode cX8_lay 29 = .ok (.baload, 1) := by decide +kernel
theorem dX8_lay_30 : decode cX8_lay 30 = .ok (.ifCond .ne 6, 3) := by decide +kernel
theorem dX8_lay_33 : decode cX8_lay 33 = .ok (.bipush (-11), 2) := by decide +kernel
theorem dX8_lay_35 : decode cX8_lay 35 = .ok (.ireturn, 1) := by decide +kernel
theorem dX8_lay_36 : decode cX8_lay 36 = .ok (.aload_n 0, 1) := by decide +kernel
theorem dX8_lay_37 : decode cX8_lay 37 = .ok (.getfield 77, 3) := by decide +kernel
theorem dX8_lay_40 : decode cX8_lay 40 = .ok (.iload_n 3, 1) := by decide +kernel
theorem dX8_lay_41 : decode cX8_lay 41 = .ok (.iaload, 1) := by decide +kernel
theorem dX8_lay_42 : decode cX8_lay 42 = .ok (.aload_n 0, 1) := by decide +kernel
theorem dX8_lay_43 : decode cX8_lay 43 = .ok (.getfield 18, 3) := by decide +kernel
theorem dX8_lay_46 : decode cX8_lay 46 = .ok (.iload_n 2, 1) := by decide +kernel
theorem dX8_lay_47 : decode cX8_lay 47 = .ok (.iaload, 1) := by decide +kernel
theorem dX8_lay_48 : decode cX8_lay 48 = .ok (.if_icmp .le 6, 3) := by decide +kernel
theorem dX8_lay_51 : decode cX8_lay 51 = .ok (.bipush (-3), 2) := by decide +kernel
theorem dX8_lay_53 : decode cX8_lay 53 = .ok (.ireturn, 1) := by decide +kernel
theorem dX8_lay_54 : decode cX8_lay 54 = .ok (.iconst 0, 1) := by decide +kernel
theorem dX8_lay_55 : decode cX8_lay 55 = .ok (.istore 4, 2) := by decide +kernel
theorem dX8_lay_57 : decode cX8_lay 57 = .ok (.iload 4, 2) := by decide +kernel
theorem dX8_lay_59 : decode cX8_lay 59 = .ok (.aload_n 0, 1) := by decide +kernel
theorem dX8_lay_60 : decode cX8_lay 60 = .ok (.getfield 77, 3) := by decide +kernel
theorem dX8_lay_63 : decode cX8_lay 63 = .ok (.iload_n 3, 1) := by decide +kernel
theorem dX8_lay_64 : decode cX8_lay 64 = .ok (.iaload, 1) := by decide +kernel
theorem dX8_lay_65 : decode cX8_lay 65 = .ok (.if_icmp .ge 34, 3) := by decide +kernel
theorem dX8_lay_68 : decode cX8_lay 68 = .ok (.aload_n 0, 1) := by decide +kernel
theorem dX8_lay_69 : decode cX8_lay 69 = .ok (.getfield 80, 3) := by decide +kernel
theorem dX8_lay_72 : decode cX8_lay 72 = .ok (.bipush 60, 2) := by decide +kernel
theorem dX8_lay_74 : decode cX8_lay 74 = .ok (.iload_n 3, 1) := by decide +kernel
theorem dX8_lay_75 : decode cX8_lay 75 = .ok (.imul, 1) := by decide +kernel
theorem dX8_lay_76 : decode cX8_lay 76 = .ok (.iload 4, 2) := by decide +kernel
theorem dX8_lay_78 : decode cX8_lay 78 = .ok (.iadd, 1) := by decide +kernel
theorem dX8_lay_79 : decode cX8_lay 79 = .ok (.laload, 1) := by decide +kernel
theorem dX8_lay_80 : decode cX8_lay 80 = .ok (.lconst 0, 1) := by decide +kernel
theorem dX8_lay_81 : decode cX8_lay 81 = .ok (.ldc2_w 186, 3) := by decide +kernel
theorem dX8_lay_84 : decode cX8_lay 84 = .ok (.invokestatic 104, 3) := by decide +kernel
theorem dX8_lay_87 : decode cX8_lay 87 = .ok (.ifCond .ne 6, 3) := by decide +kernel
theorem dX8_lay_90 : decode cX8_lay 90 = .ok (.bipush (-3), 2) := by decide +kernel
theorem dX8_lay_92 : decode cX8_lay 92 = .ok (.ireturn, 1) := by decide +kernel
theorem dX8_lay_93 : decode cX8_lay 93 = .ok (.iinc 4 1, 3) := by decide +kernel
theorem dX8_lay_96 : decode cX8_lay 96 = .ok (.goto (-39), 3) := by decide +kernel
theorem dX8_lay_99 : decode cX8_lay 99 = .ok (.iconst 0, 1) := by decide +kernel
theorem dX8_lay_100 : decode cX8_lay 100 = .ok (.istore 4, 2) := by decide +kernel
theorem dX8_lay_102 : decode cX8_lay 102 = .ok (.iload 4, 2) := by decide +kernel
theorem dX8_lay_104 : decode cX8_lay 104 = .ok (.aload_n 0, 1) := by decide +kernel
theorem dX8_lay_105 : decode cX8_lay 105 = .ok (.getfield 18, 3) := by decide +kernel
theorem dX8_lay_108 : decode cX8_lay 108 = .ok (.iload_n 2, 1) := by decide +kernel
theorem dX8_lay_109 : decode cX8_lay 109 = .ok (.iaload, 1) := by decide +kernel
theorem dX8_lay_110 : decode cX8_lay 110 = .ok (.if_icmp .ge 44, 3) := by decide +kernel
theorem dX8_lay_113 : decode cX8_lay 113 = .ok (.aload_n 0, 1) := by decide +kernel
theorem dX8_lay_114 : decode cX8_lay 114 = .ok (.getfield 34, 3) := by decide +kernel
theorem dX8_lay_117 : decode cX8_lay 117 = .ok (.iload 4, 2) := by decide +kernel
theorem dX8_lay_119 : decode cX8_lay 119 = .ok (.iload 4, 2) := by decide +kernel
theorem dX8_lay_121 : decode cX8_lay 121 = .ok (.aload_n 0, 1) := by decide +kernel
theorem dX8_lay_122 : decode cX8_lay 122 = .ok (.getfield 77, 3) := by decide +kernel
theorem dX8_lay_125 : decode cX8_lay 125 = .ok (.iload_n 3, 1) := by decide +kernel
theorem dX8_lay_126 : decode cX8_lay 126 = .ok (.iaload, 1) := by decide +kernel
theorem dX8_lay_127 : decode cX8_lay 127 = .ok (.if_icmp .ge 19, 3) := by decide +kernel
theorem dX8_lay_130 : decode cX8_lay 130 = .ok (.aload_n 0, 1) := by decide +kernel
theorem dX8_lay_131 : decode cX8_lay 131 = .ok (.getfield 80, 3) := by decide +kernel
theorem dX8_lay_134 : decode cX8_lay 134 = .ok (.bipush 60, 2) := by decide +kernel
theorem dX8_lay_136 : decode cX8_lay 136 = .ok (.iload_n 3, 1) := by decide +kernel
theorem dX8_lay_137 : decode cX8_lay 137 = .ok (.imul, 1) := by decide +kernel
theorem dX8_lay_138 : decode cX8_lay 138 = .ok (.iload 4, 2) := by decide +kernel
theorem dX8_lay_140 : decode cX8_lay 140 = .ok (.iadd, 1) := by decide +kernel
theorem dX8_lay_141 : decode cX8_lay 141 = .ok (.laload, 1) := by decide +kernel
theorem dX8_lay_142 : decode cX8_lay 142 = .ok (.l2i, 1) := by decide +kernel
theorem dX8_lay_143 : decode cX8_lay 143 = .ok (.goto 4, 3) := by decide +kernel
theorem dX8_lay_146 : decode cX8_lay 146 = .ok (.iconst 0, 1) := by decide +kernel
theorem dX8_lay_147 : decode cX8_lay 147 = .ok (.iastore, 1) := by decide +kernel
theorem dX8_lay_148 : decode cX8_lay 148 = .ok (.iinc 4 1, 3) := by decide +kernel
theorem dX8_lay_151 : decode cX8_lay 151 = .ok (.goto (-49), 3) := by decide +kernel
theorem dX8_lay_154 : decode cX8_lay 154 = .ok (.aload_n 0, 1) := by decide +kernel
theorem dX8_lay_155 : decode cX8_lay 155 = .ok (.iload_n 1, 1) := by decide +kernel
theorem dX8_lay_156 : decode cX8_lay 156 = .ok (.iload_n 2, 1) := by decide +kernel
theorem dX8_lay_157 : decode cX8_lay 157 = .ok (.invokevirtual 156, 3) := by decide +kernel
theorem dX8_lay_160 : decode cX8_lay 160 = .ok (.ireturn, 1) := by decide +kernel
theorem dX8_film_0 : decode cX8_film 0 = .ok (.iload_n 1, 1) := by decide +kernel
theorem dX8_film_1 : decode cX8_film 1 = .ok (.invokestatic 149, 3) := by decide +kernel
theorem dX8_film_4 : decode cX8_film 4 = .ok (.ifCond .eq 10, 3) := by decide +kernel
theorem dX8_film_7 : decode cX8_film 7 = .ok (.iload_n 2, 1) := by decide +kernel
theorem dX8_film_8 : decode cX8_film 8 = .ok (.invokestatic 251, 3) := by decide +kernel
theorem dX8_film_11 : decode cX8_film 11 = .ok (.ifCond .ne 6, 3) := by decide +kernel
theorem dX8_film_14 : decode cX8_film 14 = .ok (.bipush (-2), 2) := by decide +kernel
theorem dX8_film_16 : decode cX8_film 16 = .ok (.ireturn, 1) := by decide +kernel
theorem dX8_film_17 : decode cX8_film 17 = .ok (.aload_n 0, 1) := by decide +kernel
theorem dX8_film_18 : decode cX8_film 18 = .ok (.iload_n 1, 1) := by decide +kernel
theorem dX8_film_19 : decode cX8_film 19 = .ok (.invokevirtual 159, 3) := by decide +kernel
theorem dX8_film_22 : decode cX8_film 22 = .ok (.ifCond .eq 6, 3) := by decide +kernel
theorem dX8_film_25 : decode cX8_film 25 = .ok (.bipush (-11), 2) := by decide +kernel
theorem dX8_film_27 : decode cX8_film 27 = .ok (.ireturn, 1) := by decide +kernel
theorem dX8_film_28 : decode cX8_film 28 = .ok (.aload_n 0, 1) := by decide +kernel
theorem dX8_film_29 : decode cX8_film 29 = .ok (.iload_n 2, 1) := by decide +kernel
theorem dX8_film_30 : decode cX8_film 30 = .ok (.aload_n 0, 1) := by decide +kernel
theorem dX8_film_31 : decode cX8_film 31 = .ok (.iload_n 1, 1) := by decide +kernel
