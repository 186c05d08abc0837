theorem dX7_like_57 : decode cX7_like 57 = .ok (.ifnonnull 6, 3) := by decide +kernel
theorem dX7_like_60 : decode cX7_like 60 = .ok (.bipush (-11), 2) := by decide +kernel
theorem dX7_like_62 : decode cX7_like 62 = .ok (.ireturn, 1) := by decide +kernel
theorem dX7_like_63 : decode cX7_like 63 = .ok (.iload_n 3, 1) := by decide +kernel
theorem dX7_like_64 : decode cX7_like 64 = .ok (.ifCond .ne 35, 3) := by decide +kernel
theorem dX7_like_67 : decode cX7_like 67 = .ok (.aload 6, 2) := by decide +kernel
theorem dX7_like_69 : decode cX7_like 69 = .ok (.aload 4, 2) := by decide +kernel
theorem dX7_like_71 : decode cX7_like 71 = .ok (.getfield 144, 3) := by decide +kernel
theorem dX7_like_74 : decode cX7_like 74 = .ok (.invokevirtual 158, 3) := by decide +kernel
theorem dX7_like_77 : decode cX7_like 77 = .ok (.aload 7, 2) := by decide +kernel
theorem dX7_like_79 : decode cX7_like 79 = .ok (.aload 5, 2) := by decide +kernel
theorem dX7_like_81 : decode cX7_like 81 = .ok (.getfield 144, 3) := by decide +kernel
theorem dX7_like_84 : decode cX7_like 84 = .ok (.invokevirtual 158, 3) := by decide +kernel
theorem dX7_like_87 : decode cX7_like 87 = .ok (.lcmp, 1) := by decide +kernel
theorem dX7_like_88 : decode cX7_like 88 = .ok (.ifCond .ne 7, 3) := by decide +kernel
theorem dX7_like_91 : decode cX7_like 91 = .ok (.iconst 1, 1) := by decide +kernel
theorem dX7_like_92 : decode cX7_like 92 = .ok (.goto 35, 3) := by decide +kernel
theorem dX7_like_95 : decode cX7_like 95 = .ok (.iconst 0, 1) := by decide +kernel
theorem dX7_like_96 : decode cX7_like 96 = .ok (.goto 31, 3) := by decide +kernel
theorem dX7_like_99 : decode cX7_like 99 = .ok (.aload 6, 2) := by decide +kernel
theorem dX7_like_101 : decode cX7_like 101 = .ok (.aload 7, 2) := by decide +kernel
theorem dX7_like_103 : decode cX7_like 103 = .ok (.if_acmp .ne 23, 3) := by decide +kernel
theorem dX7_like_106 : decode cX7_like 106 = .ok (.aload 4, 2) := by decide +kernel
theorem dX7_like_108 : decode cX7_like 108 = .ok (.getfield 144, 3) := by decide +kernel
theorem dX7_like_111 : decode cX7_like 111 = .ok (.aload 5, 2) := by decide +kernel
theorem dX7_like_113 : decode cX7_like 113 = .ok (.getfield 144, 3) := by decide +kernel
theorem dX7_like_116 : decode cX7_like 116 = .ok (.invokestatic 209, 3) := by decide +kernel
theorem dX7_like_119 : decode cX7_like 119 = .ok (.ifCond .ne 7, 3) := by decide +kernel
theorem dX7_like_122 : decode cX7_like 122 = .ok (.iconst 1, 1) := by decide +kernel
theorem dX7_like_123 : decode cX7_like 123 = .ok (.goto 4, 3) := by decide +kernel
theorem dX7_like_126 : decode cX7_like 126 = .ok (.iconst 0, 1) := by decide +kernel
theorem dX7_like_127 : decode cX7_like 127 = .ok (.istore 8, 2) := by decide +kernel
theorem dX7_like_129 : decode cX7_like 129 = .ok (.iload 8, 2) := by decide +kernel
theorem dX7_like_131 : decode cX7_like 131 = .ok (.ifCond .eq 7, 3) := by decide +kernel
theorem dX7_like_134 : decode cX7_like 134 = .ok (.iconst 1, 1) := by decide +kernel
theorem dX7_like_135 : decode cX7_like 135 = .ok (.goto 4, 3) := by decide +kernel
theorem dX7_like_138 : decode cX7_like 138 = .ok (.iconst 0, 1) := by decide +kernel
theorem dX7_like_139 : decode cX7_like 139 = .ok (.ireturn, 1) := by decide +kernel
theorem dX7_ways_0 : decode cX7_ways 0 = .ok (.aload_n 0, 1) := by decide +kernel
theorem dX7_ways_1 : decode cX7_ways 1 = .ok (.iload_n 1, 1) := by decide +kernel
theorem dX7_ways_2 : decode cX7_ways 2 = .ok (.invokevirtual 75, 3) := by decide +kernel
theorem dX7_ways_5 : decode cX7_ways 5 = .ok (.astore 6, 2) := by decide +kernel
theorem dX7_ways_7 : decode cX7_ways 7 = .ok (.aload 6, 2) := by decide +kernel
theorem dX7_ways_9 : decode cX7_ways 9 = .ok (.ifnull 38, 3) := by decide +kernel
theorem dX7_ways_12 : decode cX7_ways 12 = .ok (.lload_n 2, 1) := by decide +kernel
theorem dX7_ways_13 : decode cX7_ways 13 = .ok (.lconst 0, 1) := by decide +kernel
theorem dX7_ways_14 : decode cX7_ways 14 = .ok (.lcmp, 1) := by decide +kernel
theorem dX7_ways_15 : decode cX7_ways 15 = .ok (.ifCond .lt 32, 3) := by decide +kernel
theorem dX7_ways_18 : decode cX7_ways 18 = .ok (.lload_n 2, 1) := by decide +kernel
theorem dX7_ways_19 : decode cX7_ways 19 = .ok (.ldc2_w 213, 3) := by decide +kernel
theorem dX7_ways_22 : decode cX7_ways 22 = .ok (.lcmp, 1) := by decide +kernel
theorem dX7_ways_23 : decode cX7_ways 23 = .ok (.ifCond .gt 24, 3) := by decide +kernel
theorem dX7_ways_26 : decode cX7_ways 26 = .ok (.iload 4, 2) := by decide +kernel
theorem dX7_ways_28 : decode cX7_ways 28 = .ok (.iconst 1, 1) := by decide +kernel
theorem dX7_ways_29 : decode cX7_ways 29 = .ok (.bipush 9, 2) := by decide +kernel
theorem dX7_ways_31 : decode cX7_ways 31 = .ok (.invokestatic 102, 3) := by decide +kernel
theorem dX7_ways_34 : decode cX7_ways 34 = .ok (.ifCond .eq 13, 3) := by decide +kernel
theorem dX7_ways_37 : decode cX7_ways 37 = .ok (.iload 5, 2) := by decide +kernel
theorem dX7_ways_39 : decode cX7_ways 39 = .ok (.iconst 0, 1) := by decide +kernel
theorem dX7_ways_40 : decode cX7_ways 40 = .ok (.iconst 1, 1) := by decide +kernel
theorem dX7_ways_41 : decode cX7_ways 41 = .ok (.invokestatic 102, 3) := by decide +kernel
theorem dX7_ways_44 : decode cX7_ways 44 = .ok (.ifCond .ne 7, 3) := by decide +kernel
theorem dX7_ways_47 : decode cX7_ways 47 = .ok (.ldc2_w 117, 3) := by decide +kernel
theorem dX7_ways_50 : decode cX7_ways 50 = .ok (.lreturn, 1) := by decide +kernel
theorem dX7_ways_51 : decode cX7_ways 51 = .ok (.aload_n 0, 1) := by decide +kernel
theorem dX7_ways_52 : decode cX7_ways 52 = .ok (.getfield 46, 3) := by decide +kernel
theorem dX7_ways_55 : decode cX7_ways 55 = .ok (.aload 6, 2) := by decide +kernel
theorem dX7_ways_57 : decode cX7_ways 57 = .ok (.lload_n 2, 1) := by decide +kernel
theorem dX7_ways_58 : decode cX7_ways 58 = .ok (.iload 4, 2) := by decide +kernel
theorem dX7_ways_60 : decode cX7_ways 60 = .ok (.invokevirtual 215, 3) := by decide +kernel
theorem dX7_ways_63 : decode cX7_ways 63 = .ok (.astore 7, 2) := by decide +kernel
theorem dX7_ways_65 : decode cX7_ways 65 = .ok (.aload 7, 2) := by decide +kernel
theorem dX7_ways_67 : decode cX7_ways 67 = .ok (.getfield 219, 3) := by decide +kernel
theorem dX7_ways_70 : decode cX7_ways 70 = .ok (.ifCond .ne 16, 3) := by decide +kernel
theorem dX7_ways_73 : decode cX7_ways 73 = .ok (.iload 5, 2) := by decide +kernel
theorem dX7_ways_75 : decode cX7_ways 75 = .ok (.ifCond .ne 7, 3) := by decide +kernel
theorem dX7_ways_78 : decode cX7_ways 78 = .ok (.lconst 0, 1) := by decide +kernel
theorem dX7_ways_79 : decode cX7_ways 79 = .ok (.goto 6, 3) := by decide +kernel
theorem dX7_ways_82 : decode cX7_ways 82 = .ok (.ldc2_w 224, 3) := by decide +kernel
theorem dX7_ways_85 : decode cX7_ways 85 = .ok (.lreturn, 1) := by decide +kernel
theorem dX7_ways_86 : decode cX7_ways 86 = .ok (.iload 5, 2) := by decide +kernel
theorem dX7_ways_88 : decode cX7_ways 88 = .ok (.ifCond .ne 13, 3) := by decide +kernel
theorem dX7_ways_91 : decode cX7_ways 91 = .ok (.aload 7, 2) := by decide +kernel
theorem dX7_ways_93 : decode cX7_ways 93 = .ok (.getfield 226, 3) := by decide +kernel
theorem dX7_ways_96 : decode cX7_ways 96 = .ok (.iconst 0, 1) := by decide +kernel
theorem dX7_ways_97 : decode cX7_ways 97 = .ok (.laload, 1) := by decide +kernel
theorem dX7_ways_98 : decode cX7_ways 98 = .ok (.goto 11, 3) := by decide +kernel
theorem dX7_ways_101 : decode cX7_ways 101 = .ok (.aload 7, 2) := by decide +kernel
theorem dX7_ways_103 : decode cX7_ways 103 = .ok (.getfield 229, 3) := by decide +kernel
theorem dX7_ways_106 : decode cX7_ways 106 = .ok (.iconst 0, 1) := by decide +kernel
theorem dX7_ways_107 : decode cX7_ways 107 = .ok (.iaload, 1) := by decide +kernel
theorem dX7_ways_108 : decode cX7_ways 108 = .ok (.i2l, 1) := by decide +kernel
theorem dX7_ways_109 : decode cX7_ways 109 = .ok (.lreturn, 1) := by decide +kernel
theorem dX7_crossed_0 : decode cX7_crossed 0 = .ok (.aload_n 0, 1) := by decide +kernel
theorem dX7_crossed_1 : decode cX7_crossed 1 = .ok (.iload_n 1, 1) := by decide +kernel
theorem dX7_crossed_2 : decode cX7_crossed 2 = .ok (.invokevirtual 75, 3) := by decide +kernel
theorem dX7_crossed_5 : decode cX7_crossed 5 = .ok (.astore 5, 2) := by decide +kernel
theorem dX7_crossed_7 : decode cX7_crossed 7 = .ok (.aload_n 0, 1) := by decide +kernel
theorem dX7_crossed_8 : decode cX7_crossed 8 = .ok (.iload_n 2, 1) := by decide +kernel
theorem dX7_crossed_9 : decode cX7_crossed 9 = .ok (.invokevirtual 75, 3) := by decide +kernel
theorem dX7_crossed_12 : decode cX7_crossed 12 = .ok (.astore 6, 2) := by decide +kernel
theorem dX7_crossed_14 : decode cX7_crossed 14 = .ok (.aload 5, 2) := by decide +kernel
theorem dX7_crossed_16 : decode cX7_crossed 16 = .ok (.ifnull 14, 3) := by decide +kernel
theorem dX7_crossed_19 : decode cX7_crossed 19 = .ok (.aload 6, 2) := by decide +kernel
theorem dX7_crossed_21 : decode cX7_crossed 21 = .ok (.ifnull 9, 3) := by decide +kernel
theorem dX7_crossed_24 : decode cX7_crossed 24 = .ok (.lload_n 3, 1) := by decide +kernel
theorem dX7_crossed_25 : decode cX7_crossed 25 = .ok (.lconst 0, 1) := by decide +kernel
theorem dX7_crossed_26 : decode cX7_crossed 26 = .ok (.lcmp, 1) := by decide +kernel
theorem dX7_crossed_27 : decode cX7_crossed 27 = .ok (.ifCond .ge 6, 3) := by decide +kernel
theorem dX7_crossed_30 : decode cX7_crossed 30 = .ok (.bipush (-2), 2) := by decide +kernel
theorem dX7_crossed_32 : decode cX7_crossed 32 = .ok (.ireturn, 1) := by decide +kernel
theorem dX7_crossed_33 : decode cX7_crossed 33 = .ok (.lload_n 3, 1) := by decide +kernel
theorem dX7_crossed_34 : decode cX7_crossed 34 = .ok (.aload 5, 2) := by decide +kernel
theorem dX7_crossed_36 : decode cX7_crossed 36 = .ok (.getfield 126, 3) := by decide +kernel
theorem dX7_crossed_39 : decode cX7_crossed 39 = .ok (.lcmp, 1) := by decide +kernel
theorem dX7_crossed_40 : decode cX7_crossed 40 = .ok (.ifCond .gt 13, 3) := by decide +kernel
theorem dX7_crossed_43 : decode cX7_crossed 43 = .ok (.lload_n 3, 1) := by decide +kernel
theorem dX7_crossed_44 : decode cX7_crossed 44 = .ok (.aload 6, 2) := by decide +kernel
theorem dX7_crossed_46 : decode cX7_crossed 46 = .ok (.getfield 126, 3) := by decide +kernel
theorem dX7_crossed_49 : decode cX7_crossed 49 = .ok (.lcmp, 1) := by decide +kernel
theorem dX7_crossed_50 : decode cX7_crossed 50 = .ok (.ifCond .le 6, 3) := by decide +kernel
theorem dX7_crossed_53 : decode cX7_crossed 53 = .ok (.bipush (-3), 2) := by decide +kernel
theorem dX7_crossed_55 : decode cX7_crossed 55 = .ok (.ireturn, 1) := by decide +kernel
theorem dX7_crossed_56 : decode cX7_crossed 56 = .ok (.aload 5, 2) := by decide +kernel
theorem dX7_crossed_58 : decode cX7_crossed 58 = .ok (.aload_n 0, 1) := by decide +kernel
theorem dX7_crossed_59 : decode cX7_crossed 59 = .ok (.getfield 60, 3) := by decide +kernel
theorem dX7_crossed_62 : decode cX7_crossed 62 = .ok (.lload_n 3, 1) := by decide +kernel
theorem dX7_crossed_63 : decode cX7_crossed 63 = .ok (.invokevirtual 133, 3) := by decide +kernel
theorem dX7_crossed_66 : decode cX7_crossed 66 = .ok (.aload 6, 2) := by decide +kernel
theorem dX7_crossed_68 : decode cX7_crossed 68 = .ok (.aload_n 0, 1) := by decide +kernel
theorem dX7_crossed_69 : decode cX7_crossed 69 = .ok (.getfield 64, 3) := by decide +kernel
theorem dX7_crossed_72 : decode cX7_crossed 72 = .ok (.lload_n 3, 1) := by decide +kernel
theorem dX7_crossed_73 : decode cX7_crossed 73 = .ok (.invokevirtual 133, 3) := by decide +kernel
theorem dX7_crossed_76 : decode cX7_crossed 76 = .ok (.iconst 0, 1) := by decide +kernel
theorem dX7_crossed_77 : decode cX7_crossed 77 = .ok (.istore 7, 2) := by decide +kernel
theorem dX7_crossed_79 : decode cX7_crossed 79 = .ok (.iconst 0, 1) := by decide +kernel
theorem dX7_crossed_80 : decode cX7_crossed 80 = .ok (.istore 8, 2) := by decide +kernel
theorem dX7_crossed_82 : decode cX7_crossed 82 = .ok (.iload 8, 2) := by decide +kernel
theorem dX7_crossed_84 : decode cX7_crossed 84 = .ok (.bipush 43, 2) := by decide +kernel
theorem dX7_crossed_86 : decode cX7_crossed 86 = .ok (.if_icmp .ge 49, 3) := by decide +kernel
theorem dX7_crossed_89 : decode cX7_crossed 89 = .ok (.aload 5, 2) := by decide +kernel
theorem dX7_crossed_91 : decode cX7_crossed 91 = .ok (.iload 8, 2) := by decide +kernel
theorem dX7_crossed_93 : decode cX7_crossed 93 = .ok (.invokevirtual 113, 3) := by decide +kernel
theorem dX7_crossed_96 : decode cX7_crossed 96 = .ok (.ifCond .eq 33, 3) := by decide +kernel
theorem dX7_crossed_99 : decode cX7_crossed 99 = .ok (.aload 6, 2) := by decide +kernel
theorem dX7_crossed_101 : decode cX7_crossed 101 = .ok (.iload 8, 2) := by decide +kernel
theorem dX7_crossed_103 : decode cX7_crossed 103 = .ok (.invokevirtual 113, 3) := by decide +kernel
theorem dX7_crossed_106 : decode cX7_crossed 106 = .ok (.ifCond .eq 23, 3) := by decide +kernel
theorem dX7_crossed_109 : decode cX7_crossed 109 = .ok (.aload_n 0, 1) := by decide +kernel
theorem dX7_crossed_110 : decode cX7_crossed 110 = .ok (.getfield 60, 3) := by decide +kernel
theorem dX7_crossed_113 : decode cX7_crossed 113 = .ok (.iload 8, 2) := by decide +kernel
theorem dX7_crossed_115 : decode cX7_crossed 115 = .ok (.iaload, 1) := by decide +kernel
theorem dX7_crossed_116 : decode cX7_crossed 116 = .ok (.aload_n 0, 1) := by decide +kernel
theorem dX7_crossed_117 : decode cX7_crossed 117 = .ok (.getfield 64, 3) := by decide +kernel
theorem dX7_crossed_120 : decode cX7_crossed 120 = .ok (.iload 8, 2) := by decide +kernel
theorem dX7_crossed_122 : decode cX7_crossed 122 = .ok (.iaload, 1) := by decide +kernel
theorem dX7_crossed_123 : decode cX7_crossed 123 = .ok (.if_icmp .ne 6, 3) := by decide +kernel
theorem dX7_crossed_126 : decode cX7_crossed 126 = .ok (.iinc 7 1, 3) := by decide +kernel
theorem dX7_crossed_129 : decode cX7_crossed 129 = .ok (.iinc 8 1, 3) := by decide +kernel
theorem dX7_crossed_132 : decode cX7_crossed 132 = .ok (.goto (-50), 3) := by decide +kernel
theorem dX7_crossed_135 : decode cX7_crossed 135 = .ok (.iload 7, 2) := by decide +kernel
theorem dX7_crossed_137 : decode cX7_crossed 137 = .ok (.ireturn, 1) := by decide +kernel
theorem dX7_print_0 : decode cX7_print 0 = .ok (.aload_n 0, 1) := by decide +kernel
theorem dX7_print_1 : decode cX7_print 1 = .ok (.iload_n 1, 1) := by decide +kernel
theorem dX7_print_2 : decode cX7_print 2 = .ok (.invokevirtual 87, 3) := by decide +kernel
theorem dX7_print_5 : decode cX7_print 5 = .ok (.astore_n 3, 1) := by decide +kernel
theorem dX7_print_6 : decode cX7_print 6 = .ok (.aload_n 3, 1) := by decide +kernel
theorem dX7_print_7 : decode cX7_print 7 = .ok (.ifnull 8, 3) := by decide +kernel
theorem dX7_print_10 : decode cX7_print 10 = .ok (.iload_n 2, 1) := by decide +kernel
theorem dX7_print_11 : decode cX7_print 11 = .ok (.iconst (-1), 1) := by decide +kernel
theorem dX7_print_12 : decode cX7_print 12 = .ok (.if_icmp .ge 6, 3) := by decide +kernel
theorem dX7_print_15 : decode cX7_print 15 = .ok (.bipush (-2), 2) := by decide +kernel
theorem dX7_print_17 : decode cX7_print 17 = .ok (.ireturn, 1) := by decide +kernel
theorem dX7_print_18 : decode cX7_print 18 = .ok (.aload_n 3, 1) := by decide +kernel
theorem dX7_print_19 : decode cX7_print 19 = .ok (.getfield 91, 3) := by decide +kernel
theorem dX7_print_22 : decode cX7_print 22 = .ok (.ifnonnull 6, 3) := by decide +kernel
theorem dX7_print_25 : decode cX7_print 25 = .ok (.bipush (-11), 2) := by decide +kernel
theorem dX7_print_27 : decode cX7_print 27 = .ok (.ireturn, 1) := by decide +kernel
theorem dX7_print_28 : decode cX7_print 28 = .ok (.aload_n 0, 1) := by decide +kernel
theorem dX7_print_29 : decode cX7_print 29 = .ok (.getfield 67, 3) := by decide +kernel
theorem dX7_print_32 : decode cX7_print 32 = .ok (.aload_n 3, 1) := by decide +kernel
theorem dX7_print_33 : decode cX7_print 33 = .ok (.getfield 144, 3) := by decide +kernel
theorem dX7_print_36 : decode cX7_print 36 = .ok (.invokestatic 232, 3) := by decide +kernel
theorem dX7_print_39 : decode cX7_print 39 = .ok (.istore 4, 2) := by decide +kernel
theorem dX7_print_41 : decode cX7_print 41 = .ok (.iload_n 2, 1) := by decide +kernel
theorem dX7_print_42 : decode cX7_print 42 = .ok (.iconst (-1), 1) := by decide +kernel
theorem dX7_print_43 : decode cX7_print 43 = .ok (.if_icmp .ne 6, 3) := by decide +kernel
theorem dX7_print_46 : decode cX7_print 46 = .ok (.iload 4, 2) := by decide +kernel
theorem dX7_print_48 : decode cX7_print 48 = .ok (.ireturn, 1) := by decide +kernel
theorem dX7_print_49 : decode cX7_print 49 = .ok (.iload_n 2, 1) := by decide +kernel
theorem dX7_print_50 : decode cX7_print 50 = .ok (.iload 4, 2) := by decide +kernel
theorem dX7_print_52 : decode cX7_print 52 = .ok (.if_icmp .ge 12, 3) := by decide +kernel
theorem dX7_print_55 : decode cX7_print 55 = .ok (.aload_n 0, 1) := by decide +kernel
theorem dX7_print_56 : decode cX7_print 56 = .ok (.getfield 67, 3) := by decide +kernel
theorem dX7_print_59 : decode cX7_print 59 = .ok (.iload_n 2, 1) := by decide +kernel
theorem dX7_print_60 : decode cX7_print 60 = .ok (.iaload, 1) := by decide +kernel
theorem dX7_print_61 : decode cX7_print 61 = .ok (.goto 5, 3) := by decide +kernel
theorem dX7_print_64 : decode cX7_print 64 = .ok (.bipush (-12), 2) := by decide +kernel
theorem dX7_print_66 : decode cX7_print 66 = .ok (.ireturn, 1) := by decide +kernel
theorem dX7_feed_0 : decode cX7_feed 0 = .ok (.iload_n 1, 1) := by decide +kernel
theorem dX7_feed_1 : decode cX7_feed 1 = .ok (.iconst 0, 1) := by decide +kernel
theorem dX7_feed_2 : decode cX7_feed 2 = .ok (.bipush 127, 2) := by decide +kernel
theorem dX7_feed_4 : decode cX7_feed 4 = .ok (.invokestatic 102, 3) := by decide +kernel
theorem dX7_feed_7 : decode cX7_feed 7 = .ok (.ifCond .ne 6, 3) := by decide +kernel
theorem dX7_feed_10 : decode cX7_feed 10 = .ok (.bipush (-2), 2) := by decide +kernel
theorem dX7_feed_12 : decode cX7_feed 12 = .ok (.ireturn, 1) := by decide +kernel
theorem dX7_feed_13 : decode cX7_feed 13 = .ok (.aload_n 0, 1) := by decide +kernel
theorem dX7_feed_14 : decode cX7_feed 14 = .ok (.getfield 32, 3) := by decide +kernel
theorem dX7_feed_17 : decode cX7_feed 17 = .ok (.iload_n 1, 1) := by decide +kernel
theorem dX7_feed_18 : decode cX7_feed 18 = .ok (.invokevirtual 235, 3) := by decide +kernel
theorem dX7_feed_21 : decode cX7_feed 21 = .ok (.ifCond .eq 13, 3) := by decide +kernel
theorem dX7_feed_24 : decode cX7_feed 24 = .ok (.aload_n 0, 1) := by decide +kernel
theorem dX7_feed_25 : decode cX7_feed 25 = .ok (.getfield 32, 3) := by decide +kernel
theorem dX7_feed_28 : decode cX7_feed 28 = .ok (.getfield 238, 3) := by decide +kernel
theorem dX7_feed_31 : decode cX7_feed 31 = .ok (.goto 5, 3) := by decide +kernel
theorem dX7_feed_34 : decode cX7_feed 34 = .ok (.bipush (-4), 2) := by decide +kernel
theorem dX7_feed_36 : decode cX7_feed 36 = .ok (.ireturn, 1) := by decide +kernel
theorem dX7_read_0 : decode cX7_read 0 = .ok (.aload_n 0, 1) := by decide +kernel
theorem dX7_read_1 : decode cX7_read 1 = .ok (.iload_n 2, 1) := by decide +kernel
theorem dX7_read_2 : decode cX7_read 2 = .ok (.invokevirtual 75, 3) := by decide +kernel
theorem dX7_read_5 : decode cX7_read 5 = .ok (.astore_n 3, 1) := by decide +kernel
theorem dX7_read_6 : decode cX7_read 6 = .ok (.aload_n 0, 1) := by decide +kernel
theorem dX7_read_7 : decode cX7_read 7 = .ok (.iload_n 1, 1) := by decide +kernel
theorem dX7_read_8 : decode cX7_read 8 = .ok (.invokevirtual 87, 3) := by decide +kernel
theorem dX7_read_11 : decode cX7_read 11 = .ok (.ifnull 7, 3) := by decide +kernel
theorem dX7_read_14 : decode cX7_read 14 = .ok (.aload_n 3, 1) := by decide +kernel
theorem dX7_read_15 : decode cX7_read 15 = .ok (.ifnonnull 6, 3) := by decide +kernel
theorem dX7_read_18 : decode cX7_read 18 = .ok (.bipush (-2), 2) := by decide +kernel
theorem dX7_read_20 : decode cX7_read 20 = .ok (.ireturn, 1) := by decide +kernel
theorem dX7_read_21 : decode cX7_read 21 = .ok (.aload_n 0, 1) := by decide +kernel
theorem dX7_read_22 : decode cX7_read 22 = .ok (.getfield 32, 3) := by decide +kernel
theorem dX7_read_25 : decode cX7_read 25 = .ok (.aload_n 3, 1) := by decide +kernel
theorem dX7_read_26 : decode cX7_read 26 = .ok (.getfield 98, 3) := by decide +kernel
theorem dX7_read_29 : decode cX7_read 29 = .ok (.invokevirtual 239, 3) := by decide +kernel
theorem dX7_read_32 : decode cX7_read 32 = .ok (.istore 4, 2) := by decide +kernel
theorem dX7_read_34 : decode cX7_read 34 = .ok (.bipush (-100), 2) := by decide +kernel
theorem dX7_read_36 : decode cX7_read 36 = .ok (.iload 4, 2) := by decide +kernel
theorem dX7_read_38 : decode cX7_read 38 = .ok (.isub, 1) := by decide +kernel
theorem dX7_read_39 : decode cX7_read 39 = .ok (.istore 5, 2) := by decide +kernel
theorem dX7_read_41 : decode cX7_read 41 = .ok (.iload 4, 2) := by decide +kernel
theorem dX7_read_43 : decode cX7_read 43 = .ok (.iconst (-1), 1) := by decide +kernel
theorem dX7_read_44 : decode cX7_read 44 = .ok (.if_icmp .ne 27, 3) := by decide +kernel
theorem dX7_read_47 : decode cX7_read 47 = .ok (.aload_n 0, 1) := by decide +kernel
theorem dX7_read_48 : decode cX7_read 48 = .ok (.getfield 32, 3) := by decide +kernel
theorem dX7_read_51 : decode cX7_read 51 = .ok (.aload_n 0, 1) := by decide +kernel
theorem dX7_read_52 : decode cX7_read 52 = .ok (.getfield 60, 3) := by decide +kernel
theorem dX7_read_55 : decode cX7_read 55 = .ok (.invokevirtual 243, 3) := by decide +kernel
theorem dX7_read_58 : decode cX7_read 58 = .ok (.istore 5, 2) := by decide +kernel
theorem dX7_read_60 : decode cX7_read 60 = .ok (.aload_n 0, 1) := by decide +kernel
theorem dX7_read_61 : decode cX7_read 61 = .ok (.iload_n 1, 1) := by decide +kernel
theorem dX7_read_62 : decode cX7_read 62 = .ok (.aload_n 3, 1) := by decide +kernel
theorem dX7_read_63 : decode cX7_read 63 = .ok (.aload_n 0, 1) := by decide +kernel
theorem dX7_read_64 : decode cX7_read 64 = .ok (.getfield 60, 3) := by decide +kernel
theorem dX7_read_67 : decode cX7_read 67 = .ok (.invokevirtual 137, 3) := by decide +kernel
theorem dX7_read_70 : decode cX7_read 70 = .ok (.pop, 1) := by decide +kernel
theorem dX7_read_71 : decode cX7_read 71 = .ok (.aload_n 0, 1) := by decide +kernel
theorem dX7_read_72 : decode cX7_read 72 = .ok (.getfield 32, 3) := by decide +kernel
theorem dX7_read_75 : decode cX7_read 75 = .ok (.iconst 0, 1) := by decide +kernel
theorem dX7_read_76 : decode cX7_read 76 = .ok (.putfield 238, 3) := by decide +kernel
theorem dX7_read_79 : decode cX7_read 79 = .ok (.iload 5, 2) := by decide +kernel
theorem dX7_read_81 : decode cX7_read 81 = .ok (.ireturn, 1) := by decide +kernel
theorem dX7_back_0 : decode cX7_back 0 = .ok (.aload_n 0, 1) := by decide +kernel
theorem dX7_back_1 : decode cX7_back 1 = .ok (.getfield 39, 3) := by decide +kernel
theorem dX7_back_4 : decode cX7_back 4 = .ok (.getfield 246, 3) := by decide +kernel
theorem dX7_back_7 : decode cX7_back 7 = .ok (.ifCond .ne 6, 3) := by decide +kernel
theorem dX7_back_10 : decode cX7_back 10 = .ok (.bipush (-3), 2) := by decide +kernel
theorem dX7_back_12 : decode cX7_back 12 = .ok (.ireturn, 1) := by decide +kernel
theorem dX7_back_13 : decode cX7_back 13 = .ok (.aload_n 0, 1) := by decide +kernel
theorem dX7_back_14 : decode cX7_back 14 = .ok (.aload_n 0, 1) := by decide +kernel
theorem dX7_back_15 : decode cX7_back 15 = .ok (.getfield 39, 3) := by decide +kernel
theorem dX7_back_18 : decode cX7_back 18 = .ok (.invokevirtual 249, 3) := by decide +kernel
theorem dX7_back_21 : decode cX7_back 21 = .ok (.invokevirtual 87, 3) := by decide +kernel
theorem dX7_back_24 : decode cX7_back 24 = .ok (.astore_n 1, 1) := by decide +kernel
theorem dX7_back_25 : decode cX7_back 25 = .ok (.aload_n 1, 1) := by decide +kernel
theorem dX7_back_26 : decode cX7_back 26 = .ok (.ifnull 14, 3) := by decide +kernel
theorem dX7_back_29 : decode cX7_back 29 = .ok (.aload_n 0, 1) := by decide +kernel
theorem dX7_back_30 : decode cX7_back 30 = .ok (.getfield 39, 3) := by decide +kernel
theorem dX7_back_33 : decode cX7_back 33 = .ok (.aload_n 1, 1) := by decide +kernel
theorem dX7_back_34 : decode cX7_back 34 = .ok (.getfield 144, 3) := by decide +kernel
theorem dX7_back_37 : decode cX7_back 37 = .ok (.invokevirtual 252, 3) := by decide +kernel
theorem dX7_back_40 : decode cX7_back 40 = .ok (.aload_n 0, 1) := by decide +kernel
theorem dX7_back_41 : decode cX7_back 41 = .ok (.getfield 39, 3) := by decide +kernel
theorem dX7_back_44 : decode cX7_back 44 = .ok (.getfield 246, 3) := by decide +kernel
theorem dX7_back_47 : decode cX7_back 47 = .ok (.ireturn, 1) := by decide +kernel
theorem dX7_row_0 : decode cX7_row 0 = .ok (.aload_n 0, 1) := by decide +kernel
theorem dX7_row_1 : decode cX7_row 1 = .ok (.iload_n 1, 1) := by decide +kernel
theorem dX7_row_2 : decode cX7_row 2 = .ok (.invokevirtual 256, 3) := by decide +kernel
theorem dX7_row_5 : decode cX7_row 5 = .ok (.astore_n 3, 1) := by decide +kernel
theorem dX7_row_6 : decode cX7_row 6 = .ok (.aload_n 3, 1) := by decide +kernel
theorem dX7_row_7 : decode cX7_row 7 = .ok (.ifnull 9, 3) := by decide +kernel
theorem dX7_row_10 : decode cX7_row 10 = .ok (.iload_n 2, 1) := by decide +kernel
theorem dX7_row_11 : decode cX7_row 11 = .ok (.bipush 60, 2) := by decide +kernel
theorem dX7_row_13 : decode cX7_row 13 = .ok (.if_icmp .le 6, 3) := by decide +kernel
theorem dX7_row_16 : decode cX7_row 16 = .ok (.bipush (-2), 2) := by decide +kernel
theorem dX7_row_18 : decode cX7_row 18 = .ok (.ireturn, 1) := by decide +kernel
theorem dX7_row_19 : decode cX7_row 19 = .ok (.iload_n 2, 1) := by decide +kernel
theorem dX7_row_20 : decode cX7_row 20 = .ok (.iconst (-1), 1) := by decide +kernel
theorem dX7_row_21 : decode cX7_row 21 = .ok (.if_icmp .ge 6, 3) := by decide +kernel
theorem dX7_row_24 : decode cX7_row 24 = .ok (.bipush (-14), 2) := by decide +kernel
theorem dX7_row_26 : decode cX7_row 26 = .ok (.ireturn, 1) := by decide +kernel
theorem dX7_row_27 : decode cX7_row 27 = .ok (.aload_n 3, 1) := by decide +kernel
theorem dX7_row_28 : decode cX7_row 28 = .ok (.iload_n 2, 1) := by decide +kernel
theorem dX7_row_29 : decode cX7_row 29 = .ok (.invokevirtual 260, 3) := by decide +kernel
theorem dX7_row_32 : decode cX7_row 32 = .ok (.iconst 1, 1) := by decide +kernel
theorem dX7_row_33 : decode cX7_row 33 = .ok (.ireturn, 1) := by decide +kernel
theorem dX7_put_0 : decode cX7_put 0 = .ok (.aload_n 0, 1) := by decide +kernel
theorem dX7_put_1 : decode cX7_put 1 = .ok (.iload_n 1, 1) := by decide +kernel
theorem dX7_put_2 : decode cX7_put 2 = .ok (.invokevirtual 256, 3) := by decide +kernel
theorem dX7_put_5 : decode cX7_put 5 = .ok (.astore 5, 2) := by decide +kernel
theorem dX7_put_7 : decode cX7_put 7 = .ok (.aload 5, 2) := by decide +kernel
theorem dX7_put_9 : decode cX7_put 9 = .ok (.ifnonnull 6, 3) := by decide +kernel
theorem dX7_put_12 : decode cX7_put 12 = .ok (.bipush (-2), 2) := by decide +kernel
theorem dX7_put_14 : decode cX7_put 14 = .ok (.ireturn, 1) := by decide +kernel
theorem dX7_put_15 : decode cX7_put 15 = .ok (.aload 5, 2) := by decide +kernel
theorem dX7_put_17 : decode cX7_put 17 = .ok (.invokevirtual 263, 3) := by decide +kernel
theorem dX7_put_20 : decode cX7_put 20 = .ok (.ifCond .eq 6, 3) := by decide +kernel
theorem dX7_put_23 : decode cX7_put 23 = .ok (.bipush (-11), 2) := by decide +kernel
theorem dX7_put_25 : decode cX7_put 25 = .ok (.ireturn, 1) := by decide +kernel
theorem dX7_put_26 : decode cX7_put 26 = .ok (.aload 5, 2) := by decide +kernel
theorem dX7_put_28 : decode cX7_put 28 = .ok (.iload_n 2, 1) := by decide +kernel
theorem dX7_put_29 : decode cX7_put 29 = .ok (.invokevirtual 267, 3) := by decide +kernel
theorem dX7_put_32 : decode cX7_put 32 = .ok (.ifCond .ne 6, 3) := by decide +kernel
theorem dX7_put_35 : decode cX7_put 35 = .ok (.bipush (-12), 2) := by decide +kernel
theorem dX7_put_37 : decode cX7_put 37 = .ok (.ireturn, 1) := by decide +kernel
theorem dX7_put_38 : decode cX7_put 38 = .ok (.aload 5, 2) := by decide +kernel
theorem dX7_put_40 : decode cX7_put 40 = .ok (.getfield 268, 3) := by decide +kernel
theorem dX7_put_43 : decode cX7_put 43 = .ok (.iload_n 2, 1) := by decide +kernel
theorem dX7_put_44 : decode cX7_put 44 = .ok (.lload_n 3, 1) := by decide +kernel
theorem dX7_put_45 : decode cX7_put 45 = .ok (.lastore, 1) := by decide +kernel
theorem dX7_put_46 : decode cX7_put 46 = .ok (.iconst 1, 1) := by decide +kernel
theorem dX7_put_47 : decode cX7_put 47 = .ok (.ireturn, 1) := by decide +kernel
theorem dX7_get_0 : decode cX7_get 0 = .ok (.aload_n 0, 1) := by decide +kernel
theorem dX7_get_1 : decode cX7_get 1 = .ok (.iload_n 1, 1) := by decide +kernel
theorem dX7_get_2 : decode cX7_get 2 = .ok (.invokevirtual 256, 3) := by decide +kernel
theorem dX7_get_5 : decode cX7_get 5 = .ok (.astore_n 3, 1) := by decide +kernel
theorem dX7_get_6 : decode cX7_get 6 = .ok (.aload_n 3, 1) := by decide +kernel
theorem dX7_get_7 : decode cX7_get 7 = .ok (.ifnull 11, 3) := by decide +kernel
theorem dX7_get_10 : decode cX7_get 10 = .ok (.aload_n 3, 1) := by decide +kernel
theorem dX7_get_11 : decode cX7_get 11 = .ok (.iload_n 2, 1) := by decide +kernel
theorem dX7_get_12 : decode cX7_get 12 = .ok (.invokevirtual 267, 3) := by decide +kernel
theorem dX7_get_15 : decode cX7_get 15 = .ok (.ifCond .ne 9, 3) := by decide +kernel
theorem dX7_get_18 : decode cX7_get 18 = .ok (.ldc2_w 117, 3) := by decide +kernel
theorem dX7_get_21 : decode cX7_get 21 = .ok (.goto 9, 3) := by decide +kernel
theorem dX7_get_24 : decode cX7_get 24 = .ok (.aload_n 3, 1) := by decide +kernel
theorem dX7_get_25 : decode cX7_get 25 = .ok (.getfield 268, 3) := by decide +kernel
theorem dX7_get_28 : decode cX7_get 28 = .ok (.iload_n 2, 1) := by decide +kernel
theorem dX7_get_29 : decode cX7_get 29 = .ok (.laload, 1) := by decide +kernel
theorem dX7_get_30 : decode cX7_get 30 = .ok (.lreturn, 1) := by decide +kernel
theorem dX7_copy_0 : decode cX7_copy 0 = .ok (.aload_n 0, 1) := by decide +kernel
theorem dX7_copy_1 : decode cX7_copy 1 = .ok (.iload_n 1, 1) := by decide +kernel
theorem dX7_copy_2 : decode cX7_copy 2 = .ok (.invokevirtual 256, 3) := by decide +kernel
theorem dX7_copy_5 : decode cX7_copy 5 = .ok (.astore 6, 2) := by decide +kernel
theorem dX7_copy_7 : decode cX7_copy 7 = .ok (.aload_n 0, 1) := by decide +kernel
theorem dX7_copy_8 : decode cX7_copy 8 = .ok (.iload_n 3, 1) := by decide +kernel
theorem dX7_copy_9 : decode cX7_copy 9 = .ok (.invokevirtual 256, 3) := by decide +kernel
theorem dX7_copy_12 : decode cX7_copy 12 = .ok (.astore 7, 2) := by decide +kernel
theorem dX7_copy_14 : decode cX7_copy 14 = .ok (.aload 6, 2) := by decide +kernel
theorem dX7_copy_16 : decode cX7_copy 16 = .ok (.ifnull 8, 3) := by decide +kernel
theorem dX7_copy_19 : decode cX7_copy 19 = .ok (.aload 7, 2) := by decide +kernel
theorem dX7_copy_21 : decode cX7_copy 21 = .ok (.ifnonnull 6, 3) := by decide +kernel
theorem dX7_copy_24 : decode cX7_copy 24 = .ok (.bipush (-2), 2) := by decide +kernel
theorem dX7_copy_26 : decode cX7_copy 26 = .ok (.ireturn, 1) := by decide +kernel
theorem dX7_copy_27 : decode cX7_copy 27 = .ok (.aload 6, 2) := by decide +kernel
theorem dX7_copy_29 : decode cX7_copy 29 = .ok (.invokevirtual 263, 3) := by decide +kernel
theorem dX7_copy_32 : decode cX7_copy 32 = .ok (.ifCond .ne 11, 3) := by decide +kernel
theorem dX7_copy_35 : decode cX7_copy 35 = .ok (.aload 7, 2) := by decide +kernel
theorem dX7_copy_37 : decode cX7_copy 37 = .ok (.invokevirtual 263, 3) := by decide +kernel
theorem dX7_copy_40 : decode cX7_copy 40 = .ok (.ifCond .eq 6, 3) := by decide +kernel
theorem dX7_copy_43 : decode cX7_copy 43 = .ok (.bipush (-11), 2) := by decide +kernel
theorem dX7_copy_45 : decode cX7_copy 45 = .ok (.ireturn, 1) := by decide +kernel
theorem dX7_copy_46 : decode cX7_copy 46 = .ok (.aload 6, 2) := by decide +kernel
theorem dX7_copy_48 : decode cX7_copy 48 = .ok (.iload_n 2, 1) := by decide +kernel
theorem dX7_copy_49 : decode cX7_copy 49 = .ok (.iload 5, 2) := by decide +kernel
theorem dX7_copy_51 : decode cX7_copy 51 = .ok (.invokevirtual 271, 3) := by decide +kernel
theorem dX7_copy_54 : decode cX7_copy 54 = .ok (.ifCond .eq 15, 3) := by decide +kernel
theorem dX7_copy_57 : decode cX7_copy 57 = .ok (.aload 7, 2) := by decide +kernel
theorem dX7_copy_59 : decode cX7_copy 59 = .ok (.iload 4, 2) := by decide +kernel
theorem dX7_copy_61 : decode cX7_copy 61 = .ok (.iload 5, 2) := by decide +kernel
theorem dX7_copy_63 : decode cX7_copy 63 = .ok (.invokevirtual 271, 3) := by decide +kernel
theorem dX7_copy_66 : decode cX7_copy 66 = .ok (.ifCond .ne 6, 3) := by decide +kernel
theorem dX7_copy_69 : decode cX7_copy 69 = .ok (.bipush (-12), 2) := by decide +kernel
theorem dX7_copy_71 : decode cX7_copy 71 = .ok (.ireturn, 1) := by decide +kernel
theorem dX7_copy_72 : decode cX7_copy 72 = .ok (.aload 6, 2) := by decide +kernel
theorem dX7_copy_74 : decode cX7_copy 74 = .ok (.getfield 268, 3) := by decide +kernel
theorem dX7_copy_77 : decode cX7_copy 77 = .ok (.iload_n 2, 1) := by decide +kernel
theorem dX7_copy_78 : decode cX7_copy 78 = .ok (.aload 7, 2) := by decide +kernel
theorem dX7_copy_80 : decode cX7_copy 80 = .ok (.getfield 268, 3) := by decide +kernel
theorem dX7_copy_83 : decode cX7_copy 83 = .ok (.iload 4, 2) := by decide +kernel
theorem dX7_copy_85 : decode cX7_copy 85 = .ok (.iload 5, 2) := by decide +kernel
theorem dX7_copy_87 : decode cX7_copy 87 = .ok (.invokestatic 274, 3) := by decide +kernel
theorem dX7_copy_90 : decode cX7_copy 90 = .ok (.iload 5, 2) := by decide +kernel
theorem dX7_copy_92 : decode cX7_copy 92 = .ok (.ireturn, 1) := by decide +kernel
theorem dX7_lay_0 : decode cX7_lay 0 = .ok (.aload_n 0, 1) := by decide +kernel
theorem dX7_lay_1 : decode cX7_lay 1 = .ok (.iload_n 2, 1) := by decide +kernel
theorem dX7_lay_2 : decode cX7_lay 2 = .ok (.invokevirtual 75, 3) := by decide +kernel
theorem dX7_lay_5 : decode cX7_lay 5 = .ok (.astore 4, 2) := by decide +kernel
theorem dX7_lay_7 : decode cX7_lay 7 = .ok (.aload_n 0, 1) := by decide +kernel
theorem dX7_lay_8 : decode cX7_lay 8 = .ok (.iload_n 3, 1) := by decide +kernel
theorem dX7_lay_9 : decode cX7_lay 9 = .ok (.invokevirtual 256, 3) := by decide +kernel
theorem dX7_lay_12 : decode cX7_lay 12 = .ok (.astore 5, 2) := by decide +kernel
