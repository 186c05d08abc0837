theorem dX8_film_32 : decode cX8_film 32 = .ok (.invokevirtual 137, 3) := by decide +kernel
theorem dX8_film_35 : decode cX8_film 35 = .ok (.invokevirtual 254, 3) := by decide +kernel
theorem dX8_film_38 : decode cX8_film 38 = .ok (.istore_n 3, 1) := by decide +kernel
theorem dX8_film_39 : decode cX8_film 39 = .ok (.iconst 0, 1) := by decide +kernel
theorem dX8_film_40 : decode cX8_film 40 = .ok (.istore 4, 2) := by decide +kernel
theorem dX8_film_42 : decode cX8_film 42 = .ok (.iload 4, 2) := by decide +kernel
theorem dX8_film_44 : decode cX8_film 44 = .ok (.aload_n 0, 1) := by decide +kernel
theorem dX8_film_45 : decode cX8_film 45 = .ok (.iload_n 1, 1) := by decide +kernel
theorem dX8_film_46 : decode cX8_film 46 = .ok (.invokevirtual 137, 3) := by decide +kernel
theorem dX8_film_49 : decode cX8_film 49 = .ok (.if_icmp .ge 29, 3) := by decide +kernel
theorem dX8_film_52 : decode cX8_film 52 = .ok (.aload_n 0, 1) := by decide +kernel
theorem dX8_film_53 : decode cX8_film 53 = .ok (.getfield 80, 3) := by decide +kernel
theorem dX8_film_56 : decode cX8_film 56 = .ok (.bipush 60, 2) := by decide +kernel
theorem dX8_film_58 : decode cX8_film 58 = .ok (.iload_n 2, 1) := by decide +kernel
theorem dX8_film_59 : decode cX8_film 59 = .ok (.imul, 1) := by decide +kernel
theorem dX8_film_60 : decode cX8_film 60 = .ok (.iload 4, 2) := by decide +kernel
theorem dX8_film_62 : decode cX8_film 62 = .ok (.iadd, 1) := by decide +kernel
theorem dX8_film_63 : decode cX8_film 63 = .ok (.aload_n 0, 1) := by decide +kernel
theorem dX8_film_64 : decode cX8_film 64 = .ok (.iload_n 1, 1) := by decide +kernel
theorem dX8_film_65 : decode cX8_film 65 = .ok (.iload 4, 2) := by decide +kernel
theorem dX8_film_67 : decode cX8_film 67 = .ok (.invokevirtual 140, 3) := by decide +kernel
theorem dX8_film_70 : decode cX8_film 70 = .ok (.i2l, 1) := by decide +kernel
theorem dX8_film_71 : decode cX8_film 71 = .ok (.lastore, 1) := by decide +kernel
theorem dX8_film_72 : decode cX8_film 72 = .ok (.iinc 4 1, 3) := by decide +kernel
theorem dX8_film_75 : decode cX8_film 75 = .ok (.goto (-33), 3) := by decide +kernel
theorem dX8_film_78 : decode cX8_film 78 = .ok (.aload_n 0, 1) := by decide +kernel
theorem dX8_film_79 : decode cX8_film 79 = .ok (.iload_n 1, 1) := by decide +kernel
theorem dX8_film_80 : decode cX8_film 80 = .ok (.invokevirtual 137, 3) := by decide +kernel
theorem dX8_film_83 : decode cX8_film 83 = .ok (.ireturn, 1) := by decide +kernel
theorem dX8_full_0 : decode cX8_full 0 = .ok (.iconst 0, 1) := by decide +kernel
theorem dX8_full_1 : decode cX8_full 1 = .ok (.istore_n 1, 1) := by decide +kernel
theorem dX8_full_2 : decode cX8_full 2 = .ok (.iconst 0, 1) := by decide +kernel
theorem dX8_full_3 : decode cX8_full 3 = .ok (.istore_n 2, 1) := by decide +kernel
theorem dX8_full_4 : decode cX8_full 4 = .ok (.iload_n 2, 1) := by decide +kernel
theorem dX8_full_5 : decode cX8_full 5 = .ok (.bipush 6, 2) := by decide +kernel
theorem dX8_full_7 : decode cX8_full 7 = .ok (.if_icmp .ge 25, 3) := by decide +kernel
theorem dX8_full_10 : decode cX8_full 10 = .ok (.iload_n 1, 1) := by decide +kernel
theorem dX8_full_11 : decode cX8_full 11 = .ok (.aload_n 0, 1) := by decide +kernel
theorem dX8_full_12 : decode cX8_full 12 = .ok (.iload_n 2, 1) := by decide +kernel
theorem dX8_full_13 : decode cX8_full 13 = .ok (.invokevirtual 159, 3) := by decide +kernel
theorem dX8_full_16 : decode cX8_full 16 = .ok (.ifCond .eq 7, 3) := by decide +kernel
theorem dX8_full_19 : decode cX8_full 19 = .ok (.iconst 0, 1) := by decide +kernel
theorem dX8_full_20 : decode cX8_full 20 = .ok (.goto 4, 3) := by decide +kernel
theorem dX8_full_23 : decode cX8_full 23 = .ok (.iconst 1, 1) := by decide +kernel
theorem dX8_full_24 : decode cX8_full 24 = .ok (.iadd, 1) := by decide +kernel
theorem dX8_full_25 : decode cX8_full 25 = .ok (.istore_n 1, 1) := by decide +kernel
theorem dX8_full_26 : decode cX8_full 26 = .ok (.iinc 2 1, 3) := by decide +kernel
theorem dX8_full_29 : decode cX8_full 29 = .ok (.goto (-25), 3) := by decide +kernel
theorem dX8_full_32 : decode cX8_full 32 = .ok (.iload_n 1, 1) := by decide +kernel
theorem dX8_full_33 : decode cX8_full 33 = .ok (.ireturn, 1) := by decide +kernel
theorem dX8_image_0 : decode cX8_image 0 = .ok (.iconst 0, 1) := by decide +kernel
theorem dX8_image_1 : decode cX8_image 1 = .ok (.istore_n 1, 1) := by decide +kernel
theorem dX8_image_2 : decode cX8_image 2 = .ok (.iload_n 1, 1) := by decide +kernel
theorem dX8_image_3 : decode cX8_image 3 = .ok (.bipush 24, 2) := by decide +kernel
theorem dX8_image_5 : decode cX8_image 5 = .ok (.if_icmp .ge 21, 3) := by decide +kernel
theorem dX8_image_8 : decode cX8_image 8 = .ok (.aload_n 0, 1) := by decide +kernel
theorem dX8_image_9 : decode cX8_image 9 = .ok (.getfield 86, 3) := by decide +kernel
theorem dX8_image_12 : decode cX8_image 12 = .ok (.iload_n 1, 1) := by decide +kernel
theorem dX8_image_13 : decode cX8_image 13 = .ok (.aload_n 0, 1) := by decide +kernel
theorem dX8_image_14 : decode cX8_image 14 = .ok (.getfield 11, 3) := by decide +kernel
theorem dX8_image_17 : decode cX8_image 17 = .ok (.iload_n 1, 1) := by decide +kernel
theorem dX8_image_18 : decode cX8_image 18 = .ok (.iaload, 1) := by decide +kernel
theorem dX8_image_19 : decode cX8_image 19 = .ok (.iastore, 1) := by decide +kernel
theorem dX8_image_20 : decode cX8_image 20 = .ok (.iinc 1 1, 3) := by decide +kernel
theorem dX8_image_23 : decode cX8_image 23 = .ok (.goto (-21), 3) := by decide +kernel
theorem dX8_image_26 : decode cX8_image 26 = .ok (.iconst 0, 1) := by decide +kernel
theorem dX8_image_27 : decode cX8_image 27 = .ok (.istore_n 1, 1) := by decide +kernel
theorem dX8_image_28 : decode cX8_image 28 = .ok (.iload_n 1, 1) := by decide +kernel
theorem dX8_image_29 : decode cX8_image 29 = .ok (.iconst 3, 1) := by decide +kernel
theorem dX8_image_30 : decode cX8_image 30 = .ok (.if_icmp .ge 21, 3) := by decide +kernel
theorem dX8_image_33 : decode cX8_image 33 = .ok (.aload_n 0, 1) := by decide +kernel
theorem dX8_image_34 : decode cX8_image 34 = .ok (.getfield 89, 3) := by decide +kernel
theorem dX8_image_37 : decode cX8_image 37 = .ok (.iload_n 1, 1) := by decide +kernel
theorem dX8_image_38 : decode cX8_image 38 = .ok (.aload_n 0, 1) := by decide +kernel
theorem dX8_image_39 : decode cX8_image 39 = .ok (.getfield 15, 3) := by decide +kernel
theorem dX8_image_42 : decode cX8_image 42 = .ok (.iload_n 1, 1) := by decide +kernel
theorem dX8_image_43 : decode cX8_image 43 = .ok (.iaload, 1) := by decide +kernel
theorem dX8_image_44 : decode cX8_image 44 = .ok (.iastore, 1) := by decide +kernel
theorem dX8_image_45 : decode cX8_image 45 = .ok (.iinc 1 1, 3) := by decide +kernel
theorem dX8_image_48 : decode cX8_image 48 = .ok (.goto (-20), 3) := by decide +kernel
theorem dX8_image_51 : decode cX8_image 51 = .ok (.iconst 0, 1) := by decide +kernel
theorem dX8_image_52 : decode cX8_image 52 = .ok (.istore_n 1, 1) := by decide +kernel
theorem dX8_image_53 : decode cX8_image 53 = .ok (.iload_n 1, 1) := by decide +kernel
theorem dX8_image_54 : decode cX8_image 54 = .ok (.bipush 6, 2) := by decide +kernel
theorem dX8_image_56 : decode cX8_image 56 = .ok (.if_icmp .ge 21, 3) := by decide +kernel
theorem dX8_image_59 : decode cX8_image 59 = .ok (.aload_n 0, 1) := by decide +kernel
theorem dX8_image_60 : decode cX8_image 60 = .ok (.getfield 92, 3) := by decide +kernel
theorem dX8_image_63 : decode cX8_image 63 = .ok (.iload_n 1, 1) := by decide +kernel
theorem dX8_image_64 : decode cX8_image 64 = .ok (.aload_n 0, 1) := by decide +kernel
theorem dX8_image_65 : decode cX8_image 65 = .ok (.getfield 28, 3) := by decide +kernel
theorem dX8_image_68 : decode cX8_image 68 = .ok (.iload_n 1, 1) := by decide +kernel
theorem dX8_image_69 : decode cX8_image 69 = .ok (.iaload, 1) := by decide +kernel
theorem dX8_image_70 : decode cX8_image 70 = .ok (.iastore, 1) := by decide +kernel
theorem dX8_image_71 : decode cX8_image 71 = .ok (.iinc 1 1, 3) := by decide +kernel
theorem dX8_image_74 : decode cX8_image 74 = .ok (.goto (-21), 3) := by decide +kernel
theorem dX8_image_77 : decode cX8_image 77 = .ok (.iconst 0, 1) := by decide +kernel
theorem dX8_image_78 : decode cX8_image 78 = .ok (.istore_n 1, 1) := by decide +kernel
theorem dX8_image_79 : decode cX8_image 79 = .ok (.iload_n 1, 1) := by decide +kernel
theorem dX8_image_80 : decode cX8_image 80 = .ok (.sipush 300, 3) := by decide +kernel
theorem dX8_image_83 : decode cX8_image 83 = .ok (.if_icmp .ge 21, 3) := by decide +kernel
theorem dX8_image_86 : decode cX8_image 86 = .ok (.aload_n 0, 1) := by decide +kernel
theorem dX8_image_87 : decode cX8_image 87 = .ok (.getfield 95, 3) := by decide +kernel
theorem dX8_image_90 : decode cX8_image 90 = .ok (.iload_n 1, 1) := by decide +kernel
theorem dX8_image_91 : decode cX8_image 91 = .ok (.aload_n 0, 1) := by decide +kernel
theorem dX8_image_92 : decode cX8_image 92 = .ok (.getfield 31, 3) := by decide +kernel
theorem dX8_image_95 : decode cX8_image 95 = .ok (.iload_n 1, 1) := by decide +kernel
theorem dX8_image_96 : decode cX8_image 96 = .ok (.iaload, 1) := by decide +kernel
theorem dX8_image_97 : decode cX8_image 97 = .ok (.iastore, 1) := by decide +kernel
theorem dX8_image_98 : decode cX8_image 98 = .ok (.iinc 1 1, 3) := by decide +kernel
theorem dX8_image_101 : decode cX8_image 101 = .ok (.goto (-22), 3) := by decide +kernel
theorem dX8_image_104 : decode cX8_image 104 = .ok (.aload_n 0, 1) := by decide +kernel
theorem dX8_image_105 : decode cX8_image 105 = .ok (.iconst 1, 1) := by decide +kernel
theorem dX8_image_106 : decode cX8_image 106 = .ok (.putfield 257, 3) := by decide +kernel
theorem dX8_image_109 : decode cX8_image 109 = .ok (.aload_n 0, 1) := by decide +kernel
theorem dX8_image_110 : decode cX8_image 110 = .ok (.invokevirtual 261, 3) := by decide +kernel
theorem dX8_image_113 : decode cX8_image 113 = .ok (.ireturn, 1) := by decide +kernel
theorem dX8_undo_0 : decode cX8_undo 0 = .ok (.aload_n 0, 1) := by decide +kernel
theorem dX8_undo_1 : decode cX8_undo 1 = .ok (.getfield 257, 3) := by decide +kernel
theorem dX8_undo_4 : decode cX8_undo 4 = .ok (.ifCond .ne 6, 3) := by decide +kernel
theorem dX8_undo_7 : decode cX8_undo 7 = .ok (.bipush (-3), 2) := by decide +kernel
theorem dX8_undo_9 : decode cX8_undo 9 = .ok (.ireturn, 1) := by decide +kernel
theorem dX8_undo_10 : decode cX8_undo 10 = .ok (.iconst 0, 1) := by decide +kernel
theorem dX8_undo_11 : decode cX8_undo 11 = .ok (.istore_n 1, 1) := by decide +kernel
theorem dX8_undo_12 : decode cX8_undo 12 = .ok (.iload_n 1, 1) := by decide +kernel
theorem dX8_undo_13 : decode cX8_undo 13 = .ok (.bipush 24, 2) := by decide +kernel
theorem dX8_undo_15 : decode cX8_undo 15 = .ok (.if_icmp .ge 21, 3) := by decide +kernel
theorem dX8_undo_18 : decode cX8_undo 18 = .ok (.aload_n 0, 1) := by decide +kernel
theorem dX8_undo_19 : decode cX8_undo 19 = .ok (.getfield 11, 3) := by decide +kernel
theorem dX8_undo_22 : decode cX8_undo 22 = .ok (.iload_n 1, 1) := by decide +kernel
theorem dX8_undo_23 : decode cX8_undo 23 = .ok (.aload_n 0, 1) := by decide +kernel
theorem dX8_undo_24 : decode cX8_undo 24 = .ok (.getfield 86, 3) := by decide +kernel
theorem dX8_undo_27 : decode cX8_undo 27 = .ok (.iload_n 1, 1) := by decide +kernel
theorem dX8_undo_28 : decode cX8_undo 28 = .ok (.iaload, 1) := by decide +kernel
theorem dX8_undo_29 : decode cX8_undo 29 = .ok (.iastore, 1) := by decide +kernel
theorem dX8_undo_30 : decode cX8_undo 30 = .ok (.iinc 1 1, 3) := by decide +kernel
theorem dX8_undo_33 : decode cX8_undo 33 = .ok (.goto (-21), 3) := by decide +kernel
theorem dX8_undo_36 : decode cX8_undo 36 = .ok (.iconst 0, 1) := by decide +kernel
theorem dX8_undo_37 : decode cX8_undo 37 = .ok (.istore_n 1, 1) := by decide +kernel
theorem dX8_undo_38 : decode cX8_undo 38 = .ok (.iload_n 1, 1) := by decide +kernel
theorem dX8_undo_39 : decode cX8_undo 39 = .ok (.iconst 3, 1) := by decide +kernel
theorem dX8_undo_40 : decode cX8_undo 40 = .ok (.if_icmp .ge 26, 3) := by decide +kernel
theorem dX8_undo_43 : decode cX8_undo 43 = .ok (.aload_n 0, 1) := by decide +kernel
theorem dX8_undo_44 : decode cX8_undo 44 = .ok (.getfield 15, 3) := by decide +kernel
theorem dX8_undo_47 : decode cX8_undo 47 = .ok (.iload_n 1, 1) := by decide +kernel
theorem dX8_undo_48 : decode cX8_undo 48 = .ok (.aload_n 0, 1) := by decide +kernel
theorem dX8_undo_49 : decode cX8_undo 49 = .ok (.getfield 89, 3) := by decide +kernel
theorem dX8_undo_52 : decode cX8_undo 52 = .ok (.iload_n 1, 1) := by decide +kernel
theorem dX8_undo_53 : decode cX8_undo 53 = .ok (.iaload, 1) := by decide +kernel
theorem dX8_undo_54 : decode cX8_undo 54 = .ok (.iastore, 1) := by decide +kernel
theorem dX8_undo_55 : decode cX8_undo 55 = .ok (.aload_n 0, 1) := by decide +kernel
theorem dX8_undo_56 : decode cX8_undo 56 = .ok (.iload_n 1, 1) := by decide +kernel
theorem dX8_undo_57 : decode cX8_undo 57 = .ok (.invokevirtual 98, 3) := by decide +kernel
theorem dX8_undo_60 : decode cX8_undo 60 = .ok (.iinc 1 1, 3) := by decide +kernel
theorem dX8_undo_63 : decode cX8_undo 63 = .ok (.goto (-25), 3) := by decide +kernel
theorem dX8_undo_66 : decode cX8_undo 66 = .ok (.iconst 0, 1) := by decide +kernel
theorem dX8_undo_67 : decode cX8_undo 67 = .ok (.istore_n 1, 1) := by decide +kernel
theorem dX8_undo_68 : decode cX8_undo 68 = .ok (.iload_n 1, 1) := by decide +kernel
theorem dX8_undo_69 : decode cX8_undo 69 = .ok (.bipush 6, 2) := by decide +kernel
theorem dX8_undo_71 : decode cX8_undo 71 = .ok (.if_icmp .ge 21, 3) := by decide +kernel
theorem dX8_undo_74 : decode cX8_undo 74 = .ok (.aload_n 0, 1) := by decide +kernel
theorem dX8_undo_75 : decode cX8_undo 75 = .ok (.getfield 28, 3) := by decide +kernel
theorem dX8_undo_78 : decode cX8_undo 78 = .ok (.iload_n 1, 1) := by decide +kernel
theorem dX8_undo_79 : decode cX8_undo 79 = .ok (.aload_n 0, 1) := by decide +kernel
theorem dX8_undo_80 : decode cX8_undo 80 = .ok (.getfield 92, 3) := by decide +kernel
theorem dX8_undo_83 : decode cX8_undo 83 = .ok (.iload_n 1, 1) := by decide +kernel
theorem dX8_undo_84 : decode cX8_undo 84 = .ok (.iaload, 1) := by decide +kernel
theorem dX8_undo_85 : decode cX8_undo 85 = .ok (.iastore, 1) := by decide +kernel
theorem dX8_undo_86 : decode cX8_undo 86 = .ok (.iinc 1 1, 3) := by decide +kernel
theorem dX8_undo_89 : decode cX8_undo 89 = .ok (.goto (-21), 3) := by decide +kernel
theorem dX8_undo_92 : decode cX8_undo 92 = .ok (.iconst 0, 1) := by decide +kernel
theorem dX8_undo_93 : decode cX8_undo 93 = .ok (.istore_n 1, 1) := by decide +kernel
theorem dX8_undo_94 : decode cX8_undo 94 = .ok (.iload_n 1, 1) := by decide +kernel
theorem dX8_undo_95 : decode cX8_undo 95 = .ok (.sipush 300, 3) := by decide +kernel
theorem dX8_undo_98 : decode cX8_undo 98 = .ok (.if_icmp .ge 21, 3) := by decide +kernel
theorem dX8_undo_101 : decode cX8_undo 101 = .ok (.aload_n 0, 1) := by decide +kernel
theorem dX8_undo_102 : decode cX8_undo 102 = .ok (.getfield 31, 3) := by decide +kernel
theorem dX8_undo_105 : decode cX8_undo 105 = .ok (.iload_n 1, 1) := by decide +kernel
theorem dX8_undo_106 : decode cX8_undo 106 = .ok (.aload_n 0, 1) := by decide +kernel
theorem dX8_undo_107 : decode cX8_undo 107 = .ok (.getfield 95, 3) := by decide +kernel
theorem dX8_undo_110 : decode cX8_undo 110 = .ok (.iload_n 1, 1) := by decide +kernel
theorem dX8_undo_111 : decode cX8_undo 111 = .ok (.iaload, 1) := by decide +kernel
theorem dX8_undo_112 : decode cX8_undo 112 = .ok (.iastore, 1) := by decide +kernel
theorem dX8_undo_113 : decode cX8_undo 113 = .ok (.iinc 1 1, 3) := by decide +kernel
theorem dX8_undo_116 : decode cX8_undo 116 = .ok (.goto (-22), 3) := by decide +kernel
theorem dX8_undo_119 : decode cX8_undo 119 = .ok (.aload_n 0, 1) := by decide +kernel
theorem dX8_undo_120 : decode cX8_undo 120 = .ok (.iconst 0, 1) := by decide +kernel
theorem dX8_undo_121 : decode cX8_undo 121 = .ok (.putfield 178, 3) := by decide +kernel
theorem dX8_undo_124 : decode cX8_undo 124 = .ok (.aload_n 0, 1) := by decide +kernel
theorem dX8_undo_125 : decode cX8_undo 125 = .ok (.invokevirtual 261, 3) := by decide +kernel
theorem dX8_undo_128 : decode cX8_undo 128 = .ok (.ireturn, 1) := by decide +kernel
theorem dX8_count_0 : decode cX8_count 0 = .ok (.iconst 0, 1) := by decide +kernel
theorem dX8_count_1 : decode cX8_count 1 = .ok (.istore_n 2, 1) := by decide +kernel
theorem dX8_count_2 : decode cX8_count 2 = .ok (.iload_n 1, 1) := by decide +kernel
theorem dX8_count_3 : decode cX8_count 3 = .ok (.tableswitch 76 0 3 #[29, 34, 39, 44], 29) := by decide +kernel
theorem dX8_count_32 : decode cX8_count 32 = .ok (.aload_n 0, 1) := by decide +kernel
theorem dX8_count_33 : decode cX8_count 33 = .ok (.invokevirtual 261, 3) := by decide +kernel
theorem dX8_count_36 : decode cX8_count 36 = .ok (.ireturn, 1) := by decide +kernel
theorem dX8_count_37 : decode cX8_count 37 = .ok (.aload_n 0, 1) := by decide +kernel
theorem dX8_count_38 : decode cX8_count 38 = .ok (.getfield 178, 3) := by decide +kernel
theorem dX8_count_41 : decode cX8_count 41 = .ok (.ireturn, 1) := by decide +kernel
theorem dX8_count_42 : decode cX8_count 42 = .ok (.aload_n 0, 1) := by decide +kernel
theorem dX8_count_43 : decode cX8_count 43 = .ok (.getfield 234, 3) := by decide +kernel
theorem dX8_count_46 : decode cX8_count 46 = .ok (.ireturn, 1) := by decide +kernel
theorem dX8_count_47 : decode cX8_count 47 = .ok (.iconst 0, 1) := by decide +kernel
theorem dX8_count_48 : decode cX8_count 48 = .ok (.istore_n 3, 1) := by decide +kernel
theorem dX8_count_49 : decode cX8_count 49 = .ok (.iload_n 3, 1) := by decide +kernel
theorem dX8_count_50 : decode cX8_count 50 = .ok (.iconst 3, 1) := by decide +kernel
theorem dX8_count_51 : decode cX8_count 51 = .ok (.if_icmp .ge 26, 3) := by decide +kernel
theorem dX8_count_54 : decode cX8_count 54 = .ok (.iload_n 2, 1) := by decide +kernel
theorem dX8_count_55 : decode cX8_count 55 = .ok (.aload_n 0, 1) := by decide +kernel
theorem dX8_count_56 : decode cX8_count 56 = .ok (.getfield 73, 3) := by decide +kernel
theorem dX8_count_59 : decode cX8_count 59 = .ok (.iload_n 3, 1) := by decide +kernel
theorem dX8_count_60 : decode cX8_count 60 = .ok (.baload, 1) := by decide +kernel
theorem dX8_count_61 : decode cX8_count 61 = .ok (.ifCond .eq 7, 3) := by decide +kernel
theorem dX8_count_64 : decode cX8_count 64 = .ok (.iconst 1, 1) := by decide +kernel
theorem dX8_count_65 : decode cX8_count 65 = .ok (.goto 4, 3) := by decide +kernel
theorem dX8_count_68 : decode cX8_count 68 = .ok (.iconst 0, 1) := by decide +kernel
theorem dX8_count_69 : decode cX8_count 69 = .ok (.iadd, 1) := by decide +kernel
theorem dX8_count_70 : decode cX8_count 70 = .ok (.istore_n 2, 1) := by decide +kernel
theorem dX8_count_71 : decode cX8_count 71 = .ok (.iinc 3 1, 3) := by decide +kernel
theorem dX8_count_74 : decode cX8_count 74 = .ok (.goto (-25), 3) := by decide +kernel
theorem dX8_count_77 : decode cX8_count 77 = .ok (.iload_n 2, 1) := by decide +kernel
theorem dX8_count_78 : decode cX8_count 78 = .ok (.ireturn, 1) := by decide +kernel
theorem dX8_count_79 : decode cX8_count 79 = .ok (.bipush (-2), 2) := by decide +kernel
theorem dX8_count_81 : decode cX8_count 81 = .ok (.ireturn, 1) := by decide +kernel
