theorem dX5_init_0 : decode cX5_init 0 = .ok (.aload_n 0, 1) := by decide +kernel
theorem dX5_init_1 : decode cX5_init 1 = .ok (.invokespecial 1, 3) := by decide +kernel
theorem dX5_init_4 : decode cX5_init 4 = .ok (.aload_n 0, 1) := by decide +kernel
theorem dX5_init_5 : decode cX5_init 5 = .ok (.sipush 1300, 3) := by decide +kernel
theorem dX5_init_8 : decode cX5_init 8 = .ok (.newarray .long, 2) := by decide +kernel
theorem dX5_init_10 : decode cX5_init 10 = .ok (.putfield 9, 3) := by decide +kernel
theorem dX5_init_13 : decode cX5_init 13 = .ok (.aload_n 0, 1) := by decide +kernel
theorem dX5_init_14 : decode cX5_init 14 = .ok (.sipush 1300, 3) := by decide +kernel
theorem dX5_init_17 : decode cX5_init 17 = .ok (.newarray .long, 2) := by decide +kernel
theorem dX5_init_19 : decode cX5_init 19 = .ok (.putfield 13, 3) := by decide +kernel
theorem dX5_init_22 : decode cX5_init 22 = .ok (.aload_n 0, 1) := by decide +kernel
theorem dX5_init_23 : decode cX5_init 23 = .ok (.sipush 1300, 3) := by decide +kernel
theorem dX5_init_26 : decode cX5_init 26 = .ok (.newarray .int, 2) := by decide +kernel
theorem dX5_init_28 : decode cX5_init 28 = .ok (.putfield 16, 3) := by decide +kernel
theorem dX5_init_31 : decode cX5_init 31 = .ok (.aload_n 0, 1) := by decide +kernel
theorem dX5_init_32 : decode cX5_init 32 = .ok (.iconst 0, 1) := by decide +kernel
theorem dX5_init_33 : decode cX5_init 33 = .ok (.putfield 20, 3) := by decide +kernel
theorem dX5_init_36 : decode cX5_init 36 = .ok (.return_, 1) := by decide +kernel
theorem dX5_add_0 : decode cX5_add 0 = .ok (.aload_n 0, 1) := by decide +kernel
theorem dX5_add_1 : decode cX5_add 1 = .ok (.getfield 20, 3) := by decide +kernel
theorem dX5_add_4 : decode cX5_add 4 = .ok (.ifCond .le 74, 3) := by decide +kernel
theorem dX5_add_7 : decode cX5_add 7 = .ok (.aload_n 0, 1) := by decide +kernel
theorem dX5_add_8 : decode cX5_add 8 = .ok (.getfield 20, 3) := by decide +kernel
theorem dX5_add_11 : decode cX5_add 11 = .ok (.sipush 1300, 3) := by decide +kernel
theorem dX5_add_14 : decode cX5_add 14 = .ok (.if_icmp .gt 64, 3) := by decide +kernel
theorem dX5_add_17 : decode cX5_add 17 = .ok (.aload_n 0, 1) := by decide +kernel
theorem dX5_add_18 : decode cX5_add 18 = .ok (.getfield 9, 3) := by decide +kernel
theorem dX5_add_21 : decode cX5_add 21 = .ok (.aload_n 0, 1) := by decide +kernel
theorem dX5_add_22 : decode cX5_add 22 = .ok (.getfield 20, 3) := by decide +kernel
theorem dX5_add_25 : decode cX5_add 25 = .ok (.iconst 1, 1) := by decide +kernel
theorem dX5_add_26 : decode cX5_add 26 = .ok (.isub, 1) := by decide +kernel
theorem dX5_add_27 : decode cX5_add 27 = .ok (.laload, 1) := by decide +kernel
theorem dX5_add_28 : decode cX5_add 28 = .ok (.lload_n 1, 1) := by decide +kernel
theorem dX5_add_29 : decode cX5_add 29 = .ok (.lcmp, 1) := by decide +kernel
theorem dX5_add_30 : decode cX5_add 30 = .ok (.ifCond .ne 48, 3) := by decide +kernel
theorem dX5_add_33 : decode cX5_add 33 = .ok (.aload_n 0, 1) := by decide +kernel
theorem dX5_add_34 : decode cX5_add 34 = .ok (.getfield 13, 3) := by decide +kernel
theorem dX5_add_37 : decode cX5_add 37 = .ok (.aload_n 0, 1) := by decide +kernel
theorem dX5_add_38 : decode cX5_add 38 = .ok (.getfield 20, 3) := by decide +kernel
theorem dX5_add_41 : decode cX5_add 41 = .ok (.iconst 1, 1) := by decide +kernel
theorem dX5_add_42 : decode cX5_add 42 = .ok (.isub, 1) := by decide +kernel
theorem dX5_add_43 : decode cX5_add 43 = .ok (.dup2, 1) := by decide +kernel
theorem dX5_add_44 : decode cX5_add 44 = .ok (.laload, 1) := by decide +kernel
theorem dX5_add_45 : decode cX5_add 45 = .ok (.lload_n 3, 1) := by decide +kernel
theorem dX5_add_46 : decode cX5_add 46 = .ok (.ladd, 1) := by decide +kernel
theorem dX5_add_47 : decode cX5_add 47 = .ok (.lastore, 1) := by decide +kernel
theorem dX5_add_48 : decode cX5_add 48 = .ok (.aload_n 0, 1) := by decide +kernel
theorem dX5_add_49 : decode cX5_add 49 = .ok (.getfield 16, 3) := by decide +kernel
theorem dX5_add_52 : decode cX5_add 52 = .ok (.aload_n 0, 1) := by decide +kernel
theorem dX5_add_53 : decode cX5_add 53 = .ok (.getfield 20, 3) := by decide +kernel
theorem dX5_add_56 : decode cX5_add 56 = .ok (.iconst 1, 1) := by decide +kernel
theorem dX5_add_57 : decode cX5_add 57 = .ok (.isub, 1) := by decide +kernel
theorem dX5_add_58 : decode cX5_add 58 = .ok (.aload_n 0, 1) := by decide +kernel
theorem dX5_add_59 : decode cX5_add 59 = .ok (.getfield 16, 3) := by decide +kernel
theorem dX5_add_62 : decode cX5_add 62 = .ok (.aload_n 0, 1) := by decide +kernel
theorem dX5_add_63 : decode cX5_add 63 = .ok (.getfield 20, 3) := by decide +kernel
theorem dX5_add_66 : decode cX5_add 66 = .ok (.iconst 1, 1) := by decide +kernel
theorem dX5_add_67 : decode cX5_add 67 = .ok (.isub, 1) := by decide +kernel
theorem dX5_add_68 : decode cX5_add 68 = .ok (.iaload, 1) := by decide +kernel
theorem dX5_add_69 : decode cX5_add 69 = .ok (.iload 5, 2) := by decide +kernel
theorem dX5_add_71 : decode cX5_add 71 = .ok (.invokestatic 24, 3) := by decide +kernel
theorem dX5_add_74 : decode cX5_add 74 = .ok (.iastore, 1) := by decide +kernel
theorem dX5_add_75 : decode cX5_add 75 = .ok (.goto 54, 3) := by decide +kernel
theorem dX5_add_78 : decode cX5_add 78 = .ok (.aload_n 0, 1) := by decide +kernel
theorem dX5_add_79 : decode cX5_add 79 = .ok (.getfield 20, 3) := by decide +kernel
theorem dX5_add_82 : decode cX5_add 82 = .ok (.sipush 1300, 3) := by decide +kernel
theorem dX5_add_85 : decode cX5_add 85 = .ok (.if_icmp .ge 44, 3) := by decide +kernel
theorem dX5_add_88 : decode cX5_add 88 = .ok (.aload_n 0, 1) := by decide +kernel
theorem dX5_add_89 : decode cX5_add 89 = .ok (.getfield 9, 3) := by decide +kernel
theorem dX5_add_92 : decode cX5_add 92 = .ok (.aload_n 0, 1) := by decide +kernel
theorem dX5_add_93 : decode cX5_add 93 = .ok (.getfield 20, 3) := by decide +kernel
theorem dX5_add_96 : decode cX5_add 96 = .ok (.lload_n 1, 1) := by decide +kernel
theorem dX5_add_97 : decode cX5_add 97 = .ok (.lastore, 1) := by decide +kernel
theorem dX5_add_98 : decode cX5_add 98 = .ok (.aload_n 0, 1) := by decide +kernel
theorem dX5_add_99 : decode cX5_add 99 = .ok (.getfield 13, 3) := by decide +kernel
theorem dX5_add_102 : decode cX5_add 102 = .ok (.aload_n 0, 1) := by decide +kernel
theorem dX5_add_103 : decode cX5_add 103 = .ok (.getfield 20, 3) := by decide +kernel
theorem dX5_add_106 : decode cX5_add 106 = .ok (.lload_n 3, 1) := by decide +kernel
theorem dX5_add_107 : decode cX5_add 107 = .ok (.lastore, 1) := by decide +kernel
theorem dX5_add_108 : decode cX5_add 108 = .ok (.aload_n 0, 1) := by decide +kernel
theorem dX5_add_109 : decode cX5_add 109 = .ok (.getfield 16, 3) := by decide +kernel
theorem dX5_add_112 : decode cX5_add 112 = .ok (.aload_n 0, 1) := by decide +kernel
theorem dX5_add_113 : decode cX5_add 113 = .ok (.getfield 20, 3) := by decide +kernel
theorem dX5_add_116 : decode cX5_add 116 = .ok (.iload 5, 2) := by decide +kernel
theorem dX5_add_118 : decode cX5_add 118 = .ok (.iastore, 1) := by decide +kernel
theorem dX5_add_119 : decode cX5_add 119 = .ok (.aload_n 0, 1) := by decide +kernel
theorem dX5_add_120 : decode cX5_add 120 = .ok (.dup, 1) := by decide +kernel
theorem dX5_add_121 : decode cX5_add 121 = .ok (.getfield 20, 3) := by decide +kernel
theorem dX5_add_124 : decode cX5_add 124 = .ok (.iconst 1, 1) := by decide +kernel
theorem dX5_add_125 : decode cX5_add 125 = .ok (.iadd, 1) := by decide +kernel
theorem dX5_add_126 : decode cX5_add 126 = .ok (.putfield 20, 3) := by decide +kernel
theorem dX5_add_129 : decode cX5_add 129 = .ok (.return_, 1) := by decide +kernel
