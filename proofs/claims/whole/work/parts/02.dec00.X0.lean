theorem dX0_init_0 : decode cX0_init 0 = .ok (.aload_n 0, 1) := by decide +kernel
theorem dX0_init_1 : decode cX0_init 1 = .ok (.invokespecial 3, 3) := by decide +kernel
theorem dX0_init_4 : decode cX0_init 4 = .ok (.aload_n 0, 1) := by decide +kernel
theorem dX0_init_5 : decode cX0_init 5 = .ok (.bipush 43, 2) := by decide +kernel
theorem dX0_init_7 : decode cX0_init 7 = .ok (.newarray .int, 2) := by decide +kernel
theorem dX0_init_9 : decode cX0_init 9 = .ok (.putfield 9, 3) := by decide +kernel
theorem dX0_init_12 : decode cX0_init 12 = .ok (.aload_n 0, 1) := by decide +kernel
theorem dX0_init_13 : decode cX0_init 13 = .ok (.bipush 43, 2) := by decide +kernel
theorem dX0_init_15 : decode cX0_init 15 = .ok (.newarray .long, 2) := by decide +kernel
theorem dX0_init_17 : decode cX0_init 17 = .ok (.putfield 15, 3) := by decide +kernel
theorem dX0_init_20 : decode cX0_init 20 = .ok (.aload_n 0, 1) := by decide +kernel
theorem dX0_init_21 : decode cX0_init 21 = .ok (.iload_n 1, 1) := by decide +kernel
theorem dX0_init_22 : decode cX0_init 22 = .ok (.putfield 19, 3) := by decide +kernel
theorem dX0_init_25 : decode cX0_init 25 = .ok (.aload_n 0, 1) := by decide +kernel
theorem dX0_init_26 : decode cX0_init 26 = .ok (.iconst 1, 1) := by decide +kernel
theorem dX0_init_27 : decode cX0_init 27 = .ok (.iconst 1, 1) := by decide +kernel
theorem dX0_init_28 : decode cX0_init 28 = .ok (.invokevirtual 23, 3) := by decide +kernel
theorem dX0_init_31 : decode cX0_init 31 = .ok (.return_, 1) := by decide +kernel
theorem dX0_isRowOfSteps_0 : decode cX0_isRowOfSteps 0 = .ok (.iload_n 0, 1) := by decide +kernel
theorem dX0_isRowOfSteps_1 : decode cX0_isRowOfSteps 1 = .ok (.iconst 1, 1) := by decide +kernel
theorem dX0_isRowOfSteps_2 : decode cX0_isRowOfSteps 2 = .ok (.bipush 8, 2) := by decide +kernel
theorem dX0_isRowOfSteps_4 : decode cX0_isRowOfSteps 4 = .ok (.invokestatic 27, 3) := by decide +kernel
theorem dX0_isRowOfSteps_7 : decode cX0_isRowOfSteps 7 = .ok (.ifCond .eq 7, 3) := by decide +kernel
theorem dX0_isRowOfSteps_10 : decode cX0_isRowOfSteps 10 = .ok (.iload_n 1, 1) := by decide +kernel
theorem dX0_isRowOfSteps_11 : decode cX0_isRowOfSteps 11 = .ok (.ifCond .ge 5, 3) := by decide +kernel
theorem dX0_isRowOfSteps_14 : decode cX0_isRowOfSteps 14 = .ok (.iconst 0, 1) := by decide +kernel
theorem dX0_isRowOfSteps_15 : decode cX0_isRowOfSteps 15 = .ok (.ireturn, 1) := by decide +kernel
theorem dX0_isRowOfSteps_16 : decode cX0_isRowOfSteps 16 = .ok (.iload_n 1, 1) := by decide +kernel
theorem dX0_isRowOfSteps_17 : decode cX0_isRowOfSteps 17 = .ok (.istore_n 2, 1) := by decide +kernel
theorem dX0_isRowOfSteps_18 : decode cX0_isRowOfSteps 18 = .ok (.iconst 0, 1) := by decide +kernel
theorem dX0_isRowOfSteps_19 : decode cX0_isRowOfSteps 19 = .ok (.istore_n 3, 1) := by decide +kernel
theorem dX0_isRowOfSteps_20 : decode cX0_isRowOfSteps 20 = .ok (.iload_n 3, 1) := by decide +kernel
theorem dX0_isRowOfSteps_21 : decode cX0_isRowOfSteps 21 = .ok (.iload_n 0, 1) := by decide +kernel
theorem dX0_isRowOfSteps_22 : decode cX0_isRowOfSteps 22 = .ok (.if_icmp .ge 23, 3) := by decide +kernel
theorem dX0_isRowOfSteps_25 : decode cX0_isRowOfSteps 25 = .ok (.iload_n 2, 1) := by decide +kernel
theorem dX0_isRowOfSteps_26 : decode cX0_isRowOfSteps 26 = .ok (.bipush 10, 2) := by decide +kernel
theorem dX0_isRowOfSteps_28 : decode cX0_isRowOfSteps 28 = .ok (.irem, 1) := by decide +kernel
theorem dX0_isRowOfSteps_29 : decode cX0_isRowOfSteps 29 = .ok (.ifCond .ne 5, 3) := by decide +kernel
theorem dX0_isRowOfSteps_32 : decode cX0_isRowOfSteps 32 = .ok (.iconst 0, 1) := by decide +kernel
theorem dX0_isRowOfSteps_33 : decode cX0_isRowOfSteps 33 = .ok (.ireturn, 1) := by decide +kernel
theorem dX0_isRowOfSteps_34 : decode cX0_isRowOfSteps 34 = .ok (.iload_n 2, 1) := by decide +kernel
theorem dX0_isRowOfSteps_35 : decode cX0_isRowOfSteps 35 = .ok (.bipush 10, 2) := by decide +kernel
theorem dX0_isRowOfSteps_37 : decode cX0_isRowOfSteps 37 = .ok (.idiv, 1) := by decide +kernel
theorem dX0_isRowOfSteps_38 : decode cX0_isRowOfSteps 38 = .ok (.istore_n 2, 1) := by decide +kernel
theorem dX0_isRowOfSteps_39 : decode cX0_isRowOfSteps 39 = .ok (.iinc 3 1, 3) := by decide +kernel
theorem dX0_isRowOfSteps_42 : decode cX0_isRowOfSteps 42 = .ok (.goto (-22), 3) := by decide +kernel
theorem dX0_isRowOfSteps_45 : decode cX0_isRowOfSteps 45 = .ok (.iload_n 2, 1) := by decide +kernel
theorem dX0_isRowOfSteps_46 : decode cX0_isRowOfSteps 46 = .ok (.ifCond .ne 7, 3) := by decide +kernel
theorem dX0_isRowOfSteps_49 : decode cX0_isRowOfSteps 49 = .ok (.iconst 1, 1) := by decide +kernel
theorem dX0_isRowOfSteps_50 : decode cX0_isRowOfSteps 50 = .ok (.goto 4, 3) := by decide +kernel
theorem dX0_isRowOfSteps_53 : decode cX0_isRowOfSteps 53 = .ok (.iconst 0, 1) := by decide +kernel
theorem dX0_isRowOfSteps_54 : decode cX0_isRowOfSteps 54 = .ok (.ireturn, 1) := by decide +kernel
theorem dX0_tell_0 : decode cX0_tell 0 = .ok (.aload_n 0, 1) := by decide +kernel
theorem dX0_tell_1 : decode cX0_tell 1 = .ok (.iconst 1, 1) := by decide +kernel
theorem dX0_tell_2 : decode cX0_tell 2 = .ok (.iload_n 1, 1) := by decide +kernel
theorem dX0_tell_3 : decode cX0_tell 3 = .ok (.bipush 8, 2) := by decide +kernel
theorem dX0_tell_5 : decode cX0_tell 5 = .ok (.invokestatic 31, 3) := by decide +kernel
theorem dX0_tell_8 : decode cX0_tell 8 = .ok (.invokestatic 37, 3) := by decide +kernel
theorem dX0_tell_11 : decode cX0_tell 11 = .ok (.putfield 40, 3) := by decide +kernel
theorem dX0_tell_14 : decode cX0_tell 14 = .ok (.iload_n 2, 1) := by decide +kernel
theorem dX0_tell_15 : decode cX0_tell 15 = .ok (.istore_n 3, 1) := by decide +kernel
theorem dX0_tell_16 : decode cX0_tell 16 = .ok (.aload_n 0, 1) := by decide +kernel
theorem dX0_tell_17 : decode cX0_tell 17 = .ok (.getfield 40, 3) := by decide +kernel
theorem dX0_tell_20 : decode cX0_tell 20 = .ok (.iconst 1, 1) := by decide +kernel
theorem dX0_tell_21 : decode cX0_tell 21 = .ok (.isub, 1) := by decide +kernel
theorem dX0_tell_22 : decode cX0_tell 22 = .ok (.istore 4, 2) := by decide +kernel
theorem dX0_tell_24 : decode cX0_tell 24 = .ok (.iload 4, 2) := by decide +kernel
theorem dX0_tell_26 : decode cX0_tell 26 = .ok (.ifCond .lt 25, 3) := by decide +kernel
theorem dX0_tell_29 : decode cX0_tell 29 = .ok (.aload_n 0, 1) := by decide +kernel
theorem dX0_tell_30 : decode cX0_tell 30 = .ok (.getfield 9, 3) := by decide +kernel
theorem dX0_tell_33 : decode cX0_tell 33 = .ok (.iload 4, 2) := by decide +kernel
theorem dX0_tell_35 : decode cX0_tell 35 = .ok (.iload_n 3, 1) := by decide +kernel
theorem dX0_tell_36 : decode cX0_tell 36 = .ok (.bipush 10, 2) := by decide +kernel
theorem dX0_tell_38 : decode cX0_tell 38 = .ok (.irem, 1) := by decide +kernel
theorem dX0_tell_39 : decode cX0_tell 39 = .ok (.iastore, 1) := by decide +kernel
theorem dX0_tell_40 : decode cX0_tell 40 = .ok (.iload_n 3, 1) := by decide +kernel
theorem dX0_tell_41 : decode cX0_tell 41 = .ok (.bipush 10, 2) := by decide +kernel
theorem dX0_tell_43 : decode cX0_tell 43 = .ok (.idiv, 1) := by decide +kernel
theorem dX0_tell_44 : decode cX0_tell 44 = .ok (.istore_n 3, 1) := by decide +kernel
theorem dX0_tell_45 : decode cX0_tell 45 = .ok (.iinc 4 (-1), 3) := by decide +kernel
theorem dX0_tell_48 : decode cX0_tell 48 = .ok (.goto (-24), 3) := by decide +kernel
theorem dX0_tell_51 : decode cX0_tell 51 = .ok (.aload_n 0, 1) := by decide +kernel
theorem dX0_tell_52 : decode cX0_tell 52 = .ok (.getfield 40, 3) := by decide +kernel
theorem dX0_tell_55 : decode cX0_tell 55 = .ok (.istore 4, 2) := by decide +kernel
theorem dX0_tell_57 : decode cX0_tell 57 = .ok (.iload 4, 2) := by decide +kernel
theorem dX0_tell_59 : decode cX0_tell 59 = .ok (.aload_n 0, 1) := by decide +kernel
theorem dX0_tell_60 : decode cX0_tell 60 = .ok (.getfield 9, 3) := by decide +kernel
theorem dX0_tell_63 : decode cX0_tell 63 = .ok (.arraylength, 1) := by decide +kernel
theorem dX0_tell_64 : decode cX0_tell 64 = .ok (.if_icmp .ge 28, 3) := by decide +kernel
theorem dX0_tell_67 : decode cX0_tell 67 = .ok (.aload_n 0, 1) := by decide +kernel
theorem dX0_tell_68 : decode cX0_tell 68 = .ok (.getfield 9, 3) := by decide +kernel
theorem dX0_tell_71 : decode cX0_tell 71 = .ok (.iload 4, 2) := by decide +kernel
theorem dX0_tell_73 : decode cX0_tell 73 = .ok (.aload_n 0, 1) := by decide +kernel
theorem dX0_tell_74 : decode cX0_tell 74 = .ok (.getfield 9, 3) := by decide +kernel
theorem dX0_tell_77 : decode cX0_tell 77 = .ok (.iload 4, 2) := by decide +kernel
theorem dX0_tell_79 : decode cX0_tell 79 = .ok (.aload_n 0, 1) := by decide +kernel
theorem dX0_tell_80 : decode cX0_tell 80 = .ok (.getfield 40, 3) := by decide +kernel
theorem dX0_tell_83 : decode cX0_tell 83 = .ok (.isub, 1) := by decide +kernel
theorem dX0_tell_84 : decode cX0_tell 84 = .ok (.iaload, 1) := by decide +kernel
theorem dX0_tell_85 : decode cX0_tell 85 = .ok (.iastore, 1) := by decide +kernel
theorem dX0_tell_86 : decode cX0_tell 86 = .ok (.iinc 4 1, 3) := by decide +kernel
theorem dX0_tell_89 : decode cX0_tell 89 = .ok (.goto (-32), 3) := by decide +kernel
theorem dX0_tell_92 : decode cX0_tell 92 = .ok (.aload_n 0, 1) := by decide +kernel
theorem dX0_tell_93 : decode cX0_tell 93 = .ok (.invokevirtual 43, 3) := by decide +kernel
theorem dX0_tell_96 : decode cX0_tell 96 = .ok (.return_, 1) := by decide +kernel
theorem dX0_makeWorths_0 : decode cX0_makeWorths 0 = .ok (.lconst 1, 1) := by decide +kernel
theorem dX0_makeWorths_1 : decode cX0_makeWorths 1 = .ok (.lstore_n 1, 1) := by decide +kernel
theorem dX0_makeWorths_2 : decode cX0_makeWorths 2 = .ok (.lconst 1, 1) := by decide +kernel
theorem dX0_makeWorths_3 : decode cX0_makeWorths 3 = .ok (.lstore_n 3, 1) := by decide +kernel
theorem dX0_makeWorths_4 : decode cX0_makeWorths 4 = .ok (.iconst 0, 1) := by decide +kernel
theorem dX0_makeWorths_5 : decode cX0_makeWorths 5 = .ok (.istore 5, 2) := by decide +kernel
theorem dX0_makeWorths_7 : decode cX0_makeWorths 7 = .ok (.iload 5, 2) := by decide +kernel
theorem dX0_makeWorths_9 : decode cX0_makeWorths 9 = .ok (.aload_n 0, 1) := by decide +kernel
theorem dX0_makeWorths_10 : decode cX0_makeWorths 10 = .ok (.getfield 15, 3) := by decide +kernel
theorem dX0_makeWorths_13 : decode cX0_makeWorths 13 = .ok (.arraylength, 1) := by decide +kernel
theorem dX0_makeWorths_14 : decode cX0_makeWorths 14 = .ok (.if_icmp .ge 52, 3) := by decide +kernel
theorem dX0_makeWorths_17 : decode cX0_makeWorths 17 = .ok (.lload_n 3, 1) := by decide +kernel
theorem dX0_makeWorths_18 : decode cX0_makeWorths 18 = .ok (.ldc2_w 46, 3) := by decide +kernel
theorem dX0_makeWorths_21 : decode cX0_makeWorths 21 = .ok (.lcmp, 1) := by decide +kernel
theorem dX0_makeWorths_22 : decode cX0_makeWorths 22 = .ok (.ifCond .gt 44, 3) := by decide +kernel
theorem dX0_makeWorths_25 : decode cX0_makeWorths 25 = .ok (.aload_n 0, 1) := by decide +kernel
theorem dX0_makeWorths_26 : decode cX0_makeWorths 26 = .ok (.getfield 15, 3) := by decide +kernel
theorem dX0_makeWorths_29 : decode cX0_makeWorths 29 = .ok (.iload 5, 2) := by decide +kernel
theorem dX0_makeWorths_31 : decode cX0_makeWorths 31 = .ok (.lload_n 3, 1) := by decide +kernel
theorem dX0_makeWorths_32 : decode cX0_makeWorths 32 = .ok (.lastore, 1) := by decide +kernel
theorem dX0_makeWorths_33 : decode cX0_makeWorths 33 = .ok (.aload_n 0, 1) := by decide +kernel
theorem dX0_makeWorths_34 : decode cX0_makeWorths 34 = .ok (.iload 5, 2) := by decide +kernel
theorem dX0_makeWorths_36 : decode cX0_makeWorths 36 = .ok (.iconst 1, 1) := by decide +kernel
theorem dX0_makeWorths_37 : decode cX0_makeWorths 37 = .ok (.iadd, 1) := by decide +kernel
theorem dX0_makeWorths_38 : decode cX0_makeWorths 38 = .ok (.putfield 48, 3) := by decide +kernel
theorem dX0_makeWorths_41 : decode cX0_makeWorths 41 = .ok (.aload_n 0, 1) := by decide +kernel
theorem dX0_makeWorths_42 : decode cX0_makeWorths 42 = .ok (.getfield 9, 3) := by decide +kernel
theorem dX0_makeWorths_45 : decode cX0_makeWorths 45 = .ok (.iload 5, 2) := by decide +kernel
theorem dX0_makeWorths_47 : decode cX0_makeWorths 47 = .ok (.iaload, 1) := by decide +kernel
theorem dX0_makeWorths_48 : decode cX0_makeWorths 48 = .ok (.i2l, 1) := by decide +kernel
theorem dX0_makeWorths_49 : decode cX0_makeWorths 49 = .ok (.lload_n 3, 1) := by decide +kernel
theorem dX0_makeWorths_50 : decode cX0_makeWorths 50 = .ok (.lmul, 1) := by decide +kernel
theorem dX0_makeWorths_51 : decode cX0_makeWorths 51 = .ok (.lload_n 1, 1) := by decide +kernel
theorem dX0_makeWorths_52 : decode cX0_makeWorths 52 = .ok (.ladd, 1) := by decide +kernel
theorem dX0_makeWorths_53 : decode cX0_makeWorths 53 = .ok (.lstore 6, 2) := by decide +kernel
theorem dX0_makeWorths_55 : decode cX0_makeWorths 55 = .ok (.lload_n 3, 1) := by decide +kernel
theorem dX0_makeWorths_56 : decode cX0_makeWorths 56 = .ok (.lstore_n 1, 1) := by decide +kernel
theorem dX0_makeWorths_57 : decode cX0_makeWorths 57 = .ok (.lload 6, 2) := by decide +kernel
theorem dX0_makeWorths_59 : decode cX0_makeWorths 59 = .ok (.lstore_n 3, 1) := by decide +kernel
theorem dX0_makeWorths_60 : decode cX0_makeWorths 60 = .ok (.iinc 5 1, 3) := by decide +kernel
theorem dX0_makeWorths_63 : decode cX0_makeWorths 63 = .ok (.goto (-56), 3) := by decide +kernel
theorem dX0_makeWorths_66 : decode cX0_makeWorths 66 = .ok (.aload_n 0, 1) := by decide +kernel
theorem dX0_makeWorths_67 : decode cX0_makeWorths 67 = .ok (.lload_n 3, 1) := by decide +kernel
theorem dX0_makeWorths_68 : decode cX0_makeWorths 68 = .ok (.lconst 1, 1) := by decide +kernel
theorem dX0_makeWorths_69 : decode cX0_makeWorths 69 = .ok (.lsub, 1) := by decide +kernel
theorem dX0_makeWorths_70 : decode cX0_makeWorths 70 = .ok (.putfield 51, 3) := by decide +kernel
theorem dX0_makeWorths_73 : decode cX0_makeWorths 73 = .ok (.return_, 1) := by decide +kernel
theorem dX0_becomeLike_0 : decode cX0_becomeLike 0 = .ok (.aload_n 0, 1) := by decide +kernel
theorem dX0_becomeLike_1 : decode cX0_becomeLike 1 = .ok (.aload_n 1, 1) := by decide +kernel
theorem dX0_becomeLike_2 : decode cX0_becomeLike 2 = .ok (.getfield 40, 3) := by decide +kernel
theorem dX0_becomeLike_5 : decode cX0_becomeLike 5 = .ok (.putfield 40, 3) := by decide +kernel
theorem dX0_becomeLike_8 : decode cX0_becomeLike 8 = .ok (.aload_n 0, 1) := by decide +kernel
theorem dX0_becomeLike_9 : decode cX0_becomeLike 9 = .ok (.aload_n 1, 1) := by decide +kernel
theorem dX0_becomeLike_10 : decode cX0_becomeLike 10 = .ok (.getfield 48, 3) := by decide +kernel
theorem dX0_becomeLike_13 : decode cX0_becomeLike 13 = .ok (.putfield 48, 3) := by decide +kernel
theorem dX0_becomeLike_16 : decode cX0_becomeLike 16 = .ok (.aload_n 0, 1) := by decide +kernel
theorem dX0_becomeLike_17 : decode cX0_becomeLike 17 = .ok (.aload_n 1, 1) := by decide +kernel
theorem dX0_becomeLike_18 : decode cX0_becomeLike 18 = .ok (.getfield 51, 3) := by decide +kernel
theorem dX0_becomeLike_21 : decode cX0_becomeLike 21 = .ok (.putfield 51, 3) := by decide +kernel
theorem dX0_becomeLike_24 : decode cX0_becomeLike 24 = .ok (.aload_n 1, 1) := by decide +kernel
theorem dX0_becomeLike_25 : decode cX0_becomeLike 25 = .ok (.getfield 9, 3) := by decide +kernel
theorem dX0_becomeLike_28 : decode cX0_becomeLike 28 = .ok (.iconst 0, 1) := by decide +kernel
theorem dX0_becomeLike_29 : decode cX0_becomeLike 29 = .ok (.aload_n 0, 1) := by decide +kernel
theorem dX0_becomeLike_30 : decode cX0_becomeLike 30 = .ok (.getfield 9, 3) := by decide +kernel
theorem dX0_becomeLike_33 : decode cX0_becomeLike 33 = .ok (.iconst 0, 1) := by decide +kernel
theorem dX0_becomeLike_34 : decode cX0_becomeLike 34 = .ok (.aload_n 0, 1) := by decide +kernel
theorem dX0_becomeLike_35 : decode cX0_becomeLike 35 = .ok (.getfield 9, 3) := by decide +kernel
theorem dX0_becomeLike_38 : decode cX0_becomeLike 38 = .ok (.arraylength, 1) := by decide +kernel
theorem dX0_becomeLike_39 : decode cX0_becomeLike 39 = .ok (.invokestatic 55, 3) := by decide +kernel
theorem dX0_becomeLike_42 : decode cX0_becomeLike 42 = .ok (.aload_n 1, 1) := by decide +kernel
theorem dX0_becomeLike_43 : decode cX0_becomeLike 43 = .ok (.getfield 15, 3) := by decide +kernel
theorem dX0_becomeLike_46 : decode cX0_becomeLike 46 = .ok (.iconst 0, 1) := by decide +kernel
theorem dX0_becomeLike_47 : decode cX0_becomeLike 47 = .ok (.aload_n 0, 1) := by decide +kernel
theorem dX0_becomeLike_48 : decode cX0_becomeLike 48 = .ok (.getfield 15, 3) := by decide +kernel
theorem dX0_becomeLike_51 : decode cX0_becomeLike 51 = .ok (.iconst 0, 1) := by decide +kernel
theorem dX0_becomeLike_52 : decode cX0_becomeLike 52 = .ok (.aload_n 0, 1) := by decide +kernel
theorem dX0_becomeLike_53 : decode cX0_becomeLike 53 = .ok (.getfield 15, 3) := by decide +kernel
theorem dX0_becomeLike_56 : decode cX0_becomeLike 56 = .ok (.arraylength, 1) := by decide +kernel
theorem dX0_becomeLike_57 : decode cX0_becomeLike 57 = .ok (.invokestatic 55, 3) := by decide +kernel
theorem dX0_becomeLike_60 : decode cX0_becomeLike 60 = .ok (.return_, 1) := by decide +kernel
theorem dX0_kind_0 : decode cX0_kind 0 = .ok (.iconst 1, 1) := by decide +kernel
theorem dX0_kind_1 : decode cX0_kind 1 = .ok (.istore_n 1, 1) := by decide +kernel
theorem dX0_kind_2 : decode cX0_kind 2 = .ok (.iload_n 1, 1) := by decide +kernel
theorem dX0_kind_3 : decode cX0_kind 3 = .ok (.aload_n 0, 1) := by decide +kernel
theorem dX0_kind_4 : decode cX0_kind 4 = .ok (.getfield 40, 3) := by decide +kernel
theorem dX0_kind_7 : decode cX0_kind 7 = .ok (.if_icmp .ge 35, 3) := by decide +kernel
theorem dX0_kind_10 : decode cX0_kind 10 = .ok (.iload_n 1, 1) := by decide +kernel
theorem dX0_kind_11 : decode cX0_kind 11 = .ok (.aload_n 0, 1) := by decide +kernel
theorem dX0_kind_12 : decode cX0_kind 12 = .ok (.getfield 9, 3) := by decide +kernel
theorem dX0_kind_15 : decode cX0_kind 15 = .ok (.arraylength, 1) := by decide +kernel
theorem dX0_kind_16 : decode cX0_kind 16 = .ok (.if_icmp .ge 26, 3) := by decide +kernel
theorem dX0_kind_19 : decode cX0_kind 19 = .ok (.aload_n 0, 1) := by decide +kernel
theorem dX0_kind_20 : decode cX0_kind 20 = .ok (.getfield 9, 3) := by decide +kernel
theorem dX0_kind_23 : decode cX0_kind 23 = .ok (.iload_n 1, 1) := by decide +kernel
theorem dX0_kind_24 : decode cX0_kind 24 = .ok (.iaload, 1) := by decide +kernel
theorem dX0_kind_25 : decode cX0_kind 25 = .ok (.aload_n 0, 1) := by decide +kernel
theorem dX0_kind_26 : decode cX0_kind 26 = .ok (.getfield 9, 3) := by decide +kernel
theorem dX0_kind_29 : decode cX0_kind 29 = .ok (.iconst 0, 1) := by decide +kernel
theorem dX0_kind_30 : decode cX0_kind 30 = .ok (.iaload, 1) := by decide +kernel
theorem dX0_kind_31 : decode cX0_kind 31 = .ok (.if_icmp .eq 5, 3) := by decide +kernel
theorem dX0_kind_34 : decode cX0_kind 34 = .ok (.iconst 0, 1) := by decide +kernel
theorem dX0_kind_35 : decode cX0_kind 35 = .ok (.ireturn, 1) := by decide +kernel
theorem dX0_kind_36 : decode cX0_kind 36 = .ok (.iinc 1 1, 3) := by decide +kernel
theorem dX0_kind_39 : decode cX0_kind 39 = .ok (.goto (-37), 3) := by decide +kernel
theorem dX0_kind_42 : decode cX0_kind 42 = .ok (.aload_n 0, 1) := by decide +kernel
theorem dX0_kind_43 : decode cX0_kind 43 = .ok (.getfield 9, 3) := by decide +kernel
theorem dX0_kind_46 : decode cX0_kind 46 = .ok (.iconst 0, 1) := by decide +kernel
theorem dX0_kind_47 : decode cX0_kind 47 = .ok (.iaload, 1) := by decide +kernel
theorem dX0_kind_48 : decode cX0_kind 48 = .ok (.iconst 1, 1) := by decide +kernel
theorem dX0_kind_49 : decode cX0_kind 49 = .ok (.if_icmp .ne 5, 3) := by decide +kernel
theorem dX0_kind_52 : decode cX0_kind 52 = .ok (.iconst 2, 1) := by decide +kernel
theorem dX0_kind_53 : decode cX0_kind 53 = .ok (.ireturn, 1) := by decide +kernel
theorem dX0_kind_54 : decode cX0_kind 54 = .ok (.aload_n 0, 1) := by decide +kernel
theorem dX0_kind_55 : decode cX0_kind 55 = .ok (.getfield 9, 3) := by decide +kernel
theorem dX0_kind_58 : decode cX0_kind 58 = .ok (.iconst 0, 1) := by decide +kernel
theorem dX0_kind_59 : decode cX0_kind 59 = .ok (.iaload, 1) := by decide +kernel
theorem dX0_kind_60 : decode cX0_kind 60 = .ok (.iconst 2, 1) := by decide +kernel
theorem dX0_kind_61 : decode cX0_kind 61 = .ok (.if_icmp .ne 7, 3) := by decide +kernel
theorem dX0_kind_64 : decode cX0_kind 64 = .ok (.iconst 3, 1) := by decide +kernel
theorem dX0_kind_65 : decode cX0_kind 65 = .ok (.goto 4, 3) := by decide +kernel
theorem dX0_kind_68 : decode cX0_kind 68 = .ok (.iconst 1, 1) := by decide +kernel
theorem dX0_kind_69 : decode cX0_kind 69 = .ok (.ireturn, 1) := by decide +kernel
theorem dX0_hasPlace_0 : decode cX0_hasPlace 0 = .ok (.iload_n 1, 1) := by decide +kernel
theorem dX0_hasPlace_1 : decode cX0_hasPlace 1 = .ok (.ifCond .lt 21, 3) := by decide +kernel
theorem dX0_hasPlace_4 : decode cX0_hasPlace 4 = .ok (.iload_n 1, 1) := by decide +kernel
theorem dX0_hasPlace_5 : decode cX0_hasPlace 5 = .ok (.aload_n 0, 1) := by decide +kernel
theorem dX0_hasPlace_6 : decode cX0_hasPlace 6 = .ok (.getfield 48, 3) := by decide +kernel
theorem dX0_hasPlace_9 : decode cX0_hasPlace 9 = .ok (.if_icmp .ge 13, 3) := by decide +kernel
theorem dX0_hasPlace_12 : decode cX0_hasPlace 12 = .ok (.iload_n 1, 1) := by decide +kernel
theorem dX0_hasPlace_13 : decode cX0_hasPlace 13 = .ok (.bipush 43, 2) := by decide +kernel
theorem dX0_hasPlace_15 : decode cX0_hasPlace 15 = .ok (.if_icmp .ge 7, 3) := by decide +kernel
theorem dX0_hasPlace_18 : decode cX0_hasPlace 18 = .ok (.iconst 1, 1) := by decide +kernel
theorem dX0_hasPlace_19 : decode cX0_hasPlace 19 = .ok (.goto 4, 3) := by decide +kernel
theorem dX0_hasPlace_22 : decode cX0_hasPlace 22 = .ok (.iconst 0, 1) := by decide +kernel
theorem dX0_hasPlace_23 : decode cX0_hasPlace 23 = .ok (.ireturn, 1) := by decide +kernel
theorem dX0_valueOf_0 : decode cX0_valueOf 0 = .ok (.aload_n 0, 1) := by decide +kernel
theorem dX0_valueOf_1 : decode cX0_valueOf 1 = .ok (.aload_n 1, 1) := by decide +kernel
theorem dX0_valueOf_2 : decode cX0_valueOf 2 = .ok (.aload_n 0, 1) := by decide +kernel
theorem dX0_valueOf_3 : decode cX0_valueOf 3 = .ok (.getfield 48, 3) := by decide +kernel
theorem dX0_valueOf_6 : decode cX0_valueOf 6 = .ok (.invokevirtual 61, 3) := by decide +kernel
theorem dX0_valueOf_9 : decode cX0_valueOf 9 = .ok (.lreturn, 1) := by decide +kernel
theorem dX0_valueBelow_0 : decode cX0_valueBelow 0 = .ok (.lconst 0, 1) := by decide +kernel
theorem dX0_valueBelow_1 : decode cX0_valueBelow 1 = .ok (.lstore_n 3, 1) := by decide +kernel
theorem dX0_valueBelow_2 : decode cX0_valueBelow 2 = .ok (.iconst 0, 1) := by decide +kernel
theorem dX0_valueBelow_3 : decode cX0_valueBelow 3 = .ok (.istore 5, 2) := by decide +kernel
theorem dX0_valueBelow_5 : decode cX0_valueBelow 5 = .ok (.iload 5, 2) := by decide +kernel
theorem dX0_valueBelow_7 : decode cX0_valueBelow 7 = .ok (.iload_n 2, 1) := by decide +kernel
theorem dX0_valueBelow_8 : decode cX0_valueBelow 8 = .ok (.if_icmp .ge 42, 3) := by decide +kernel
theorem dX0_valueBelow_11 : decode cX0_valueBelow 11 = .ok (.iload 5, 2) := by decide +kernel
theorem dX0_valueBelow_13 : decode cX0_valueBelow 13 = .ok (.aload_n 1, 1) := by decide +kernel
theorem dX0_valueBelow_14 : decode cX0_valueBelow 14 = .ok (.arraylength, 1) := by decide +kernel
theorem dX0_valueBelow_15 : decode cX0_valueBelow 15 = .ok (.if_icmp .ge 35, 3) := by decide +kernel
theorem dX0_valueBelow_18 : decode cX0_valueBelow 18 = .ok (.iload 5, 2) := by decide +kernel
theorem dX0_valueBelow_20 : decode cX0_valueBelow 20 = .ok (.aload_n 0, 1) := by decide +kernel
theorem dX0_valueBelow_21 : decode cX0_valueBelow 21 = .ok (.getfield 15, 3) := by decide +kernel
theorem dX0_valueBelow_24 : decode cX0_valueBelow 24 = .ok (.arraylength, 1) := by decide +kernel
theorem dX0_valueBelow_25 : decode cX0_valueBelow 25 = .ok (.if_icmp .ge 25, 3) := by decide +kernel
theorem dX0_valueBelow_28 : decode cX0_valueBelow 28 = .ok (.lload_n 3, 1) := by decide +kernel
theorem dX0_valueBelow_29 : decode cX0_valueBelow 29 = .ok (.aload_n 1, 1) := by decide +kernel
theorem dX0_valueBelow_30 : decode cX0_valueBelow 30 = .ok (.iload 5, 2) := by decide +kernel
theorem dX0_valueBelow_32 : decode cX0_valueBelow 32 = .ok (.iaload, 1) := by decide +kernel
theorem dX0_valueBelow_33 : decode cX0_valueBelow 33 = .ok (.i2l, 1) := by decide +kernel
theorem dX0_valueBelow_34 : decode cX0_valueBelow 34 = .ok (.aload_n 0, 1) := by decide +kernel
theorem dX0_valueBelow_35 : decode cX0_valueBelow 35 = .ok (.getfield 15, 3) := by decide +kernel
theorem dX0_valueBelow_38 : decode cX0_valueBelow 38 = .ok (.iload 5, 2) := by decide +kernel
theorem dX0_valueBelow_40 : decode cX0_valueBelow 40 = .ok (.laload, 1) := by decide +kernel
theorem dX0_valueBelow_41 : decode cX0_valueBelow 41 = .ok (.lmul, 1) := by decide +kernel
theorem dX0_valueBelow_42 : decode cX0_valueBelow 42 = .ok (.ladd, 1) := by decide +kernel
theorem dX0_valueBelow_43 : decode cX0_valueBelow 43 = .ok (.lstore_n 3, 1) := by decide +kernel
theorem dX0_valueBelow_44 : decode cX0_valueBelow 44 = .ok (.iinc 5 1, 3) := by decide +kernel
theorem dX0_valueBelow_47 : decode cX0_valueBelow 47 = .ok (.goto (-42), 3) := by decide +kernel
theorem dX0_valueBelow_50 : decode cX0_valueBelow 50 = .ok (.lload_n 3, 1) := by decide +kernel
theorem dX0_valueBelow_51 : decode cX0_valueBelow 51 = .ok (.lreturn, 1) := by decide +kernel
theorem dX0_allows_0 : decode cX0_allows 0 = .ok (.iconst 0, 1) := by decide +kernel
theorem dX0_allows_1 : decode cX0_allows 1 = .ok (.istore_n 2, 1) := by decide +kernel
theorem dX0_allows_2 : decode cX0_allows 2 = .ok (.iload_n 2, 1) := by decide +kernel
theorem dX0_allows_3 : decode cX0_allows 3 = .ok (.aload_n 1, 1) := by decide +kernel
theorem dX0_allows_4 : decode cX0_allows 4 = .ok (.arraylength, 1) := by decide +kernel
theorem dX0_allows_5 : decode cX0_allows 5 = .ok (.if_icmp .ge 56, 3) := by decide +kernel
theorem dX0_allows_8 : decode cX0_allows 8 = .ok (.iload_n 2, 1) := by decide +kernel
theorem dX0_allows_9 : decode cX0_allows 9 = .ok (.aload_n 0, 1) := by decide +kernel
theorem dX0_allows_10 : decode cX0_allows 10 = .ok (.getfield 9, 3) := by decide +kernel
theorem dX0_allows_13 : decode cX0_allows 13 = .ok (.arraylength, 1) := by decide +kernel
theorem dX0_allows_14 : decode cX0_allows 14 = .ok (.if_icmp .ge 47, 3) := by decide +kernel
theorem dX0_allows_17 : decode cX0_allows 17 = .ok (.aload_n 1, 1) := by decide +kernel
theorem dX0_allows_18 : decode cX0_allows 18 = .ok (.iload_n 2, 1) := by decide +kernel
theorem dX0_allows_19 : decode cX0_allows 19 = .ok (.iaload, 1) := by decide +kernel
theorem dX0_allows_20 : decode cX0_allows 20 = .ok (.aload_n 0, 1) := by decide +kernel
theorem dX0_allows_21 : decode cX0_allows 21 = .ok (.getfield 9, 3) := by decide +kernel
theorem dX0_allows_24 : decode cX0_allows 24 = .ok (.iload_n 2, 1) := by decide +kernel
theorem dX0_allows_25 : decode cX0_allows 25 = .ok (.iaload, 1) := by decide +kernel
theorem dX0_allows_26 : decode cX0_allows 26 = .ok (.if_icmp .gt 27, 3) := by decide +kernel
theorem dX0_allows_29 : decode cX0_allows 29 = .ok (.aload_n 1, 1) := by decide +kernel
theorem dX0_allows_30 : decode cX0_allows 30 = .ok (.iload_n 2, 1) := by decide +kernel
theorem dX0_allows_31 : decode cX0_allows 31 = .ok (.iaload, 1) := by decide +kernel
theorem dX0_allows_32 : decode cX0_allows 32 = .ok (.aload_n 0, 1) := by decide +kernel
theorem dX0_allows_33 : decode cX0_allows 33 = .ok (.getfield 9, 3) := by decide +kernel
theorem dX0_allows_36 : decode cX0_allows 36 = .ok (.iload_n 2, 1) := by decide +kernel
theorem dX0_allows_37 : decode cX0_allows 37 = .ok (.iaload, 1) := by decide +kernel
theorem dX0_allows_38 : decode cX0_allows 38 = .ok (.if_icmp .ne 17, 3) := by decide +kernel
theorem dX0_allows_41 : decode cX0_allows 41 = .ok (.iload_n 2, 1) := by decide +kernel
theorem dX0_allows_42 : decode cX0_allows 42 = .ok (.ifCond .le 13, 3) := by decide +kernel
theorem dX0_allows_45 : decode cX0_allows 45 = .ok (.aload_n 1, 1) := by decide +kernel
theorem dX0_allows_46 : decode cX0_allows 46 = .ok (.iload_n 2, 1) := by decide +kernel
theorem dX0_allows_47 : decode cX0_allows 47 = .ok (.iconst 1, 1) := by decide +kernel
theorem dX0_allows_48 : decode cX0_allows 48 = .ok (.isub, 1) := by decide +kernel
theorem dX0_allows_49 : decode cX0_allows 49 = .ok (.iaload, 1) := by decide +kernel
theorem dX0_allows_50 : decode cX0_allows 50 = .ok (.ifCond .eq 5, 3) := by decide +kernel
theorem dX0_allows_53 : decode cX0_allows 53 = .ok (.iconst 0, 1) := by decide +kernel
theorem dX0_allows_54 : decode cX0_allows 54 = .ok (.ireturn, 1) := by decide +kernel
theorem dX0_allows_55 : decode cX0_allows 55 = .ok (.iinc 2 1, 3) := by decide +kernel
theorem dX0_allows_58 : decode cX0_allows 58 = .ok (.goto (-56), 3) := by decide +kernel
theorem dX0_allows_61 : decode cX0_allows 61 = .ok (.iconst 1, 1) := by decide +kernel
theorem dX0_allows_62 : decode cX0_allows 62 = .ok (.ireturn, 1) := by decide +kernel
theorem dX0_greedyInto_0 : decode cX0_greedyInto 0 = .ok (.lload_n 2, 1) := by decide +kernel
theorem dX0_greedyInto_1 : decode cX0_greedyInto 1 = .ok (.lstore 4, 2) := by decide +kernel
theorem dX0_greedyInto_3 : decode cX0_greedyInto 3 = .ok (.aload_n 1, 1) := by decide +kernel
theorem dX0_greedyInto_4 : decode cX0_greedyInto 4 = .ok (.arraylength, 1) := by decide +kernel
theorem dX0_greedyInto_5 : decode cX0_greedyInto 5 = .ok (.iconst 1, 1) := by decide +kernel
theorem dX0_greedyInto_6 : decode cX0_greedyInto 6 = .ok (.isub, 1) := by decide +kernel
theorem dX0_greedyInto_7 : decode cX0_greedyInto 7 = .ok (.istore 6, 2) := by decide +kernel
theorem dX0_greedyInto_9 : decode cX0_greedyInto 9 = .ok (.iload 6, 2) := by decide +kernel
theorem dX0_greedyInto_11 : decode cX0_greedyInto 11 = .ok (.ifCond .lt 66, 3) := by decide +kernel
theorem dX0_greedyInto_14 : decode cX0_greedyInto 14 = .ok (.aload_n 0, 1) := by decide +kernel
theorem dX0_greedyInto_15 : decode cX0_greedyInto 15 = .ok (.iload 6, 2) := by decide +kernel
theorem dX0_greedyInto_17 : decode cX0_greedyInto 17 = .ok (.invokevirtual 65, 3) := by decide +kernel
theorem dX0_greedyInto_20 : decode cX0_greedyInto 20 = .ok (.ifCond .eq 13, 3) := by decide +kernel
theorem dX0_greedyInto_23 : decode cX0_greedyInto 23 = .ok (.aload_n 0, 1) := by decide +kernel
theorem dX0_greedyInto_24 : decode cX0_greedyInto 24 = .ok (.getfield 15, 3) := by decide +kernel
theorem dX0_greedyInto_27 : decode cX0_greedyInto 27 = .ok (.iload 6, 2) := by decide +kernel
theorem dX0_greedyInto_29 : decode cX0_greedyInto 29 = .ok (.laload, 1) := by decide +kernel
theorem dX0_greedyInto_30 : decode cX0_greedyInto 30 = .ok (.goto 4, 3) := by decide +kernel
theorem dX0_greedyInto_33 : decode cX0_greedyInto 33 = .ok (.lconst 0, 1) := by decide +kernel
theorem dX0_greedyInto_34 : decode cX0_greedyInto 34 = .ok (.lstore 7, 2) := by decide +kernel
theorem dX0_greedyInto_36 : decode cX0_greedyInto 36 = .ok (.lload 7, 2) := by decide +kernel
theorem dX0_greedyInto_38 : decode cX0_greedyInto 38 = .ok (.lconst 0, 1) := by decide +kernel
theorem dX0_greedyInto_39 : decode cX0_greedyInto 39 = .ok (.lcmp, 1) := by decide +kernel
theorem dX0_greedyInto_40 : decode cX0_greedyInto 40 = .ok (.ifCond .le 11, 3) := by decide +kernel
theorem dX0_greedyInto_43 : decode cX0_greedyInto 43 = .ok (.lload 4, 2) := by decide +kernel
theorem dX0_greedyInto_45 : decode cX0_greedyInto 45 = .ok (.lload 7, 2) := by decide +kernel
theorem dX0_greedyInto_47 : decode cX0_greedyInto 47 = .ok (.ldiv, 1) := by decide +kernel
theorem dX0_greedyInto_48 : decode cX0_greedyInto 48 = .ok (.goto 4, 3) := by decide +kernel
theorem dX0_greedyInto_51 : decode cX0_greedyInto 51 = .ok (.lconst 0, 1) := by decide +kernel
theorem dX0_greedyInto_52 : decode cX0_greedyInto 52 = .ok (.lstore 9, 2) := by decide +kernel
theorem dX0_greedyInto_54 : decode cX0_greedyInto 54 = .ok (.aload_n 1, 1) := by decide +kernel
theorem dX0_greedyInto_55 : decode cX0_greedyInto 55 = .ok (.iload 6, 2) := by decide +kernel
theorem dX0_greedyInto_57 : decode cX0_greedyInto 57 = .ok (.lload 9, 2) := by decide +kernel
theorem dX0_greedyInto_59 : decode cX0_greedyInto 59 = .ok (.l2i, 1) := by decide +kernel
theorem dX0_greedyInto_60 : decode cX0_greedyInto 60 = .ok (.iastore, 1) := by decide +kernel
theorem dX0_greedyInto_61 : decode cX0_greedyInto 61 = .ok (.lload 4, 2) := by decide +kernel
theorem dX0_greedyInto_63 : decode cX0_greedyInto 63 = .ok (.lload 9, 2) := by decide +kernel
theorem dX0_greedyInto_65 : decode cX0_greedyInto 65 = .ok (.lload 7, 2) := by decide +kernel
theorem dX0_greedyInto_67 : decode cX0_greedyInto 67 = .ok (.lmul, 1) := by decide +kernel
theorem dX0_greedyInto_68 : decode cX0_greedyInto 68 = .ok (.lsub, 1) := by decide +kernel
theorem dX0_greedyInto_69 : decode cX0_greedyInto 69 = .ok (.lstore 4, 2) := by decide +kernel
theorem dX0_greedyInto_71 : decode cX0_greedyInto 71 = .ok (.iinc 6 (-1), 3) := by decide +kernel
theorem dX0_greedyInto_74 : decode cX0_greedyInto 74 = .ok (.goto (-65), 3) := by decide +kernel
theorem dX0_greedyInto_77 : decode cX0_greedyInto 77 = .ok (.return_, 1) := by decide +kernel
theorem dX0_carried_0 : decode cX0_carried 0 = .ok (.iload_n 1, 1) := by decide +kernel
theorem dX0_carried_1 : decode cX0_carried 1 = .ok (.ifCond .ne 14, 3) := by decide +kernel
theorem dX0_carried_4 : decode cX0_carried 4 = .ok (.aload_n 0, 1) := by decide +kernel
theorem dX0_carried_5 : decode cX0_carried 5 = .ok (.getfield 9, 3) := by decide +kernel
theorem dX0_carried_8 : decode cX0_carried 8 = .ok (.iconst 0, 1) := by decide +kernel
theorem dX0_carried_9 : decode cX0_carried 9 = .ok (.iaload, 1) := by decide +kernel
theorem dX0_carried_10 : decode cX0_carried 10 = .ok (.iconst 1, 1) := by decide +kernel
theorem dX0_carried_11 : decode cX0_carried 11 = .ok (.iadd, 1) := by decide +kernel
theorem dX0_carried_12 : decode cX0_carried 12 = .ok (.goto 9, 3) := by decide +kernel
theorem dX0_carried_15 : decode cX0_carried 15 = .ok (.aload_n 0, 1) := by decide +kernel
theorem dX0_carried_16 : decode cX0_carried 16 = .ok (.getfield 9, 3) := by decide +kernel
theorem dX0_carried_19 : decode cX0_carried 19 = .ok (.iload_n 1, 1) := by decide +kernel
theorem dX0_carried_20 : decode cX0_carried 20 = .ok (.iaload, 1) := by decide +kernel
theorem dX0_carried_21 : decode cX0_carried 21 = .ok (.ireturn, 1) := by decide +kernel
theorem dX0_canCarry_0 : decode cX0_canCarry 0 = .ok (.aload_n 0, 1) := by decide +kernel
theorem dX0_canCarry_1 : decode cX0_canCarry 1 = .ok (.iload_n 2, 1) := by decide +kernel
theorem dX0_canCarry_2 : decode cX0_canCarry 2 = .ok (.invokevirtual 65, 3) := by decide +kernel
theorem dX0_canCarry_5 : decode cX0_canCarry 5 = .ok (.ifCond .eq 13, 3) := by decide +kernel
theorem dX0_canCarry_8 : decode cX0_canCarry 8 = .ok (.aload_n 0, 1) := by decide +kernel
theorem dX0_canCarry_9 : decode cX0_canCarry 9 = .ok (.iload_n 2, 1) := by decide +kernel
theorem dX0_canCarry_10 : decode cX0_canCarry 10 = .ok (.iconst 1, 1) := by decide +kernel
theorem dX0_canCarry_11 : decode cX0_canCarry 11 = .ok (.iadd, 1) := by decide +kernel
theorem dX0_canCarry_12 : decode cX0_canCarry 12 = .ok (.invokevirtual 65, 3) := by decide +kernel
theorem dX0_canCarry_15 : decode cX0_canCarry 15 = .ok (.ifCond .ne 5, 3) := by decide +kernel
theorem dX0_canCarry_18 : decode cX0_canCarry 18 = .ok (.iconst 0, 1) := by decide +kernel
theorem dX0_canCarry_19 : decode cX0_canCarry 19 = .ok (.ireturn, 1) := by decide +kernel
theorem dX0_canCarry_20 : decode cX0_canCarry 20 = .ok (.aload_n 1, 1) := by decide +kernel
theorem dX0_canCarry_21 : decode cX0_canCarry 21 = .ok (.iload_n 2, 1) := by decide +kernel
theorem dX0_canCarry_22 : decode cX0_canCarry 22 = .ok (.iconst 1, 1) := by decide +kernel
theorem dX0_canCarry_23 : decode cX0_canCarry 23 = .ok (.iadd, 1) := by decide +kernel
theorem dX0_canCarry_24 : decode cX0_canCarry 24 = .ok (.iaload, 1) := by decide +kernel
theorem dX0_canCarry_25 : decode cX0_canCarry 25 = .ok (.iload_n 3, 1) := by decide +kernel
theorem dX0_canCarry_26 : decode cX0_canCarry 26 = .ok (.iadd, 1) := by decide +kernel
theorem dX0_canCarry_27 : decode cX0_canCarry 27 = .ok (.invokestatic 69, 3) := by decide +kernel
theorem dX0_canCarry_30 : decode cX0_canCarry 30 = .ok (.ifCond .eq 41, 3) := by decide +kernel
theorem dX0_canCarry_33 : decode cX0_canCarry 33 = .ok (.aload_n 1, 1) := by decide +kernel
theorem dX0_canCarry_34 : decode cX0_canCarry 34 = .ok (.iload_n 2, 1) := by decide +kernel
