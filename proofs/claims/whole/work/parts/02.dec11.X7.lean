theorem dX7_lay_14 : decode cX7_lay 14 = .ok (.aload_n 0, 1) := by decide +kernel
theorem dX7_lay_15 : decode cX7_lay 15 = .ok (.iload_n 1, 1) := by decide +kernel
theorem dX7_lay_16 : decode cX7_lay 16 = .ok (.invokevirtual 87, 3) := by decide +kernel
theorem dX7_lay_19 : decode cX7_lay 19 = .ok (.ifnull 13, 3) := by decide +kernel
theorem dX7_lay_22 : decode cX7_lay 22 = .ok (.aload 4, 2) := by decide +kernel
theorem dX7_lay_24 : decode cX7_lay 24 = .ok (.ifnull 8, 3) := by decide +kernel
theorem dX7_lay_27 : decode cX7_lay 27 = .ok (.aload 5, 2) := by decide +kernel
theorem dX7_lay_29 : decode cX7_lay 29 = .ok (.ifnonnull 6, 3) := by decide +kernel
theorem dX7_lay_32 : decode cX7_lay 32 = .ok (.bipush (-2), 2) := by decide +kernel
theorem dX7_lay_34 : decode cX7_lay 34 = .ok (.ireturn, 1) := by decide +kernel
theorem dX7_lay_35 : decode cX7_lay 35 = .ok (.aload 5, 2) := by decide +kernel
theorem dX7_lay_37 : decode cX7_lay 37 = .ok (.invokevirtual 263, 3) := by decide +kernel
theorem dX7_lay_40 : decode cX7_lay 40 = .ok (.ifCond .eq 6, 3) := by decide +kernel
theorem dX7_lay_43 : decode cX7_lay 43 = .ok (.bipush (-11), 2) := by decide +kernel
theorem dX7_lay_45 : decode cX7_lay 45 = .ok (.ireturn, 1) := by decide +kernel
theorem dX7_lay_46 : decode cX7_lay 46 = .ok (.aload 5, 2) := by decide +kernel
theorem dX7_lay_48 : decode cX7_lay 48 = .ok (.aload_n 0, 1) := by decide +kernel
theorem dX7_lay_49 : decode cX7_lay 49 = .ok (.getfield 60, 3) := by decide +kernel
theorem dX7_lay_52 : decode cX7_lay 52 = .ok (.aload 4, 2) := by decide +kernel
theorem dX7_lay_54 : decode cX7_lay 54 = .ok (.getfield 98, 3) := by decide +kernel
theorem dX7_lay_57 : decode cX7_lay 57 = .ok (.invokevirtual 280, 3) := by decide +kernel
theorem dX7_lay_60 : decode cX7_lay 60 = .ok (.ifCond .eq 17, 3) := by decide +kernel
theorem dX7_lay_63 : decode cX7_lay 63 = .ok (.aload_n 0, 1) := by decide +kernel
theorem dX7_lay_64 : decode cX7_lay 64 = .ok (.iload_n 1, 1) := by decide +kernel
theorem dX7_lay_65 : decode cX7_lay 65 = .ok (.aload 4, 2) := by decide +kernel
theorem dX7_lay_67 : decode cX7_lay 67 = .ok (.aload_n 0, 1) := by decide +kernel
theorem dX7_lay_68 : decode cX7_lay 68 = .ok (.getfield 60, 3) := by decide +kernel
theorem dX7_lay_71 : decode cX7_lay 71 = .ok (.invokevirtual 137, 3) := by decide +kernel
theorem dX7_lay_74 : decode cX7_lay 74 = .ok (.goto 5, 3) := by decide +kernel
theorem dX7_lay_77 : decode cX7_lay 77 = .ok (.bipush (-3), 2) := by decide +kernel
theorem dX7_lay_79 : decode cX7_lay 79 = .ok (.ireturn, 1) := by decide +kernel
theorem dX7_film_0 : decode cX7_film 0 = .ok (.aload_n 0, 1) := by decide +kernel
theorem dX7_film_1 : decode cX7_film 1 = .ok (.iload_n 1, 1) := by decide +kernel
theorem dX7_film_2 : decode cX7_film 2 = .ok (.invokevirtual 87, 3) := by decide +kernel
theorem dX7_film_5 : decode cX7_film 5 = .ok (.astore_n 3, 1) := by decide +kernel
theorem dX7_film_6 : decode cX7_film 6 = .ok (.aload_n 0, 1) := by decide +kernel
theorem dX7_film_7 : decode cX7_film 7 = .ok (.iload_n 2, 1) := by decide +kernel
theorem dX7_film_8 : decode cX7_film 8 = .ok (.invokevirtual 256, 3) := by decide +kernel
theorem dX7_film_11 : decode cX7_film 11 = .ok (.astore 4, 2) := by decide +kernel
theorem dX7_film_13 : decode cX7_film 13 = .ok (.aload_n 3, 1) := by decide +kernel
theorem dX7_film_14 : decode cX7_film 14 = .ok (.ifnull 8, 3) := by decide +kernel
theorem dX7_film_17 : decode cX7_film 17 = .ok (.aload 4, 2) := by decide +kernel
theorem dX7_film_19 : decode cX7_film 19 = .ok (.ifnonnull 6, 3) := by decide +kernel
theorem dX7_film_22 : decode cX7_film 22 = .ok (.bipush (-2), 2) := by decide +kernel
theorem dX7_film_24 : decode cX7_film 24 = .ok (.ireturn, 1) := by decide +kernel
theorem dX7_film_25 : decode cX7_film 25 = .ok (.aload_n 3, 1) := by decide +kernel
theorem dX7_film_26 : decode cX7_film 26 = .ok (.getfield 91, 3) := by decide +kernel
theorem dX7_film_29 : decode cX7_film 29 = .ok (.astore 5, 2) := by decide +kernel
theorem dX7_film_31 : decode cX7_film 31 = .ok (.aload 5, 2) := by decide +kernel
theorem dX7_film_33 : decode cX7_film 33 = .ok (.ifnonnull 6, 3) := by decide +kernel
theorem dX7_film_36 : decode cX7_film 36 = .ok (.bipush (-11), 2) := by decide +kernel
theorem dX7_film_38 : decode cX7_film 38 = .ok (.ireturn, 1) := by decide +kernel
theorem dX7_film_39 : decode cX7_film 39 = .ok (.aload 4, 2) := by decide +kernel
theorem dX7_film_41 : decode cX7_film 41 = .ok (.aload 5, 2) := by decide +kernel
theorem dX7_film_43 : decode cX7_film 43 = .ok (.getfield 98, 3) := by decide +kernel
theorem dX7_film_46 : decode cX7_film 46 = .ok (.invokevirtual 260, 3) := by decide +kernel
theorem dX7_film_49 : decode cX7_film 49 = .ok (.iconst 0, 1) := by decide +kernel
theorem dX7_film_50 : decode cX7_film 50 = .ok (.istore 6, 2) := by decide +kernel
theorem dX7_film_52 : decode cX7_film 52 = .ok (.iload 6, 2) := by decide +kernel
theorem dX7_film_54 : decode cX7_film 54 = .ok (.aload_n 3, 1) := by decide +kernel
theorem dX7_film_55 : decode cX7_film 55 = .ok (.getfield 144, 3) := by decide +kernel
theorem dX7_film_58 : decode cX7_film 58 = .ok (.arraylength, 1) := by decide +kernel
theorem dX7_film_59 : decode cX7_film 59 = .ok (.if_icmp .ge 35, 3) := by decide +kernel
theorem dX7_film_62 : decode cX7_film 62 = .ok (.aload 4, 2) := by decide +kernel
theorem dX7_film_64 : decode cX7_film 64 = .ok (.iload 6, 2) := by decide +kernel
theorem dX7_film_66 : decode cX7_film 66 = .ok (.invokevirtual 267, 3) := by decide +kernel
theorem dX7_film_69 : decode cX7_film 69 = .ok (.ifCond .eq 25, 3) := by decide +kernel
theorem dX7_film_72 : decode cX7_film 72 = .ok (.aload 4, 2) := by decide +kernel
theorem dX7_film_74 : decode cX7_film 74 = .ok (.getfield 268, 3) := by decide +kernel
theorem dX7_film_77 : decode cX7_film 77 = .ok (.iload 6, 2) := by decide +kernel
theorem dX7_film_79 : decode cX7_film 79 = .ok (.aload_n 3, 1) := by decide +kernel
theorem dX7_film_80 : decode cX7_film 80 = .ok (.getfield 144, 3) := by decide +kernel
theorem dX7_film_83 : decode cX7_film 83 = .ok (.iload 6, 2) := by decide +kernel
theorem dX7_film_85 : decode cX7_film 85 = .ok (.iaload, 1) := by decide +kernel
theorem dX7_film_86 : decode cX7_film 86 = .ok (.i2l, 1) := by decide +kernel
theorem dX7_film_87 : decode cX7_film 87 = .ok (.lastore, 1) := by decide +kernel
theorem dX7_film_88 : decode cX7_film 88 = .ok (.iinc 6 1, 3) := by decide +kernel
theorem dX7_film_91 : decode cX7_film 91 = .ok (.goto (-39), 3) := by decide +kernel
theorem dX7_film_94 : decode cX7_film 94 = .ok (.aload 5, 2) := by decide +kernel
theorem dX7_film_96 : decode cX7_film 96 = .ok (.getfield 98, 3) := by decide +kernel
theorem dX7_film_99 : decode cX7_film 99 = .ok (.ireturn, 1) := by decide +kernel
theorem dX7_image_0 : decode cX7_image 0 = .ok (.aload_n 0, 1) := by decide +kernel
theorem dX7_image_1 : decode cX7_image 1 = .ok (.getfield 13, 3) := by decide +kernel
theorem dX7_image_4 : decode cX7_image 4 = .ok (.aload_n 0, 1) := by decide +kernel
theorem dX7_image_5 : decode cX7_image 5 = .ok (.getfield 19, 3) := by decide +kernel
theorem dX7_image_8 : decode cX7_image 8 = .ok (.aload_n 0, 1) := by decide +kernel
theorem dX7_image_9 : decode cX7_image 9 = .ok (.getfield 50, 3) := by decide +kernel
theorem dX7_image_12 : decode cX7_image 12 = .ok (.aload_n 0, 1) := by decide +kernel
theorem dX7_image_13 : decode cX7_image 13 = .ok (.getfield 53, 3) := by decide +kernel
theorem dX7_image_16 : decode cX7_image 16 = .ok (.invokestatic 284, 3) := by decide +kernel
theorem dX7_image_19 : decode cX7_image 19 = .ok (.aload_n 0, 1) := by decide +kernel
theorem dX7_image_20 : decode cX7_image 20 = .ok (.iconst 1, 1) := by decide +kernel
theorem dX7_image_21 : decode cX7_image 21 = .ok (.putfield 56, 3) := by decide +kernel
theorem dX7_image_24 : decode cX7_image 24 = .ok (.aload_n 0, 1) := by decide +kernel
theorem dX7_image_25 : decode cX7_image 25 = .ok (.invokevirtual 288, 3) := by decide +kernel
theorem dX7_image_28 : decode cX7_image 28 = .ok (.ireturn, 1) := by decide +kernel
theorem dX7_undo_0 : decode cX7_undo 0 = .ok (.aload_n 0, 1) := by decide +kernel
theorem dX7_undo_1 : decode cX7_undo 1 = .ok (.getfield 56, 3) := by decide +kernel
theorem dX7_undo_4 : decode cX7_undo 4 = .ok (.ifCond .ne 6, 3) := by decide +kernel
theorem dX7_undo_7 : decode cX7_undo 7 = .ok (.bipush (-3), 2) := by decide +kernel
theorem dX7_undo_9 : decode cX7_undo 9 = .ok (.ireturn, 1) := by decide +kernel
theorem dX7_undo_10 : decode cX7_undo 10 = .ok (.aload_n 0, 1) := by decide +kernel
theorem dX7_undo_11 : decode cX7_undo 11 = .ok (.getfield 50, 3) := by decide +kernel
theorem dX7_undo_14 : decode cX7_undo 14 = .ok (.aload_n 0, 1) := by decide +kernel
theorem dX7_undo_15 : decode cX7_undo 15 = .ok (.getfield 53, 3) := by decide +kernel
theorem dX7_undo_18 : decode cX7_undo 18 = .ok (.aload_n 0, 1) := by decide +kernel
theorem dX7_undo_19 : decode cX7_undo 19 = .ok (.getfield 13, 3) := by decide +kernel
theorem dX7_undo_22 : decode cX7_undo 22 = .ok (.aload_n 0, 1) := by decide +kernel
theorem dX7_undo_23 : decode cX7_undo 23 = .ok (.getfield 19, 3) := by decide +kernel
theorem dX7_undo_26 : decode cX7_undo 26 = .ok (.invokestatic 284, 3) := by decide +kernel
theorem dX7_undo_29 : decode cX7_undo 29 = .ok (.aload_n 0, 1) := by decide +kernel
theorem dX7_undo_30 : decode cX7_undo 30 = .ok (.getfield 39, 3) := by decide +kernel
theorem dX7_undo_33 : decode cX7_undo 33 = .ok (.iconst 0, 1) := by decide +kernel
theorem dX7_undo_34 : decode cX7_undo 34 = .ok (.putfield 246, 3) := by decide +kernel
theorem dX7_undo_37 : decode cX7_undo 37 = .ok (.aload_n 0, 1) := by decide +kernel
theorem dX7_undo_38 : decode cX7_undo 38 = .ok (.invokevirtual 288, 3) := by decide +kernel
theorem dX7_undo_41 : decode cX7_undo 41 = .ok (.ireturn, 1) := by decide +kernel
theorem dX7_count_0 : decode cX7_count 0 = .ok (.iload_n 1, 1) := by decide +kernel
theorem dX7_count_1 : decode cX7_count 1 = .ok (.tableswitch 57 0 3 #[31, 36, 44, 52], 31) := by decide +kernel
theorem dX7_count_32 : decode cX7_count 32 = .ok (.aload_n 0, 1) := by decide +kernel
theorem dX7_count_33 : decode cX7_count 33 = .ok (.invokevirtual 288, 3) := by decide +kernel
theorem dX7_count_36 : decode cX7_count 36 = .ok (.ireturn, 1) := by decide +kernel
theorem dX7_count_37 : decode cX7_count 37 = .ok (.aload_n 0, 1) := by decide +kernel
theorem dX7_count_38 : decode cX7_count 38 = .ok (.getfield 39, 3) := by decide +kernel
theorem dX7_count_41 : decode cX7_count 41 = .ok (.getfield 246, 3) := by decide +kernel
theorem dX7_count_44 : decode cX7_count 44 = .ok (.ireturn, 1) := by decide +kernel
theorem dX7_count_45 : decode cX7_count 45 = .ok (.aload_n 0, 1) := by decide +kernel
theorem dX7_count_46 : decode cX7_count 46 = .ok (.getfield 32, 3) := by decide +kernel
theorem dX7_count_49 : decode cX7_count 49 = .ok (.getfield 238, 3) := by decide +kernel
theorem dX7_count_52 : decode cX7_count 52 = .ok (.ireturn, 1) := by decide +kernel
theorem dX7_count_53 : decode cX7_count 53 = .ok (.aload_n 0, 1) := by decide +kernel
theorem dX7_count_54 : decode cX7_count 54 = .ok (.invokevirtual 291, 3) := by decide +kernel
theorem dX7_count_57 : decode cX7_count 57 = .ok (.ireturn, 1) := by decide +kernel
theorem dX7_count_58 : decode cX7_count 58 = .ok (.bipush (-2), 2) := by decide +kernel
theorem dX7_count_60 : decode cX7_count 60 = .ok (.ireturn, 1) := by decide +kernel
theorem dX7_isWithin_0 : decode cX7_isWithin 0 = .ok (.iload_n 0, 1) := by decide +kernel
theorem dX7_isWithin_1 : decode cX7_isWithin 1 = .ok (.iload_n 1, 1) := by decide +kernel
theorem dX7_isWithin_2 : decode cX7_isWithin 2 = .ok (.if_icmp .lt 12, 3) := by decide +kernel
theorem dX7_isWithin_5 : decode cX7_isWithin 5 = .ok (.iload_n 0, 1) := by decide +kernel
theorem dX7_isWithin_6 : decode cX7_isWithin 6 = .ok (.iload_n 2, 1) := by decide +kernel
theorem dX7_isWithin_7 : decode cX7_isWithin 7 = .ok (.if_icmp .gt 7, 3) := by decide +kernel
theorem dX7_isWithin_10 : decode cX7_isWithin 10 = .ok (.iconst 1, 1) := by decide +kernel
theorem dX7_isWithin_11 : decode cX7_isWithin 11 = .ok (.goto 4, 3) := by decide +kernel
theorem dX7_isWithin_14 : decode cX7_isWithin 14 = .ok (.iconst 0, 1) := by decide +kernel
theorem dX7_isWithin_15 : decode cX7_isWithin 15 = .ok (.ireturn, 1) := by decide +kernel
theorem dX7_baseAt_0 : decode cX7_baseAt 0 = .ok (.iload_n 1, 1) := by decide +kernel
theorem dX7_baseAt_1 : decode cX7_baseAt 1 = .ok (.iconst 0, 1) := by decide +kernel
theorem dX7_baseAt_2 : decode cX7_baseAt 2 = .ok (.iconst 2, 1) := by decide +kernel
theorem dX7_baseAt_3 : decode cX7_baseAt 3 = .ok (.invokestatic 102, 3) := by decide +kernel
theorem dX7_baseAt_6 : decode cX7_baseAt 6 = .ok (.ifCond .eq 12, 3) := by decide +kernel
theorem dX7_baseAt_9 : decode cX7_baseAt 9 = .ok (.aload_n 0, 1) := by decide +kernel
theorem dX7_baseAt_10 : decode cX7_baseAt 10 = .ok (.getfield 13, 3) := by decide +kernel
theorem dX7_baseAt_13 : decode cX7_baseAt 13 = .ok (.iload_n 1, 1) := by decide +kernel
theorem dX7_baseAt_14 : decode cX7_baseAt 14 = .ok (.aaload, 1) := by decide +kernel
theorem dX7_baseAt_15 : decode cX7_baseAt 15 = .ok (.goto 4, 3) := by decide +kernel
theorem dX7_baseAt_18 : decode cX7_baseAt 18 = .ok (.aconst_null, 1) := by decide +kernel
theorem dX7_baseAt_19 : decode cX7_baseAt 19 = .ok (.areturn, 1) := by decide +kernel
theorem dX7_reelAt_0 : decode cX7_reelAt 0 = .ok (.iload_n 1, 1) := by decide +kernel
theorem dX7_reelAt_1 : decode cX7_reelAt 1 = .ok (.iconst 0, 1) := by decide +kernel
theorem dX7_reelAt_2 : decode cX7_reelAt 2 = .ok (.iconst 5, 1) := by decide +kernel
theorem dX7_reelAt_3 : decode cX7_reelAt 3 = .ok (.invokestatic 102, 3) := by decide +kernel
theorem dX7_reelAt_6 : decode cX7_reelAt 6 = .ok (.ifCond .eq 12, 3) := by decide +kernel
theorem dX7_reelAt_9 : decode cX7_reelAt 9 = .ok (.aload_n 0, 1) := by decide +kernel
theorem dX7_reelAt_10 : decode cX7_reelAt 10 = .ok (.getfield 19, 3) := by decide +kernel
theorem dX7_reelAt_13 : decode cX7_reelAt 13 = .ok (.iload_n 1, 1) := by decide +kernel
theorem dX7_reelAt_14 : decode cX7_reelAt 14 = .ok (.aaload, 1) := by decide +kernel
theorem dX7_reelAt_15 : decode cX7_reelAt 15 = .ok (.goto 4, 3) := by decide +kernel
theorem dX7_reelAt_18 : decode cX7_reelAt 18 = .ok (.aconst_null, 1) := by decide +kernel
theorem dX7_reelAt_19 : decode cX7_reelAt 19 = .ok (.areturn, 1) := by decide +kernel
theorem dX7_rowAt_0 : decode cX7_rowAt 0 = .ok (.iload_n 1, 1) := by decide +kernel
theorem dX7_rowAt_1 : decode cX7_rowAt 1 = .ok (.iconst 0, 1) := by decide +kernel
theorem dX7_rowAt_2 : decode cX7_rowAt 2 = .ok (.iconst 2, 1) := by decide +kernel
theorem dX7_rowAt_3 : decode cX7_rowAt 3 = .ok (.invokestatic 102, 3) := by decide +kernel
theorem dX7_rowAt_6 : decode cX7_rowAt 6 = .ok (.ifCond .eq 12, 3) := by decide +kernel
theorem dX7_rowAt_9 : decode cX7_rowAt 9 = .ok (.aload_n 0, 1) := by decide +kernel
theorem dX7_rowAt_10 : decode cX7_rowAt 10 = .ok (.getfield 25, 3) := by decide +kernel
theorem dX7_rowAt_13 : decode cX7_rowAt 13 = .ok (.iload_n 1, 1) := by decide +kernel
theorem dX7_rowAt_14 : decode cX7_rowAt 14 = .ok (.aaload, 1) := by decide +kernel
theorem dX7_rowAt_15 : decode cX7_rowAt 15 = .ok (.goto 4, 3) := by decide +kernel
theorem dX7_rowAt_18 : decode cX7_rowAt 18 = .ok (.aconst_null, 1) := by decide +kernel
theorem dX7_rowAt_19 : decode cX7_rowAt 19 = .ok (.areturn, 1) := by decide +kernel
theorem dX7_isUnder_0 : decode cX7_isUnder 0 = .ok (.iload_n 1, 1) := by decide +kernel
theorem dX7_isUnder_1 : decode cX7_isUnder 1 = .ok (.ifCond .eq 17, 3) := by decide +kernel
theorem dX7_isUnder_4 : decode cX7_isUnder 4 = .ok (.iload_n 0, 1) := by decide +kernel
theorem dX7_isUnder_5 : decode cX7_isUnder 5 = .ok (.iload_n 1, 1) := by decide +kernel
theorem dX7_isUnder_6 : decode cX7_isUnder 6 = .ok (.if_icmp .eq 12, 3) := by decide +kernel
theorem dX7_isUnder_9 : decode cX7_isUnder 9 = .ok (.iload_n 1, 1) := by decide +kernel
theorem dX7_isUnder_10 : decode cX7_isUnder 10 = .ok (.iconst 1, 1) := by decide +kernel
theorem dX7_isUnder_11 : decode cX7_isUnder 11 = .ok (.if_icmp .ne 11, 3) := by decide +kernel
theorem dX7_isUnder_14 : decode cX7_isUnder 14 = .ok (.iload_n 0, 1) := by decide +kernel
theorem dX7_isUnder_15 : decode cX7_isUnder 15 = .ok (.ifCond .eq 7, 3) := by decide +kernel
theorem dX7_isUnder_18 : decode cX7_isUnder 18 = .ok (.iconst 1, 1) := by decide +kernel
theorem dX7_isUnder_19 : decode cX7_isUnder 19 = .ok (.goto 4, 3) := by decide +kernel
theorem dX7_isUnder_22 : decode cX7_isUnder 22 = .ok (.iconst 0, 1) := by decide +kernel
theorem dX7_isUnder_23 : decode cX7_isUnder 23 = .ok (.ireturn, 1) := by decide +kernel
theorem dX7_fillReel_0 : decode cX7_fillReel 0 = .ok (.aload_n 0, 1) := by decide +kernel
theorem dX7_fillReel_1 : decode cX7_fillReel 1 = .ok (.iload_n 1, 1) := by decide +kernel
theorem dX7_fillReel_2 : decode cX7_fillReel 2 = .ok (.invokevirtual 87, 3) := by decide +kernel
theorem dX7_fillReel_5 : decode cX7_fillReel 5 = .ok (.astore 4, 2) := by decide +kernel
theorem dX7_fillReel_7 : decode cX7_fillReel 7 = .ok (.aload 4, 2) := by decide +kernel
theorem dX7_fillReel_9 : decode cX7_fillReel 9 = .ok (.ifnonnull 6, 3) := by decide +kernel
theorem dX7_fillReel_12 : decode cX7_fillReel 12 = .ok (.bipush (-2), 2) := by decide +kernel
theorem dX7_fillReel_14 : decode cX7_fillReel 14 = .ok (.ireturn, 1) := by decide +kernel
theorem dX7_fillReel_15 : decode cX7_fillReel 15 = .ok (.aload 4, 2) := by decide +kernel
theorem dX7_fillReel_17 : decode cX7_fillReel 17 = .ok (.aload_n 2, 1) := by decide +kernel
theorem dX7_fillReel_18 : decode cX7_fillReel 18 = .ok (.putfield 91, 3) := by decide +kernel
theorem dX7_fillReel_21 : decode cX7_fillReel 21 = .ok (.aload_n 3, 1) := by decide +kernel
theorem dX7_fillReel_22 : decode cX7_fillReel 22 = .ok (.aload 4, 2) := by decide +kernel
theorem dX7_fillReel_24 : decode cX7_fillReel 24 = .ok (.getfield 144, 3) := by decide +kernel
theorem dX7_fillReel_27 : decode cX7_fillReel 27 = .ok (.invokestatic 185, 3) := by decide +kernel
theorem dX7_fillReel_30 : decode cX7_fillReel 30 = .ok (.aload_n 0, 1) := by decide +kernel
theorem dX7_fillReel_31 : decode cX7_fillReel 31 = .ok (.getfield 39, 3) := by decide +kernel
theorem dX7_fillReel_34 : decode cX7_fillReel 34 = .ok (.iload_n 1, 1) := by decide +kernel
theorem dX7_fillReel_35 : decode cX7_fillReel 35 = .ok (.invokevirtual 294, 3) := by decide +kernel
theorem dX7_fillReel_38 : decode cX7_fillReel 38 = .ok (.aload 4, 2) := by decide +kernel
theorem dX7_fillReel_40 : decode cX7_fillReel 40 = .ok (.getfield 144, 3) := by decide +kernel
theorem dX7_fillReel_43 : decode cX7_fillReel 43 = .ok (.invokestatic 151, 3) := by decide +kernel
theorem dX7_fillReel_46 : decode cX7_fillReel 46 = .ok (.ireturn, 1) := by decide +kernel
theorem dX7_clearReel_0 : decode cX7_clearReel 0 = .ok (.aload_n 0, 1) := by decide +kernel
theorem dX7_clearReel_1 : decode cX7_clearReel 1 = .ok (.iload_n 1, 1) := by decide +kernel
theorem dX7_clearReel_2 : decode cX7_clearReel 2 = .ok (.invokevirtual 87, 3) := by decide +kernel
theorem dX7_clearReel_5 : decode cX7_clearReel 5 = .ok (.astore_n 2, 1) := by decide +kernel
theorem dX7_clearReel_6 : decode cX7_clearReel 6 = .ok (.aload_n 2, 1) := by decide +kernel
theorem dX7_clearReel_7 : decode cX7_clearReel 7 = .ok (.ifnull 16, 3) := by decide +kernel
theorem dX7_clearReel_10 : decode cX7_clearReel 10 = .ok (.aload_n 2, 1) := by decide +kernel
theorem dX7_clearReel_11 : decode cX7_clearReel 11 = .ok (.aconst_null, 1) := by decide +kernel
theorem dX7_clearReel_12 : decode cX7_clearReel 12 = .ok (.putfield 91, 3) := by decide +kernel
theorem dX7_clearReel_15 : decode cX7_clearReel 15 = .ok (.aload_n 0, 1) := by decide +kernel
theorem dX7_clearReel_16 : decode cX7_clearReel 16 = .ok (.getfield 39, 3) := by decide +kernel
theorem dX7_clearReel_19 : decode cX7_clearReel 19 = .ok (.iload_n 1, 1) := by decide +kernel
theorem dX7_clearReel_20 : decode cX7_clearReel 20 = .ok (.invokevirtual 294, 3) := by decide +kernel
theorem dX7_clearReel_23 : decode cX7_clearReel 23 = .ok (.return_, 1) := by decide +kernel
theorem dX7_exchange_0 : decode cX7_exchange 0 = .ok (.aload_n 0, 1) := by decide +kernel
theorem dX7_exchange_1 : decode cX7_exchange 1 = .ok (.iload_n 1, 1) := by decide +kernel
theorem dX7_exchange_2 : decode cX7_exchange 2 = .ok (.invokevirtual 87, 3) := by decide +kernel
theorem dX7_exchange_5 : decode cX7_exchange 5 = .ok (.astore 4, 2) := by decide +kernel
theorem dX7_exchange_7 : decode cX7_exchange 7 = .ok (.aload 4, 2) := by decide +kernel
theorem dX7_exchange_9 : decode cX7_exchange 9 = .ok (.ifnonnull 6, 3) := by decide +kernel
theorem dX7_exchange_12 : decode cX7_exchange 12 = .ok (.bipush (-2), 2) := by decide +kernel
theorem dX7_exchange_14 : decode cX7_exchange 14 = .ok (.ireturn, 1) := by decide +kernel
theorem dX7_exchange_15 : decode cX7_exchange 15 = .ok (.aload 4, 2) := by decide +kernel
theorem dX7_exchange_17 : decode cX7_exchange 17 = .ok (.getfield 91, 3) := by decide +kernel
theorem dX7_exchange_20 : decode cX7_exchange 20 = .ok (.astore 5, 2) := by decide +kernel
theorem dX7_exchange_22 : decode cX7_exchange 22 = .ok (.aload 5, 2) := by decide +kernel
theorem dX7_exchange_24 : decode cX7_exchange 24 = .ok (.ifnonnull 6, 3) := by decide +kernel
theorem dX7_exchange_27 : decode cX7_exchange 27 = .ok (.bipush (-11), 2) := by decide +kernel
theorem dX7_exchange_29 : decode cX7_exchange 29 = .ok (.ireturn, 1) := by decide +kernel
theorem dX7_exchange_30 : decode cX7_exchange 30 = .ok (.iload_n 2, 1) := by decide +kernel
theorem dX7_exchange_31 : decode cX7_exchange 31 = .ok (.iconst 0, 1) := by decide +kernel
theorem dX7_exchange_32 : decode cX7_exchange 32 = .ok (.aload 5, 2) := by decide +kernel
theorem dX7_exchange_34 : decode cX7_exchange 34 = .ok (.getfield 98, 3) := by decide +kernel
theorem dX7_exchange_37 : decode cX7_exchange 37 = .ok (.iconst 2, 1) := by decide +kernel
theorem dX7_exchange_38 : decode cX7_exchange 38 = .ok (.isub, 1) := by decide +kernel
theorem dX7_exchange_39 : decode cX7_exchange 39 = .ok (.invokestatic 102, 3) := by decide +kernel
theorem dX7_exchange_42 : decode cX7_exchange 42 = .ok (.ifCond .ne 6, 3) := by decide +kernel
theorem dX7_exchange_45 : decode cX7_exchange 45 = .ok (.bipush (-12), 2) := by decide +kernel
theorem dX7_exchange_47 : decode cX7_exchange 47 = .ok (.ireturn, 1) := by decide +kernel
theorem dX7_exchange_48 : decode cX7_exchange 48 = .ok (.aload 5, 2) := by decide +kernel
theorem dX7_exchange_50 : decode cX7_exchange 50 = .ok (.aload 4, 2) := by decide +kernel
theorem dX7_exchange_52 : decode cX7_exchange 52 = .ok (.getfield 144, 3) := by decide +kernel
theorem dX7_exchange_55 : decode cX7_exchange 55 = .ok (.iload_n 2, 1) := by decide +kernel
theorem dX7_exchange_56 : decode cX7_exchange 56 = .ok (.iload_n 3, 1) := by decide +kernel
theorem dX7_exchange_57 : decode cX7_exchange 57 = .ok (.invokevirtual 297, 3) := by decide +kernel
theorem dX7_exchange_60 : decode cX7_exchange 60 = .ok (.ifCond .ne 6, 3) := by decide +kernel
theorem dX7_exchange_63 : decode cX7_exchange 63 = .ok (.bipush (-3), 2) := by decide +kernel
theorem dX7_exchange_65 : decode cX7_exchange 65 = .ok (.ireturn, 1) := by decide +kernel
theorem dX7_exchange_66 : decode cX7_exchange 66 = .ok (.aload_n 0, 1) := by decide +kernel
theorem dX7_exchange_67 : decode cX7_exchange 67 = .ok (.getfield 39, 3) := by decide +kernel
theorem dX7_exchange_70 : decode cX7_exchange 70 = .ok (.iload_n 1, 1) := by decide +kernel
theorem dX7_exchange_71 : decode cX7_exchange 71 = .ok (.aload 4, 2) := by decide +kernel
theorem dX7_exchange_73 : decode cX7_exchange 73 = .ok (.getfield 144, 3) := by decide +kernel
theorem dX7_exchange_76 : decode cX7_exchange 76 = .ok (.invokevirtual 162, 3) := by decide +kernel
theorem dX7_exchange_79 : decode cX7_exchange 79 = .ok (.aload 5, 2) := by decide +kernel
theorem dX7_exchange_81 : decode cX7_exchange 81 = .ok (.aload 4, 2) := by decide +kernel
theorem dX7_exchange_83 : decode cX7_exchange 83 = .ok (.getfield 144, 3) := by decide +kernel
theorem dX7_exchange_86 : decode cX7_exchange 86 = .ok (.iload_n 2, 1) := by decide +kernel
theorem dX7_exchange_87 : decode cX7_exchange 87 = .ok (.iload_n 3, 1) := by decide +kernel
theorem dX7_exchange_88 : decode cX7_exchange 88 = .ok (.invokevirtual 301, 3) := by decide +kernel
theorem dX7_exchange_91 : decode cX7_exchange 91 = .ok (.iconst 1, 1) := by decide +kernel
theorem dX7_exchange_92 : decode cX7_exchange 92 = .ok (.ireturn, 1) := by decide +kernel
theorem dX7_turnTo_0 : decode cX7_turnTo 0 = .ok (.aload_n 0, 1) := by decide +kernel
theorem dX7_turnTo_1 : decode cX7_turnTo 1 = .ok (.getfield 39, 3) := by decide +kernel
theorem dX7_turnTo_4 : decode cX7_turnTo 4 = .ok (.iload_n 1, 1) := by decide +kernel
theorem dX7_turnTo_5 : decode cX7_turnTo 5 = .ok (.aload_n 3, 1) := by decide +kernel
theorem dX7_turnTo_6 : decode cX7_turnTo 6 = .ok (.invokevirtual 162, 3) := by decide +kernel
theorem dX7_turnTo_9 : decode cX7_turnTo 9 = .ok (.aload_n 2, 1) := by decide +kernel
theorem dX7_turnTo_10 : decode cX7_turnTo 10 = .ok (.aload_n 0, 1) := by decide +kernel
theorem dX7_turnTo_11 : decode cX7_turnTo 11 = .ok (.getfield 60, 3) := by decide +kernel
theorem dX7_turnTo_14 : decode cX7_turnTo 14 = .ok (.lload 4, 2) := by decide +kernel
theorem dX7_turnTo_16 : decode cX7_turnTo 16 = .ok (.invokevirtual 133, 3) := by decide +kernel
theorem dX7_turnTo_19 : decode cX7_turnTo 19 = .ok (.aload_n 3, 1) := by decide +kernel
theorem dX7_turnTo_20 : decode cX7_turnTo 20 = .ok (.aload_n 0, 1) := by decide +kernel
theorem dX7_turnTo_21 : decode cX7_turnTo 21 = .ok (.getfield 60, 3) := by decide +kernel
theorem dX7_turnTo_24 : decode cX7_turnTo 24 = .ok (.invokestatic 209, 3) := by decide +kernel
theorem dX7_turnTo_27 : decode cX7_turnTo 27 = .ok (.istore 6, 2) := by decide +kernel
theorem dX7_turnTo_29 : decode cX7_turnTo 29 = .ok (.aload_n 0, 1) := by decide +kernel
theorem dX7_turnTo_30 : decode cX7_turnTo 30 = .ok (.getfield 60, 3) := by decide +kernel
theorem dX7_turnTo_33 : decode cX7_turnTo 33 = .ok (.aload_n 3, 1) := by decide +kernel
theorem dX7_turnTo_34 : decode cX7_turnTo 34 = .ok (.invokestatic 185, 3) := by decide +kernel
theorem dX7_turnTo_37 : decode cX7_turnTo 37 = .ok (.iload 6, 2) := by decide +kernel
theorem dX7_turnTo_39 : decode cX7_turnTo 39 = .ok (.ireturn, 1) := by decide +kernel
theorem dX7_reckon_0 : decode cX7_reckon 0 = .ok (.iload 4, 2) := by decide +kernel
theorem dX7_reckon_2 : decode cX7_reckon 2 = .ok (.iconst 1, 1) := by decide +kernel
theorem dX7_reckon_3 : decode cX7_reckon 3 = .ok (.if_icmp .ne 7, 3) := by decide +kernel
theorem dX7_reckon_6 : decode cX7_reckon 6 = .ok (.lload_n 0, 1) := by decide +kernel
theorem dX7_reckon_7 : decode cX7_reckon 7 = .ok (.lload_n 2, 1) := by decide +kernel
theorem dX7_reckon_8 : decode cX7_reckon 8 = .ok (.lsub, 1) := by decide +kernel
theorem dX7_reckon_9 : decode cX7_reckon 9 = .ok (.lreturn, 1) := by decide +kernel
theorem dX7_reckon_10 : decode cX7_reckon 10 = .ok (.iload 4, 2) := by decide +kernel
theorem dX7_reckon_12 : decode cX7_reckon 12 = .ok (.iconst 2, 1) := by decide +kernel
theorem dX7_reckon_13 : decode cX7_reckon 13 = .ok (.if_icmp .ne 11, 3) := by decide +kernel
theorem dX7_reckon_16 : decode cX7_reckon 16 = .ok (.lload_n 0, 1) := by decide +kernel
theorem dX7_reckon_17 : decode cX7_reckon 17 = .ok (.lload_n 2, 1) := by decide +kernel
theorem dX7_reckon_18 : decode cX7_reckon 18 = .ok (.lload 5, 2) := by decide +kernel
theorem dX7_reckon_20 : decode cX7_reckon 20 = .ok (.invokestatic 305, 3) := by decide +kernel
theorem dX7_reckon_23 : decode cX7_reckon 23 = .ok (.lreturn, 1) := by decide +kernel
theorem dX7_reckon_24 : decode cX7_reckon 24 = .ok (.lload_n 2, 1) := by decide +kernel
theorem dX7_reckon_25 : decode cX7_reckon 25 = .ok (.lconst 0, 1) := by decide +kernel
theorem dX7_reckon_26 : decode cX7_reckon 26 = .ok (.lcmp, 1) := by decide +kernel
theorem dX7_reckon_27 : decode cX7_reckon 27 = .ok (.ifCond .ne 7, 3) := by decide +kernel
theorem dX7_reckon_30 : decode cX7_reckon 30 = .ok (.ldc2_w 117, 3) := by decide +kernel
theorem dX7_reckon_33 : decode cX7_reckon 33 = .ok (.lreturn, 1) := by decide +kernel
theorem dX7_reckon_34 : decode cX7_reckon 34 = .ok (.iload 4, 2) := by decide +kernel
theorem dX7_reckon_36 : decode cX7_reckon 36 = .ok (.iconst 3, 1) := by decide +kernel
theorem dX7_reckon_37 : decode cX7_reckon 37 = .ok (.if_icmp .ne 9, 3) := by decide +kernel
theorem dX7_reckon_40 : decode cX7_reckon 40 = .ok (.lload_n 0, 1) := by decide +kernel
theorem dX7_reckon_41 : decode cX7_reckon 41 = .ok (.lload_n 2, 1) := by decide +kernel
theorem dX7_reckon_42 : decode cX7_reckon 42 = .ok (.ldiv, 1) := by decide +kernel
theorem dX7_reckon_43 : decode cX7_reckon 43 = .ok (.goto 6, 3) := by decide +kernel
theorem dX7_reckon_46 : decode cX7_reckon 46 = .ok (.lload_n 0, 1) := by decide +kernel
theorem dX7_reckon_47 : decode cX7_reckon 47 = .ok (.lload_n 2, 1) := by decide +kernel
theorem dX7_reckon_48 : decode cX7_reckon 48 = .ok (.lrem, 1) := by decide +kernel
theorem dX7_reckon_49 : decode cX7_reckon 49 = .ok (.lreturn, 1) := by decide +kernel
theorem dX7_times_0 : decode cX7_times 0 = .ok (.lload_n 0, 1) := by decide +kernel
theorem dX7_times_1 : decode cX7_times 1 = .ok (.lconst 0, 1) := by decide +kernel
theorem dX7_times_2 : decode cX7_times 2 = .ok (.lcmp, 1) := by decide +kernel
theorem dX7_times_3 : decode cX7_times 3 = .ok (.ifCond .eq 9, 3) := by decide +kernel
theorem dX7_times_6 : decode cX7_times 6 = .ok (.lload_n 2, 1) := by decide +kernel
theorem dX7_times_7 : decode cX7_times 7 = .ok (.lconst 0, 1) := by decide +kernel
theorem dX7_times_8 : decode cX7_times 8 = .ok (.lcmp, 1) := by decide +kernel
theorem dX7_times_9 : decode cX7_times 9 = .ok (.ifCond .ne 5, 3) := by decide +kernel
theorem dX7_times_12 : decode cX7_times 12 = .ok (.lconst 0, 1) := by decide +kernel
theorem dX7_times_13 : decode cX7_times 13 = .ok (.lreturn, 1) := by decide +kernel
theorem dX7_times_14 : decode cX7_times 14 = .ok (.lload_n 0, 1) := by decide +kernel
theorem dX7_times_15 : decode cX7_times 15 = .ok (.lload 4, 2) := by decide +kernel
theorem dX7_times_17 : decode cX7_times 17 = .ok (.lload_n 2, 1) := by decide +kernel
theorem dX7_times_18 : decode cX7_times 18 = .ok (.ldiv, 1) := by decide +kernel
theorem dX7_times_19 : decode cX7_times 19 = .ok (.lcmp, 1) := by decide +kernel
theorem dX7_times_20 : decode cX7_times 20 = .ok (.ifCond .le 9, 3) := by decide +kernel
theorem dX7_times_23 : decode cX7_times 23 = .ok (.ldc2_w 117, 3) := by decide +kernel
theorem dX7_times_26 : decode cX7_times 26 = .ok (.goto 6, 3) := by decide +kernel
theorem dX7_times_29 : decode cX7_times 29 = .ok (.lload_n 0, 1) := by decide +kernel
theorem dX7_times_30 : decode cX7_times 30 = .ok (.lload_n 2, 1) := by decide +kernel
theorem dX7_times_31 : decode cX7_times 31 = .ok (.lmul, 1) := by decide +kernel
theorem dX7_times_32 : decode cX7_times 32 = .ok (.lreturn, 1) := by decide +kernel
theorem dX7_countReels_0 : decode cX7_countReels 0 = .ok (.iconst 0, 1) := by decide +kernel
theorem dX7_countReels_1 : decode cX7_countReels 1 = .ok (.istore_n 1, 1) := by decide +kernel
theorem dX7_countReels_2 : decode cX7_countReels 2 = .ok (.iconst 0, 1) := by decide +kernel
theorem dX7_countReels_3 : decode cX7_countReels 3 = .ok (.istore_n 2, 1) := by decide +kernel
theorem dX7_countReels_4 : decode cX7_countReels 4 = .ok (.iload_n 2, 1) := by decide +kernel
theorem dX7_countReels_5 : decode cX7_countReels 5 = .ok (.bipush 6, 2) := by decide +kernel
theorem dX7_countReels_7 : decode cX7_countReels 7 = .ok (.if_icmp .ge 29, 3) := by decide +kernel
theorem dX7_countReels_10 : decode cX7_countReels 10 = .ok (.aload_n 0, 1) := by decide +kernel
theorem dX7_countReels_11 : decode cX7_countReels 11 = .ok (.iload_n 2, 1) := by decide +kernel
theorem dX7_countReels_12 : decode cX7_countReels 12 = .ok (.invokevirtual 87, 3) := by decide +kernel
theorem dX7_countReels_15 : decode cX7_countReels 15 = .ok (.astore_n 3, 1) := by decide +kernel
theorem dX7_countReels_16 : decode cX7_countReels 16 = .ok (.aload_n 3, 1) := by decide +kernel
theorem dX7_countReels_17 : decode cX7_countReels 17 = .ok (.ifnull 13, 3) := by decide +kernel
theorem dX7_countReels_20 : decode cX7_countReels 20 = .ok (.aload_n 3, 1) := by decide +kernel
theorem dX7_countReels_21 : decode cX7_countReels 21 = .ok (.getfield 91, 3) := by decide +kernel
theorem dX7_countReels_24 : decode cX7_countReels 24 = .ok (.ifnull 6, 3) := by decide +kernel
theorem dX7_countReels_27 : decode cX7_countReels 27 = .ok (.iinc 1 1, 3) := by decide +kernel
theorem dX7_countReels_30 : decode cX7_countReels 30 = .ok (.iinc 2 1, 3) := by decide +kernel
theorem dX7_countReels_33 : decode cX7_countReels 33 = .ok (.goto (-29), 3) := by decide +kernel
theorem dX7_countReels_36 : decode cX7_countReels 36 = .ok (.iload_n 1, 1) := by decide +kernel
theorem dX7_countReels_37 : decode cX7_countReels 37 = .ok (.ireturn, 1) := by decide +kernel
theorem dX7_countRows_0 : decode cX7_countRows 0 = .ok (.iconst 0, 1) := by decide +kernel
theorem dX7_countRows_1 : decode cX7_countRows 1 = .ok (.istore_n 1, 1) := by decide +kernel
theorem dX7_countRows_2 : decode cX7_countRows 2 = .ok (.iconst 0, 1) := by decide +kernel
theorem dX7_countRows_3 : decode cX7_countRows 3 = .ok (.istore_n 2, 1) := by decide +kernel
theorem dX7_countRows_4 : decode cX7_countRows 4 = .ok (.iload_n 2, 1) := by decide +kernel
theorem dX7_countRows_5 : decode cX7_countRows 5 = .ok (.iconst 3, 1) := by decide +kernel
theorem dX7_countRows_6 : decode cX7_countRows 6 = .ok (.if_icmp .ge 29, 3) := by decide +kernel
theorem dX7_countRows_9 : decode cX7_countRows 9 = .ok (.aload_n 0, 1) := by decide +kernel
theorem dX7_countRows_10 : decode cX7_countRows 10 = .ok (.iload_n 2, 1) := by decide +kernel
theorem dX7_countRows_11 : decode cX7_countRows 11 = .ok (.invokevirtual 256, 3) := by decide +kernel
theorem dX7_countRows_14 : decode cX7_countRows 14 = .ok (.astore_n 3, 1) := by decide +kernel
theorem dX7_countRows_15 : decode cX7_countRows 15 = .ok (.aload_n 3, 1) := by decide +kernel
theorem dX7_countRows_16 : decode cX7_countRows 16 = .ok (.ifnull 13, 3) := by decide +kernel
theorem dX7_countRows_19 : decode cX7_countRows 19 = .ok (.aload_n 3, 1) := by decide +kernel
theorem dX7_countRows_20 : decode cX7_countRows 20 = .ok (.invokevirtual 263, 3) := by decide +kernel
theorem dX7_countRows_23 : decode cX7_countRows 23 = .ok (.ifCond .ne 6, 3) := by decide +kernel
theorem dX7_countRows_26 : decode cX7_countRows 26 = .ok (.iinc 1 1, 3) := by decide +kernel
theorem dX7_countRows_29 : decode cX7_countRows 29 = .ok (.iinc 2 1, 3) := by decide +kernel
theorem dX7_countRows_32 : decode cX7_countRows 32 = .ok (.goto (-28), 3) := by decide +kernel
theorem dX7_countRows_35 : decode cX7_countRows 35 = .ok (.iload_n 1, 1) := by decide +kernel
theorem dX7_countRows_36 : decode cX7_countRows 36 = .ok (.ireturn, 1) := by decide +kernel
theorem dX7_carryState_0 : decode cX7_carryState 0 = .ok (.iconst 0, 1) := by decide +kernel
theorem dX7_carryState_1 : decode cX7_carryState 1 = .ok (.istore 4, 2) := by decide +kernel
theorem dX7_carryState_3 : decode cX7_carryState 3 = .ok (.iload 4, 2) := by decide +kernel
