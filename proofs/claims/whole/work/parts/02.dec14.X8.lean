theorem dX8_of_35 : decode cX8_of 35 = .ok (.iconst 1, 1) := by decide +kernel
theorem dX8_of_36 : decode cX8_of 36 = .ok (.if_icmp .ne 12, 3) := by decide +kernel
theorem dX8_of_39 : decode cX8_of 39 = .ok (.aload_n 0, 1) := by decide +kernel
theorem dX8_of_40 : decode cX8_of 40 = .ok (.getfield 15, 3) := by decide +kernel
theorem dX8_of_43 : decode cX8_of 43 = .ok (.iload_n 1, 1) := by decide +kernel
theorem dX8_of_44 : decode cX8_of 44 = .ok (.iaload, 1) := by decide +kernel
theorem dX8_of_45 : decode cX8_of 45 = .ok (.goto 9, 3) := by decide +kernel
theorem dX8_of_48 : decode cX8_of 48 = .ok (.aload_n 0, 1) := by decide +kernel
theorem dX8_of_49 : decode cX8_of 49 = .ok (.getfield 18, 3) := by decide +kernel
theorem dX8_of_52 : decode cX8_of 52 = .ok (.iload_n 1, 1) := by decide +kernel
theorem dX8_of_53 : decode cX8_of 53 = .ok (.iaload, 1) := by decide +kernel
theorem dX8_of_54 : decode cX8_of 54 = .ok (.ireturn, 1) := by decide +kernel
theorem dX8_worth__0 : decode cX8_worth_ 0 = .ok (.iload_n 1, 1) := by decide +kernel
theorem dX8_worth__1 : decode cX8_worth_ 1 = .ok (.invokestatic 114, 3) := by decide +kernel
theorem dX8_worth__4 : decode cX8_worth_ 4 = .ok (.ifCond .eq 31, 3) := by decide +kernel
theorem dX8_worth__7 : decode cX8_worth_ 7 = .ok (.iload_n 2, 1) := by decide +kernel
theorem dX8_worth__8 : decode cX8_worth_ 8 = .ok (.i2l, 1) := by decide +kernel
theorem dX8_worth__9 : decode cX8_worth_ 9 = .ok (.lconst 0, 1) := by decide +kernel
theorem dX8_worth__10 : decode cX8_worth_ 10 = .ok (.aload_n 0, 1) := by decide +kernel
theorem dX8_worth__11 : decode cX8_worth_ 11 = .ok (.getfield 18, 3) := by decide +kernel
theorem dX8_worth__14 : decode cX8_worth_ 14 = .ok (.iload_n 1, 1) := by decide +kernel
theorem dX8_worth__15 : decode cX8_worth_ 15 = .ok (.iaload, 1) := by decide +kernel
theorem dX8_worth__16 : decode cX8_worth_ 16 = .ok (.iconst 1, 1) := by decide +kernel
theorem dX8_worth__17 : decode cX8_worth_ 17 = .ok (.isub, 1) := by decide +kernel
theorem dX8_worth__18 : decode cX8_worth_ 18 = .ok (.i2l, 1) := by decide +kernel
theorem dX8_worth__19 : decode cX8_worth_ 19 = .ok (.invokestatic 104, 3) := by decide +kernel
theorem dX8_worth__22 : decode cX8_worth_ 22 = .ok (.ifCond .eq 13, 3) := by decide +kernel
theorem dX8_worth__25 : decode cX8_worth_ 25 = .ok (.iload_n 3, 1) := by decide +kernel
theorem dX8_worth__26 : decode cX8_worth_ 26 = .ok (.i2l, 1) := by decide +kernel
theorem dX8_worth__27 : decode cX8_worth_ 27 = .ok (.lconst 0, 1) := by decide +kernel
theorem dX8_worth__28 : decode cX8_worth_ 28 = .ok (.lconst 1, 1) := by decide +kernel
theorem dX8_worth__29 : decode cX8_worth_ 29 = .ok (.invokestatic 104, 3) := by decide +kernel
theorem dX8_worth__32 : decode cX8_worth_ 32 = .ok (.ifCond .ne 7, 3) := by decide +kernel
theorem dX8_worth__35 : decode cX8_worth_ 35 = .ok (.ldc2_w 127, 3) := by decide +kernel
theorem dX8_worth__38 : decode cX8_worth_ 38 = .ok (.lreturn, 1) := by decide +kernel
theorem dX8_worth__39 : decode cX8_worth_ 39 = .ok (.iload_n 3, 1) := by decide +kernel
theorem dX8_worth__40 : decode cX8_worth_ 40 = .ok (.ifCond .ne 12, 3) := by decide +kernel
theorem dX8_worth__43 : decode cX8_worth_ 43 = .ok (.aload_n 0, 1) := by decide +kernel
theorem dX8_worth__44 : decode cX8_worth_ 44 = .ok (.iload_n 1, 1) := by decide +kernel
theorem dX8_worth__45 : decode cX8_worth_ 45 = .ok (.iload_n 2, 1) := by decide +kernel
theorem dX8_worth__46 : decode cX8_worth_ 46 = .ok (.invokevirtual 129, 3) := by decide +kernel
theorem dX8_worth__49 : decode cX8_worth_ 49 = .ok (.goto 10, 3) := by decide +kernel
theorem dX8_worth__52 : decode cX8_worth_ 52 = .ok (.aload_n 0, 1) := by decide +kernel
theorem dX8_worth__53 : decode cX8_worth_ 53 = .ok (.iload_n 1, 1) := by decide +kernel
theorem dX8_worth__54 : decode cX8_worth_ 54 = .ok (.iload_n 2, 1) := by decide +kernel
theorem dX8_worth__55 : decode cX8_worth_ 55 = .ok (.invokevirtual 110, 3) := by decide +kernel
theorem dX8_worth__58 : decode cX8_worth_ 58 = .ok (.i2l, 1) := by decide +kernel
theorem dX8_worth__59 : decode cX8_worth_ 59 = .ok (.lreturn, 1) := by decide +kernel
theorem dX8_top_0 : decode cX8_top 0 = .ok (.iload_n 1, 1) := by decide +kernel
theorem dX8_top_1 : decode cX8_top 1 = .ok (.invokestatic 114, 3) := by decide +kernel
theorem dX8_top_4 : decode cX8_top 4 = .ok (.ifCond .eq 12, 3) := by decide +kernel
theorem dX8_top_7 : decode cX8_top 7 = .ok (.aload_n 0, 1) := by decide +kernel
theorem dX8_top_8 : decode cX8_top 8 = .ok (.getfield 25, 3) := by decide +kernel
theorem dX8_top_11 : decode cX8_top 11 = .ok (.iload_n 1, 1) := by decide +kernel
theorem dX8_top_12 : decode cX8_top 12 = .ok (.laload, 1) := by decide +kernel
theorem dX8_top_13 : decode cX8_top 13 = .ok (.goto 6, 3) := by decide +kernel
theorem dX8_top_16 : decode cX8_top 16 = .ok (.ldc2_w 127, 3) := by decide +kernel
theorem dX8_top_19 : decode cX8_top 19 = .ok (.lreturn, 1) := by decide +kernel
theorem dX8_taken_0 : decode cX8_taken 0 = .ok (.iload_n 1, 1) := by decide +kernel
theorem dX8_taken_1 : decode cX8_taken 1 = .ok (.invokestatic 114, 3) := by decide +kernel
theorem dX8_taken_4 : decode cX8_taken 4 = .ok (.ifCond .eq 15, 3) := by decide +kernel
theorem dX8_taken_7 : decode cX8_taken 7 = .ok (.iload_n 2, 1) := by decide +kernel
theorem dX8_taken_8 : decode cX8_taken 8 = .ok (.i2l, 1) := by decide +kernel
theorem dX8_taken_9 : decode cX8_taken 9 = .ok (.lconst 0, 1) := by decide +kernel
theorem dX8_taken_10 : decode cX8_taken 10 = .ok (.ldc2_w 133, 3) := by decide +kernel
theorem dX8_taken_13 : decode cX8_taken 13 = .ok (.invokestatic 104, 3) := by decide +kernel
theorem dX8_taken_16 : decode cX8_taken 16 = .ok (.ifCond .ne 6, 3) := by decide +kernel
theorem dX8_taken_19 : decode cX8_taken 19 = .ok (.bipush (-2), 2) := by decide +kernel
theorem dX8_taken_21 : decode cX8_taken 21 = .ok (.ireturn, 1) := by decide +kernel
theorem dX8_taken_22 : decode cX8_taken 22 = .ok (.aload_n 0, 1) := by decide +kernel
theorem dX8_taken_23 : decode cX8_taken 23 = .ok (.iload_n 1, 1) := by decide +kernel
theorem dX8_taken_24 : decode cX8_taken 24 = .ok (.invokevirtual 123, 3) := by decide +kernel
theorem dX8_taken_27 : decode cX8_taken 27 = .ok (.istore_n 3, 1) := by decide +kernel
theorem dX8_taken_28 : decode cX8_taken 28 = .ok (.iload_n 2, 1) := by decide +kernel
theorem dX8_taken_29 : decode cX8_taken 29 = .ok (.ifCond .eq 17, 3) := by decide +kernel
theorem dX8_taken_32 : decode cX8_taken 32 = .ok (.iload_n 2, 1) := by decide +kernel
theorem dX8_taken_33 : decode cX8_taken 33 = .ok (.iload_n 3, 1) := by decide +kernel
theorem dX8_taken_34 : decode cX8_taken 34 = .ok (.if_icmp .eq 12, 3) := by decide +kernel
theorem dX8_taken_37 : decode cX8_taken 37 = .ok (.iload_n 2, 1) := by decide +kernel
theorem dX8_taken_38 : decode cX8_taken 38 = .ok (.iconst 1, 1) := by decide +kernel
theorem dX8_taken_39 : decode cX8_taken 39 = .ok (.if_icmp .ne 11, 3) := by decide +kernel
theorem dX8_taken_42 : decode cX8_taken 42 = .ok (.iload_n 3, 1) := by decide +kernel
theorem dX8_taken_43 : decode cX8_taken 43 = .ok (.ifCond .le 7, 3) := by decide +kernel
theorem dX8_taken_46 : decode cX8_taken 46 = .ok (.iload_n 3, 1) := by decide +kernel
theorem dX8_taken_47 : decode cX8_taken 47 = .ok (.goto 5, 3) := by decide +kernel
theorem dX8_taken_50 : decode cX8_taken 50 = .ok (.bipush (-13), 2) := by decide +kernel
theorem dX8_taken_52 : decode cX8_taken 52 = .ok (.ireturn, 1) := by decide +kernel
theorem dX8_isReel_0 : decode cX8_isReel 0 = .ok (.iload_n 0, 1) := by decide +kernel
theorem dX8_isReel_1 : decode cX8_isReel 1 = .ok (.i2l, 1) := by decide +kernel
theorem dX8_isReel_2 : decode cX8_isReel 2 = .ok (.lconst 0, 1) := by decide +kernel
theorem dX8_isReel_3 : decode cX8_isReel 3 = .ok (.ldc2_w 135, 3) := by decide +kernel
theorem dX8_isReel_6 : decode cX8_isReel 6 = .ok (.invokestatic 104, 3) := by decide +kernel
theorem dX8_isReel_9 : decode cX8_isReel 9 = .ok (.ireturn, 1) := by decide +kernel
theorem dX8_isEmpty_0 : decode cX8_isEmpty 0 = .ok (.aload_n 0, 1) := by decide +kernel
theorem dX8_isEmpty_1 : decode cX8_isEmpty 1 = .ok (.getfield 28, 3) := by decide +kernel
theorem dX8_isEmpty_4 : decode cX8_isEmpty 4 = .ok (.iload_n 1, 1) := by decide +kernel
theorem dX8_isEmpty_5 : decode cX8_isEmpty 5 = .ok (.iaload, 1) := by decide +kernel
theorem dX8_isEmpty_6 : decode cX8_isEmpty 6 = .ok (.iconst (-1), 1) := by decide +kernel
theorem dX8_isEmpty_7 : decode cX8_isEmpty 7 = .ok (.if_icmp .ne 7, 3) := by decide +kernel
theorem dX8_isEmpty_10 : decode cX8_isEmpty 10 = .ok (.iconst 1, 1) := by decide +kernel
theorem dX8_isEmpty_11 : decode cX8_isEmpty 11 = .ok (.goto 4, 3) := by decide +kernel
theorem dX8_isEmpty_14 : decode cX8_isEmpty 14 = .ok (.iconst 0, 1) := by decide +kernel
theorem dX8_isEmpty_15 : decode cX8_isEmpty 15 = .ok (.ireturn, 1) := by decide +kernel
theorem dX8_high_0 : decode cX8_high 0 = .ok (.aload_n 0, 1) := by decide +kernel
theorem dX8_high_1 : decode cX8_high 1 = .ok (.getfield 18, 3) := by decide +kernel
theorem dX8_high_4 : decode cX8_high 4 = .ok (.aload_n 0, 1) := by decide +kernel
theorem dX8_high_5 : decode cX8_high 5 = .ok (.getfield 28, 3) := by decide +kernel
theorem dX8_high_8 : decode cX8_high 8 = .ok (.iload_n 1, 1) := by decide +kernel
theorem dX8_high_9 : decode cX8_high 9 = .ok (.iaload, 1) := by decide +kernel
theorem dX8_high_10 : decode cX8_high 10 = .ok (.iaload, 1) := by decide +kernel
theorem dX8_high_11 : decode cX8_high 11 = .ok (.ireturn, 1) := by decide +kernel
theorem dX8_digitAt_0 : decode cX8_digitAt 0 = .ok (.aload_n 0, 1) := by decide +kernel
theorem dX8_digitAt_1 : decode cX8_digitAt 1 = .ok (.getfield 31, 3) := by decide +kernel
theorem dX8_digitAt_4 : decode cX8_digitAt 4 = .ok (.bipush 50, 2) := by decide +kernel
theorem dX8_digitAt_6 : decode cX8_digitAt 6 = .ok (.iload_n 1, 1) := by decide +kernel
theorem dX8_digitAt_7 : decode cX8_digitAt 7 = .ok (.imul, 1) := by decide +kernel
theorem dX8_digitAt_8 : decode cX8_digitAt 8 = .ok (.iload_n 2, 1) := by decide +kernel
theorem dX8_digitAt_9 : decode cX8_digitAt 9 = .ok (.iadd, 1) := by decide +kernel
theorem dX8_digitAt_10 : decode cX8_digitAt 10 = .ok (.iaload, 1) := by decide +kernel
theorem dX8_digitAt_11 : decode cX8_digitAt 11 = .ok (.ireturn, 1) := by decide +kernel
theorem dX8_valueOf_0 : decode cX8_valueOf 0 = .ok (.lconst 0, 1) := by decide +kernel
theorem dX8_valueOf_1 : decode cX8_valueOf 1 = .ok (.lstore_n 2, 1) := by decide +kernel
theorem dX8_valueOf_2 : decode cX8_valueOf 2 = .ok (.iconst 0, 1) := by decide +kernel
theorem dX8_valueOf_3 : decode cX8_valueOf 3 = .ok (.istore 4, 2) := by decide +kernel
theorem dX8_valueOf_5 : decode cX8_valueOf 5 = .ok (.iload 4, 2) := by decide +kernel
theorem dX8_valueOf_7 : decode cX8_valueOf 7 = .ok (.aload_n 0, 1) := by decide +kernel
theorem dX8_valueOf_8 : decode cX8_valueOf 8 = .ok (.iload_n 1, 1) := by decide +kernel
theorem dX8_valueOf_9 : decode cX8_valueOf 9 = .ok (.invokevirtual 137, 3) := by decide +kernel
theorem dX8_valueOf_12 : decode cX8_valueOf 12 = .ok (.if_icmp .ge 33, 3) := by decide +kernel
theorem dX8_valueOf_15 : decode cX8_valueOf 15 = .ok (.lload_n 2, 1) := by decide +kernel
theorem dX8_valueOf_16 : decode cX8_valueOf 16 = .ok (.aload_n 0, 1) := by decide +kernel
theorem dX8_valueOf_17 : decode cX8_valueOf 17 = .ok (.iload_n 1, 1) := by decide +kernel
theorem dX8_valueOf_18 : decode cX8_valueOf 18 = .ok (.iload 4, 2) := by decide +kernel
theorem dX8_valueOf_20 : decode cX8_valueOf 20 = .ok (.invokevirtual 140, 3) := by decide +kernel
theorem dX8_valueOf_23 : decode cX8_valueOf 23 = .ok (.i2l, 1) := by decide +kernel
theorem dX8_valueOf_24 : decode cX8_valueOf 24 = .ok (.aload_n 0, 1) := by decide +kernel
theorem dX8_valueOf_25 : decode cX8_valueOf 25 = .ok (.aload_n 0, 1) := by decide +kernel
theorem dX8_valueOf_26 : decode cX8_valueOf 26 = .ok (.getfield 28, 3) := by decide +kernel
theorem dX8_valueOf_29 : decode cX8_valueOf 29 = .ok (.iload_n 1, 1) := by decide +kernel
theorem dX8_valueOf_30 : decode cX8_valueOf 30 = .ok (.iaload, 1) := by decide +kernel
theorem dX8_valueOf_31 : decode cX8_valueOf 31 = .ok (.iload 4, 2) := by decide +kernel
theorem dX8_valueOf_33 : decode cX8_valueOf 33 = .ok (.invokevirtual 129, 3) := by decide +kernel
theorem dX8_valueOf_36 : decode cX8_valueOf 36 = .ok (.lmul, 1) := by decide +kernel
theorem dX8_valueOf_37 : decode cX8_valueOf 37 = .ok (.ladd, 1) := by decide +kernel
theorem dX8_valueOf_38 : decode cX8_valueOf 38 = .ok (.lstore_n 2, 1) := by decide +kernel
theorem dX8_valueOf_39 : decode cX8_valueOf 39 = .ok (.iinc 4 1, 3) := by decide +kernel
theorem dX8_valueOf_42 : decode cX8_valueOf 42 = .ok (.goto (-37), 3) := by decide +kernel
theorem dX8_valueOf_45 : decode cX8_valueOf 45 = .ok (.lload_n 2, 1) := by decide +kernel
theorem dX8_valueOf_46 : decode cX8_valueOf 46 = .ok (.lreturn, 1) := by decide +kernel
theorem dX8_makes_0 : decode cX8_makes 0 = .ok (.lload_n 2, 1) := by decide +kernel
theorem dX8_makes_1 : decode cX8_makes 1 = .ok (.lstore 4, 2) := by decide +kernel
theorem dX8_makes_3 : decode cX8_makes 3 = .ok (.aload_n 0, 1) := by decide +kernel
theorem dX8_makes_4 : decode cX8_makes 4 = .ok (.getfield 18, 3) := by decide +kernel
theorem dX8_makes_7 : decode cX8_makes 7 = .ok (.iload_n 1, 1) := by decide +kernel
theorem dX8_makes_8 : decode cX8_makes 8 = .ok (.iaload, 1) := by decide +kernel
theorem dX8_makes_9 : decode cX8_makes 9 = .ok (.iconst 1, 1) := by decide +kernel
theorem dX8_makes_10 : decode cX8_makes 10 = .ok (.isub, 1) := by decide +kernel
theorem dX8_makes_11 : decode cX8_makes 11 = .ok (.istore 6, 2) := by decide +kernel
theorem dX8_makes_13 : decode cX8_makes 13 = .ok (.iload 6, 2) := by decide +kernel
theorem dX8_makes_15 : decode cX8_makes 15 = .ok (.ifCond .lt 39, 3) := by decide +kernel
theorem dX8_makes_18 : decode cX8_makes 18 = .ok (.aload_n 0, 1) := by decide +kernel
theorem dX8_makes_19 : decode cX8_makes 19 = .ok (.getfield 34, 3) := by decide +kernel
theorem dX8_makes_22 : decode cX8_makes 22 = .ok (.iload 6, 2) := by decide +kernel
theorem dX8_makes_24 : decode cX8_makes 24 = .ok (.lload 4, 2) := by decide +kernel
theorem dX8_makes_26 : decode cX8_makes 26 = .ok (.aload_n 0, 1) := by decide +kernel
theorem dX8_makes_27 : decode cX8_makes 27 = .ok (.iload_n 1, 1) := by decide +kernel
theorem dX8_makes_28 : decode cX8_makes 28 = .ok (.iload 6, 2) := by decide +kernel
theorem dX8_makes_30 : decode cX8_makes 30 = .ok (.invokevirtual 129, 3) := by decide +kernel
theorem dX8_makes_33 : decode cX8_makes 33 = .ok (.ldiv, 1) := by decide +kernel
theorem dX8_makes_34 : decode cX8_makes 34 = .ok (.l2i, 1) := by decide +kernel
theorem dX8_makes_35 : decode cX8_makes 35 = .ok (.iastore, 1) := by decide +kernel
theorem dX8_makes_36 : decode cX8_makes 36 = .ok (.lload 4, 2) := by decide +kernel
theorem dX8_makes_38 : decode cX8_makes 38 = .ok (.aload_n 0, 1) := by decide +kernel
theorem dX8_makes_39 : decode cX8_makes 39 = .ok (.iload_n 1, 1) := by decide +kernel
theorem dX8_makes_40 : decode cX8_makes 40 = .ok (.iload 6, 2) := by decide +kernel
theorem dX8_makes_42 : decode cX8_makes 42 = .ok (.invokevirtual 129, 3) := by decide +kernel
theorem dX8_makes_45 : decode cX8_makes 45 = .ok (.lrem, 1) := by decide +kernel
theorem dX8_makes_46 : decode cX8_makes 46 = .ok (.lstore 4, 2) := by decide +kernel
theorem dX8_makes_48 : decode cX8_makes 48 = .ok (.iinc 6 (-1), 3) := by decide +kernel
theorem dX8_makes_51 : decode cX8_makes 51 = .ok (.goto (-38), 3) := by decide +kernel
theorem dX8_makes_54 : decode cX8_makes 54 = .ok (.return_, 1) := by decide +kernel
theorem dX8_filled_0 : decode cX8_filled 0 = .ok (.iconst 0, 1) := by decide +kernel
theorem dX8_filled_1 : decode cX8_filled 1 = .ok (.istore_n 2, 1) := by decide +kernel
theorem dX8_filled_2 : decode cX8_filled 2 = .ok (.iconst 0, 1) := by decide +kernel
theorem dX8_filled_3 : decode cX8_filled 3 = .ok (.istore_n 3, 1) := by decide +kernel
theorem dX8_filled_4 : decode cX8_filled 4 = .ok (.iload_n 3, 1) := by decide +kernel
theorem dX8_filled_5 : decode cX8_filled 5 = .ok (.aload_n 0, 1) := by decide +kernel
theorem dX8_filled_6 : decode cX8_filled 6 = .ok (.iload_n 1, 1) := by decide +kernel
theorem dX8_filled_7 : decode cX8_filled 7 = .ok (.invokevirtual 137, 3) := by decide +kernel
theorem dX8_filled_10 : decode cX8_filled 10 = .ok (.if_icmp .ge 26, 3) := by decide +kernel
theorem dX8_filled_13 : decode cX8_filled 13 = .ok (.iload_n 2, 1) := by decide +kernel
theorem dX8_filled_14 : decode cX8_filled 14 = .ok (.aload_n 0, 1) := by decide +kernel
theorem dX8_filled_15 : decode cX8_filled 15 = .ok (.iload_n 1, 1) := by decide +kernel
theorem dX8_filled_16 : decode cX8_filled 16 = .ok (.iload_n 3, 1) := by decide +kernel
theorem dX8_filled_17 : decode cX8_filled 17 = .ok (.invokevirtual 140, 3) := by decide +kernel
theorem dX8_filled_20 : decode cX8_filled 20 = .ok (.ifCond .ne 7, 3) := by decide +kernel
theorem dX8_filled_23 : decode cX8_filled 23 = .ok (.iconst 0, 1) := by decide +kernel
theorem dX8_filled_24 : decode cX8_filled 24 = .ok (.goto 4, 3) := by decide +kernel
theorem dX8_filled_27 : decode cX8_filled 27 = .ok (.iconst 1, 1) := by decide +kernel
theorem dX8_filled_28 : decode cX8_filled 28 = .ok (.iadd, 1) := by decide +kernel
theorem dX8_filled_29 : decode cX8_filled 29 = .ok (.istore_n 2, 1) := by decide +kernel
theorem dX8_filled_30 : decode cX8_filled 30 = .ok (.iinc 3 1, 3) := by decide +kernel
theorem dX8_filled_33 : decode cX8_filled 33 = .ok (.goto (-29), 3) := by decide +kernel
theorem dX8_filled_36 : decode cX8_filled 36 = .ok (.iload_n 2, 1) := by decide +kernel
theorem dX8_filled_37 : decode cX8_filled 37 = .ok (.ireturn, 1) := by decide +kernel
theorem dX8_takes_0 : decode cX8_takes 0 = .ok (.iconst 0, 1) := by decide +kernel
theorem dX8_takes_1 : decode cX8_takes 1 = .ok (.istore_n 2, 1) := by decide +kernel
theorem dX8_takes_2 : decode cX8_takes 2 = .ok (.iconst 0, 1) := by decide +kernel
theorem dX8_takes_3 : decode cX8_takes 3 = .ok (.istore_n 3, 1) := by decide +kernel
theorem dX8_takes_4 : decode cX8_takes 4 = .ok (.iload_n 3, 1) := by decide +kernel
theorem dX8_takes_5 : decode cX8_takes 5 = .ok (.aload_n 0, 1) := by decide +kernel
theorem dX8_takes_6 : decode cX8_takes 6 = .ok (.iload_n 1, 1) := by decide +kernel
theorem dX8_takes_7 : decode cX8_takes 7 = .ok (.invokevirtual 137, 3) := by decide +kernel
theorem dX8_takes_10 : decode cX8_takes 10 = .ok (.if_icmp .ge 49, 3) := by decide +kernel
theorem dX8_takes_13 : decode cX8_takes 13 = .ok (.iload_n 2, 1) := by decide +kernel
theorem dX8_takes_14 : decode cX8_takes 14 = .ok (.aload_n 0, 1) := by decide +kernel
theorem dX8_takes_15 : decode cX8_takes 15 = .ok (.iload_n 1, 1) := by decide +kernel
theorem dX8_takes_16 : decode cX8_takes 16 = .ok (.iload_n 3, 1) := by decide +kernel
theorem dX8_takes_17 : decode cX8_takes 17 = .ok (.invokevirtual 140, 3) := by decide +kernel
theorem dX8_takes_20 : decode cX8_takes 20 = .ok (.aload_n 0, 1) := by decide +kernel
theorem dX8_takes_21 : decode cX8_takes 21 = .ok (.getfield 34, 3) := by decide +kernel
theorem dX8_takes_24 : decode cX8_takes 24 = .ok (.iload_n 3, 1) := by decide +kernel
theorem dX8_takes_25 : decode cX8_takes 25 = .ok (.iaload, 1) := by decide +kernel
theorem dX8_takes_26 : decode cX8_takes 26 = .ok (.if_icmp .ne 7, 3) := by decide +kernel
theorem dX8_takes_29 : decode cX8_takes 29 = .ok (.iconst 0, 1) := by decide +kernel
theorem dX8_takes_30 : decode cX8_takes 30 = .ok (.goto 4, 3) := by decide +kernel
theorem dX8_takes_33 : decode cX8_takes 33 = .ok (.iconst 1, 1) := by decide +kernel
theorem dX8_takes_34 : decode cX8_takes 34 = .ok (.iadd, 1) := by decide +kernel
theorem dX8_takes_35 : decode cX8_takes 35 = .ok (.istore_n 2, 1) := by decide +kernel
theorem dX8_takes_36 : decode cX8_takes 36 = .ok (.aload_n 0, 1) := by decide +kernel
theorem dX8_takes_37 : decode cX8_takes 37 = .ok (.getfield 31, 3) := by decide +kernel
theorem dX8_takes_40 : decode cX8_takes 40 = .ok (.bipush 50, 2) := by decide +kernel
theorem dX8_takes_42 : decode cX8_takes 42 = .ok (.iload_n 1, 1) := by decide +kernel
theorem dX8_takes_43 : decode cX8_takes 43 = .ok (.imul, 1) := by decide +kernel
theorem dX8_takes_44 : decode cX8_takes 44 = .ok (.iload_n 3, 1) := by decide +kernel
theorem dX8_takes_45 : decode cX8_takes 45 = .ok (.iadd, 1) := by decide +kernel
theorem dX8_takes_46 : decode cX8_takes 46 = .ok (.aload_n 0, 1) := by decide +kernel
theorem dX8_takes_47 : decode cX8_takes 47 = .ok (.getfield 34, 3) := by decide +kernel
theorem dX8_takes_50 : decode cX8_takes 50 = .ok (.iload_n 3, 1) := by decide +kernel
theorem dX8_takes_51 : decode cX8_takes 51 = .ok (.iaload, 1) := by decide +kernel
theorem dX8_takes_52 : decode cX8_takes 52 = .ok (.iastore, 1) := by decide +kernel
theorem dX8_takes_53 : decode cX8_takes 53 = .ok (.iinc 3 1, 3) := by decide +kernel
theorem dX8_takes_56 : decode cX8_takes 56 = .ok (.goto (-52), 3) := by decide +kernel
theorem dX8_takes_59 : decode cX8_takes 59 = .ok (.iload_n 2, 1) := by decide +kernel
theorem dX8_takes_60 : decode cX8_takes 60 = .ok (.ireturn, 1) := by decide +kernel
theorem dX8_holds_0 : decode cX8_holds 0 = .ok (.aload_n 0, 1) := by decide +kernel
theorem dX8_holds_1 : decode cX8_holds 1 = .ok (.getfield 28, 3) := by decide +kernel
theorem dX8_holds_4 : decode cX8_holds 4 = .ok (.iload_n 1, 1) := by decide +kernel
theorem dX8_holds_5 : decode cX8_holds 5 = .ok (.iload_n 2, 1) := by decide +kernel
theorem dX8_holds_6 : decode cX8_holds 6 = .ok (.iastore, 1) := by decide +kernel
theorem dX8_holds_7 : decode cX8_holds 7 = .ok (.aload_n 0, 1) := by decide +kernel
theorem dX8_holds_8 : decode cX8_holds 8 = .ok (.iload_n 1, 1) := by decide +kernel
theorem dX8_holds_9 : decode cX8_holds 9 = .ok (.invokevirtual 120, 3) := by decide +kernel
theorem dX8_holds_12 : decode cX8_holds 12 = .ok (.aload_n 0, 1) := by decide +kernel
theorem dX8_holds_13 : decode cX8_holds 13 = .ok (.iload_n 1, 1) := by decide +kernel
theorem dX8_holds_14 : decode cX8_holds 14 = .ok (.invokevirtual 143, 3) := by decide +kernel
theorem dX8_holds_17 : decode cX8_holds 17 = .ok (.pop, 1) := by decide +kernel
theorem dX8_holds_18 : decode cX8_holds 18 = .ok (.aload_n 0, 1) := by decide +kernel
theorem dX8_holds_19 : decode cX8_holds 19 = .ok (.iload_n 1, 1) := by decide +kernel
theorem dX8_holds_20 : decode cX8_holds 20 = .ok (.invokevirtual 146, 3) := by decide +kernel
theorem dX8_holds_23 : decode cX8_holds 23 = .ok (.ireturn, 1) := by decide +kernel
theorem dX8_isLegal_0 : decode cX8_isLegal 0 = .ok (.aload_n 0, 1) := by decide +kernel
theorem dX8_isLegal_1 : decode cX8_isLegal 1 = .ok (.getfield 28, 3) := by decide +kernel
theorem dX8_isLegal_4 : decode cX8_isLegal 4 = .ok (.iload_n 1, 1) := by decide +kernel
theorem dX8_isLegal_5 : decode cX8_isLegal 5 = .ok (.iaload, 1) := by decide +kernel
theorem dX8_isLegal_6 : decode cX8_isLegal 6 = .ok (.istore_n 2, 1) := by decide +kernel
theorem dX8_isLegal_7 : decode cX8_isLegal 7 = .ok (.iconst 0, 1) := by decide +kernel
theorem dX8_isLegal_8 : decode cX8_isLegal 8 = .ok (.istore_n 3, 1) := by decide +kernel
theorem dX8_isLegal_9 : decode cX8_isLegal 9 = .ok (.iload_n 3, 1) := by decide +kernel
theorem dX8_isLegal_10 : decode cX8_isLegal 10 = .ok (.aload_n 0, 1) := by decide +kernel
theorem dX8_isLegal_11 : decode cX8_isLegal 11 = .ok (.iload_n 1, 1) := by decide +kernel
theorem dX8_isLegal_12 : decode cX8_isLegal 12 = .ok (.invokevirtual 137, 3) := by decide +kernel
theorem dX8_isLegal_15 : decode cX8_isLegal 15 = .ok (.if_icmp .ge 56, 3) := by decide +kernel
theorem dX8_isLegal_18 : decode cX8_isLegal 18 = .ok (.aload_n 0, 1) := by decide +kernel
theorem dX8_isLegal_19 : decode cX8_isLegal 19 = .ok (.iload_n 1, 1) := by decide +kernel
theorem dX8_isLegal_20 : decode cX8_isLegal 20 = .ok (.iload_n 3, 1) := by decide +kernel
theorem dX8_isLegal_21 : decode cX8_isLegal 21 = .ok (.invokevirtual 140, 3) := by decide +kernel
theorem dX8_isLegal_24 : decode cX8_isLegal 24 = .ok (.istore 4, 2) := by decide +kernel
theorem dX8_isLegal_26 : decode cX8_isLegal 26 = .ok (.iload 4, 2) := by decide +kernel
theorem dX8_isLegal_28 : decode cX8_isLegal 28 = .ok (.aload_n 0, 1) := by decide +kernel
theorem dX8_isLegal_29 : decode cX8_isLegal 29 = .ok (.iload_n 2, 1) := by decide +kernel
theorem dX8_isLegal_30 : decode cX8_isLegal 30 = .ok (.iload_n 3, 1) := by decide +kernel
theorem dX8_isLegal_31 : decode cX8_isLegal 31 = .ok (.invokevirtual 110, 3) := by decide +kernel
theorem dX8_isLegal_34 : decode cX8_isLegal 34 = .ok (.if_icmp .gt 29, 3) := by decide +kernel
theorem dX8_isLegal_37 : decode cX8_isLegal 37 = .ok (.iload 4, 2) := by decide +kernel
theorem dX8_isLegal_39 : decode cX8_isLegal 39 = .ok (.aload_n 0, 1) := by decide +kernel
theorem dX8_isLegal_40 : decode cX8_isLegal 40 = .ok (.iload_n 2, 1) := by decide +kernel
theorem dX8_isLegal_41 : decode cX8_isLegal 41 = .ok (.iload_n 3, 1) := by decide +kernel
theorem dX8_isLegal_42 : decode cX8_isLegal 42 = .ok (.invokevirtual 110, 3) := by decide +kernel
theorem dX8_isLegal_45 : decode cX8_isLegal 45 = .ok (.if_icmp .ne 20, 3) := by decide +kernel
theorem dX8_isLegal_48 : decode cX8_isLegal 48 = .ok (.iload_n 3, 1) := by decide +kernel
theorem dX8_isLegal_49 : decode cX8_isLegal 49 = .ok (.ifCond .le 16, 3) := by decide +kernel
theorem dX8_isLegal_52 : decode cX8_isLegal 52 = .ok (.aload_n 0, 1) := by decide +kernel
theorem dX8_isLegal_53 : decode cX8_isLegal 53 = .ok (.iload_n 1, 1) := by decide +kernel
theorem dX8_isLegal_54 : decode cX8_isLegal 54 = .ok (.iload_n 3, 1) := by decide +kernel
theorem dX8_isLegal_55 : decode cX8_isLegal 55 = .ok (.iconst 1, 1) := by decide +kernel
theorem dX8_isLegal_56 : decode cX8_isLegal 56 = .ok (.isub, 1) := by decide +kernel
theorem dX8_isLegal_57 : decode cX8_isLegal 57 = .ok (.invokevirtual 140, 3) := by decide +kernel
theorem dX8_isLegal_60 : decode cX8_isLegal 60 = .ok (.ifCond .le 5, 3) := by decide +kernel
theorem dX8_isLegal_63 : decode cX8_isLegal 63 = .ok (.iconst 0, 1) := by decide +kernel
theorem dX8_isLegal_64 : decode cX8_isLegal 64 = .ok (.ireturn, 1) := by decide +kernel
theorem dX8_isLegal_65 : decode cX8_isLegal 65 = .ok (.iinc 3 1, 3) := by decide +kernel
theorem dX8_isLegal_68 : decode cX8_isLegal 68 = .ok (.goto (-59), 3) := by decide +kernel
theorem dX8_isLegal_71 : decode cX8_isLegal 71 = .ok (.iconst 1, 1) := by decide +kernel
theorem dX8_isLegal_72 : decode cX8_isLegal 72 = .ok (.ireturn, 1) := by decide +kernel
theorem dX8_write_0 : decode cX8_write 0 = .ok (.iload_n 1, 1) := by decide +kernel
theorem dX8_write_1 : decode cX8_write 1 = .ok (.invokestatic 149, 3) := by decide +kernel
theorem dX8_write_4 : decode cX8_write 4 = .ok (.ifCond .eq 16, 3) := by decide +kernel
theorem dX8_write_7 : decode cX8_write 7 = .ok (.iload_n 2, 1) := by decide +kernel
theorem dX8_write_8 : decode cX8_write 8 = .ok (.invokestatic 114, 3) := by decide +kernel
theorem dX8_write_11 : decode cX8_write 11 = .ok (.ifCond .eq 9, 3) := by decide +kernel
theorem dX8_write_14 : decode cX8_write 14 = .ok (.lload_n 3, 1) := by decide +kernel
theorem dX8_write_15 : decode cX8_write 15 = .ok (.lconst 0, 1) := by decide +kernel
theorem dX8_write_16 : decode cX8_write 16 = .ok (.lcmp, 1) := by decide +kernel
theorem dX8_write_17 : decode cX8_write 17 = .ok (.ifCond .ge 6, 3) := by decide +kernel
theorem dX8_write_20 : decode cX8_write 20 = .ok (.bipush (-2), 2) := by decide +kernel
theorem dX8_write_22 : decode cX8_write 22 = .ok (.ireturn, 1) := by decide +kernel
theorem dX8_write_23 : decode cX8_write 23 = .ok (.lload_n 3, 1) := by decide +kernel
theorem dX8_write_24 : decode cX8_write 24 = .ok (.aload_n 0, 1) := by decide +kernel
theorem dX8_write_25 : decode cX8_write 25 = .ok (.getfield 25, 3) := by decide +kernel
theorem dX8_write_28 : decode cX8_write 28 = .ok (.iload_n 2, 1) := by decide +kernel
theorem dX8_write_29 : decode cX8_write 29 = .ok (.laload, 1) := by decide +kernel
theorem dX8_write_30 : decode cX8_write 30 = .ok (.lcmp, 1) := by decide +kernel
theorem dX8_write_31 : decode cX8_write 31 = .ok (.ifCond .le 6, 3) := by decide +kernel
theorem dX8_write_34 : decode cX8_write 34 = .ok (.bipush (-3), 2) := by decide +kernel
theorem dX8_write_36 : decode cX8_write 36 = .ok (.ireturn, 1) := by decide +kernel
theorem dX8_write_37 : decode cX8_write 37 = .ok (.aload_n 0, 1) := by decide +kernel
theorem dX8_write_38 : decode cX8_write 38 = .ok (.iload_n 2, 1) := by decide +kernel
theorem dX8_write_39 : decode cX8_write 39 = .ok (.lload_n 3, 1) := by decide +kernel
theorem dX8_write_40 : decode cX8_write 40 = .ok (.invokevirtual 152, 3) := by decide +kernel
theorem dX8_write_43 : decode cX8_write 43 = .ok (.aload_n 0, 1) := by decide +kernel
theorem dX8_write_44 : decode cX8_write 44 = .ok (.iload_n 1, 1) := by decide +kernel
theorem dX8_write_45 : decode cX8_write 45 = .ok (.iload_n 2, 1) := by decide +kernel
theorem dX8_write_46 : decode cX8_write 46 = .ok (.invokevirtual 156, 3) := by decide +kernel
theorem dX8_write_49 : decode cX8_write 49 = .ok (.ireturn, 1) := by decide +kernel
theorem dX8_empty_0 : decode cX8_empty 0 = .ok (.iload_n 1, 1) := by decide +kernel
theorem dX8_empty_1 : decode cX8_empty 1 = .ok (.invokestatic 149, 3) := by decide +kernel
theorem dX8_empty_4 : decode cX8_empty 4 = .ok (.ifCond .ne 6, 3) := by decide +kernel
theorem dX8_empty_7 : decode cX8_empty 7 = .ok (.bipush (-2), 2) := by decide +kernel
theorem dX8_empty_9 : decode cX8_empty 9 = .ok (.ireturn, 1) := by decide +kernel
theorem dX8_empty_10 : decode cX8_empty 10 = .ok (.aload_n 0, 1) := by decide +kernel
theorem dX8_empty_11 : decode cX8_empty 11 = .ok (.iload_n 1, 1) := by decide +kernel
theorem dX8_empty_12 : decode cX8_empty 12 = .ok (.invokevirtual 159, 3) := by decide +kernel
theorem dX8_empty_15 : decode cX8_empty 15 = .ok (.ifCond .eq 6, 3) := by decide +kernel
theorem dX8_empty_18 : decode cX8_empty 18 = .ok (.bipush (-11), 2) := by decide +kernel
theorem dX8_empty_20 : decode cX8_empty 20 = .ok (.ireturn, 1) := by decide +kernel
theorem dX8_empty_21 : decode cX8_empty 21 = .ok (.aload_n 0, 1) := by decide +kernel
theorem dX8_empty_22 : decode cX8_empty 22 = .ok (.getfield 28, 3) := by decide +kernel
theorem dX8_empty_25 : decode cX8_empty 25 = .ok (.iload_n 1, 1) := by decide +kernel
theorem dX8_empty_26 : decode cX8_empty 26 = .ok (.iconst (-1), 1) := by decide +kernel
theorem dX8_empty_27 : decode cX8_empty 27 = .ok (.iastore, 1) := by decide +kernel
theorem dX8_empty_28 : decode cX8_empty 28 = .ok (.aload_n 0, 1) := by decide +kernel
theorem dX8_empty_29 : decode cX8_empty 29 = .ok (.iload_n 1, 1) := by decide +kernel
theorem dX8_empty_30 : decode cX8_empty 30 = .ok (.invokevirtual 120, 3) := by decide +kernel
theorem dX8_empty_33 : decode cX8_empty 33 = .ok (.iconst 1, 1) := by decide +kernel
theorem dX8_empty_34 : decode cX8_empty 34 = .ok (.ireturn, 1) := by decide +kernel
theorem dX8_refusal_0 : decode cX8_refusal 0 = .ok (.iload_n 1, 1) := by decide +kernel
theorem dX8_refusal_1 : decode cX8_refusal 1 = .ok (.invokestatic 149, 3) := by decide +kernel
theorem dX8_refusal_4 : decode cX8_refusal 4 = .ok (.ifCond .ne 8, 3) := by decide +kernel
theorem dX8_refusal_7 : decode cX8_refusal 7 = .ok (.bipush (-2), 2) := by decide +kernel
theorem dX8_refusal_9 : decode cX8_refusal 9 = .ok (.goto 17, 3) := by decide +kernel
theorem dX8_refusal_12 : decode cX8_refusal 12 = .ok (.aload_n 0, 1) := by decide +kernel
theorem dX8_refusal_13 : decode cX8_refusal 13 = .ok (.iload_n 1, 1) := by decide +kernel
theorem dX8_refusal_14 : decode cX8_refusal 14 = .ok (.invokevirtual 159, 3) := by decide +kernel
theorem dX8_refusal_17 : decode cX8_refusal 17 = .ok (.ifCond .eq 8, 3) := by decide +kernel
theorem dX8_refusal_20 : decode cX8_refusal 20 = .ok (.bipush (-11), 2) := by decide +kernel
theorem dX8_refusal_22 : decode cX8_refusal 22 = .ok (.goto 4, 3) := by decide +kernel
theorem dX8_refusal_25 : decode cX8_refusal 25 = .ok (.iconst 0, 1) := by decide +kernel
theorem dX8_refusal_26 : decode cX8_refusal 26 = .ok (.ireturn, 1) := by decide +kernel
theorem dX8_refusal__0 : decode cX8_refusal_ 0 = .ok (.aload_n 0, 1) := by decide +kernel
theorem dX8_refusal__1 : decode cX8_refusal_ 1 = .ok (.iload_n 1, 1) := by decide +kernel
theorem dX8_refusal__2 : decode cX8_refusal_ 2 = .ok (.invokevirtual 162, 3) := by decide +kernel
theorem dX8_refusal__5 : decode cX8_refusal_ 5 = .ok (.istore 4, 2) := by decide +kernel
theorem dX8_refusal__7 : decode cX8_refusal_ 7 = .ok (.iload 4, 2) := by decide +kernel
theorem dX8_refusal__9 : decode cX8_refusal_ 9 = .ok (.ifCond .eq 8, 3) := by decide +kernel
theorem dX8_refusal__12 : decode cX8_refusal_ 12 = .ok (.iload 4, 2) := by decide +kernel
theorem dX8_refusal__14 : decode cX8_refusal_ 14 = .ok (.goto 26, 3) := by decide +kernel
theorem dX8_refusal__17 : decode cX8_refusal_ 17 = .ok (.iload_n 2, 1) := by decide +kernel
theorem dX8_refusal__18 : decode cX8_refusal_ 18 = .ok (.i2l, 1) := by decide +kernel
theorem dX8_refusal__19 : decode cX8_refusal_ 19 = .ok (.lconst 0, 1) := by decide +kernel
theorem dX8_refusal__20 : decode cX8_refusal_ 20 = .ok (.aload_n 0, 1) := by decide +kernel
theorem dX8_refusal__21 : decode cX8_refusal_ 21 = .ok (.iload_n 1, 1) := by decide +kernel
theorem dX8_refusal__22 : decode cX8_refusal_ 22 = .ok (.invokevirtual 137, 3) := by decide +kernel
theorem dX8_refusal__25 : decode cX8_refusal_ 25 = .ok (.iload_n 3, 1) := by decide +kernel
theorem dX8_refusal__26 : decode cX8_refusal_ 26 = .ok (.isub, 1) := by decide +kernel
theorem dX8_refusal__27 : decode cX8_refusal_ 27 = .ok (.i2l, 1) := by decide +kernel
theorem dX8_refusal__28 : decode cX8_refusal_ 28 = .ok (.invokestatic 104, 3) := by decide +kernel
theorem dX8_refusal__31 : decode cX8_refusal_ 31 = .ok (.ifCond .eq 7, 3) := by decide +kernel
theorem dX8_refusal__34 : decode cX8_refusal_ 34 = .ok (.iconst 0, 1) := by decide +kernel
theorem dX8_refusal__35 : decode cX8_refusal_ 35 = .ok (.goto 5, 3) := by decide +kernel
theorem dX8_refusal__38 : decode cX8_refusal_ 38 = .ok (.bipush (-12), 2) := by decide +kernel
theorem dX8_refusal__40 : decode cX8_refusal_ 40 = .ok (.ireturn, 1) := by decide +kernel
theorem dX8_highest_0 : decode cX8_highest 0 = .ok (.aload_n 0, 1) := by decide +kernel
theorem dX8_highest_1 : decode cX8_highest 1 = .ok (.iload_n 1, 1) := by decide +kernel
theorem dX8_highest_2 : decode cX8_highest 2 = .ok (.invokevirtual 137, 3) := by decide +kernel
theorem dX8_highest_5 : decode cX8_highest 5 = .ok (.iconst 1, 1) := by decide +kernel
theorem dX8_highest_6 : decode cX8_highest 6 = .ok (.isub, 1) := by decide +kernel
theorem dX8_highest_7 : decode cX8_highest 7 = .ok (.istore_n 2, 1) := by decide +kernel
theorem dX8_highest_8 : decode cX8_highest 8 = .ok (.iload_n 2, 1) := by decide +kernel
theorem dX8_highest_9 : decode cX8_highest 9 = .ok (.ifCond .lt 18, 3) := by decide +kernel
