theorem dX0_canCarry_35 : decode cX0_canCarry 35 = .ok (.iaload, 1) := by decide +kernel
theorem dX0_canCarry_36 : decode cX0_canCarry 36 = .ok (.iload_n 3, 1) := by decide +kernel
theorem dX0_canCarry_37 : decode cX0_canCarry 37 = .ok (.aload_n 0, 1) := by decide +kernel
theorem dX0_canCarry_38 : decode cX0_canCarry 38 = .ok (.iload_n 2, 1) := by decide +kernel
theorem dX0_canCarry_39 : decode cX0_canCarry 39 = .ok (.invokevirtual 72, 3) := by decide +kernel
theorem dX0_canCarry_42 : decode cX0_canCarry 42 = .ok (.imul, 1) := by decide +kernel
theorem dX0_canCarry_43 : decode cX0_canCarry 43 = .ok (.isub, 1) := by decide +kernel
theorem dX0_canCarry_44 : decode cX0_canCarry 44 = .ok (.invokestatic 69, 3) := by decide +kernel
theorem dX0_canCarry_47 : decode cX0_canCarry 47 = .ok (.ifCond .eq 24, 3) := by decide +kernel
theorem dX0_canCarry_50 : decode cX0_canCarry 50 = .ok (.iload_n 2, 1) := by decide +kernel
theorem dX0_canCarry_51 : decode cX0_canCarry 51 = .ok (.ifCond .eq 16, 3) := by decide +kernel
theorem dX0_canCarry_54 : decode cX0_canCarry 54 = .ok (.aload_n 1, 1) := by decide +kernel
theorem dX0_canCarry_55 : decode cX0_canCarry 55 = .ok (.iload_n 2, 1) := by decide +kernel
theorem dX0_canCarry_56 : decode cX0_canCarry 56 = .ok (.iconst 1, 1) := by decide +kernel
theorem dX0_canCarry_57 : decode cX0_canCarry 57 = .ok (.isub, 1) := by decide +kernel
theorem dX0_canCarry_58 : decode cX0_canCarry 58 = .ok (.iaload, 1) := by decide +kernel
theorem dX0_canCarry_59 : decode cX0_canCarry 59 = .ok (.iload_n 3, 1) := by decide +kernel
theorem dX0_canCarry_60 : decode cX0_canCarry 60 = .ok (.isub, 1) := by decide +kernel
theorem dX0_canCarry_61 : decode cX0_canCarry 61 = .ok (.invokestatic 69, 3) := by decide +kernel
theorem dX0_canCarry_64 : decode cX0_canCarry 64 = .ok (.ifCond .eq 7, 3) := by decide +kernel
theorem dX0_canCarry_67 : decode cX0_canCarry 67 = .ok (.iconst 1, 1) := by decide +kernel
theorem dX0_canCarry_68 : decode cX0_canCarry 68 = .ok (.goto 4, 3) := by decide +kernel
theorem dX0_canCarry_71 : decode cX0_canCarry 71 = .ok (.iconst 0, 1) := by decide +kernel
theorem dX0_canCarry_72 : decode cX0_canCarry 72 = .ok (.ireturn, 1) := by decide +kernel
theorem dX0_carryOnce_0 : decode cX0_carryOnce 0 = .ok (.aload_n 0, 1) := by decide +kernel
theorem dX0_carryOnce_1 : decode cX0_carryOnce 1 = .ok (.aload_n 1, 1) := by decide +kernel
theorem dX0_carryOnce_2 : decode cX0_carryOnce 2 = .ok (.iload_n 2, 1) := by decide +kernel
theorem dX0_carryOnce_3 : decode cX0_carryOnce 3 = .ok (.iload_n 3, 1) := by decide +kernel
theorem dX0_carryOnce_4 : decode cX0_carryOnce 4 = .ok (.invokevirtual 76, 3) := by decide +kernel
theorem dX0_carryOnce_7 : decode cX0_carryOnce 7 = .ok (.ifCond .ne 4, 3) := by decide +kernel
theorem dX0_carryOnce_10 : decode cX0_carryOnce 10 = .ok (.return_, 1) := by decide +kernel
theorem dX0_carryOnce_11 : decode cX0_carryOnce 11 = .ok (.aload_n 1, 1) := by decide +kernel
theorem dX0_carryOnce_12 : decode cX0_carryOnce 12 = .ok (.iload_n 2, 1) := by decide +kernel
theorem dX0_carryOnce_13 : decode cX0_carryOnce 13 = .ok (.iconst 1, 1) := by decide +kernel
theorem dX0_carryOnce_14 : decode cX0_carryOnce 14 = .ok (.iadd, 1) := by decide +kernel
theorem dX0_carryOnce_15 : decode cX0_carryOnce 15 = .ok (.dup2, 1) := by decide +kernel
theorem dX0_carryOnce_16 : decode cX0_carryOnce 16 = .ok (.iaload, 1) := by decide +kernel
theorem dX0_carryOnce_17 : decode cX0_carryOnce 17 = .ok (.iload_n 3, 1) := by decide +kernel
theorem dX0_carryOnce_18 : decode cX0_carryOnce 18 = .ok (.iadd, 1) := by decide +kernel
theorem dX0_carryOnce_19 : decode cX0_carryOnce 19 = .ok (.iastore, 1) := by decide +kernel
theorem dX0_carryOnce_20 : decode cX0_carryOnce 20 = .ok (.aload_n 1, 1) := by decide +kernel
theorem dX0_carryOnce_21 : decode cX0_carryOnce 21 = .ok (.iload_n 2, 1) := by decide +kernel
theorem dX0_carryOnce_22 : decode cX0_carryOnce 22 = .ok (.dup2, 1) := by decide +kernel
theorem dX0_carryOnce_23 : decode cX0_carryOnce 23 = .ok (.iaload, 1) := by decide +kernel
theorem dX0_carryOnce_24 : decode cX0_carryOnce 24 = .ok (.iload_n 3, 1) := by decide +kernel
theorem dX0_carryOnce_25 : decode cX0_carryOnce 25 = .ok (.aload_n 0, 1) := by decide +kernel
theorem dX0_carryOnce_26 : decode cX0_carryOnce 26 = .ok (.iload_n 2, 1) := by decide +kernel
theorem dX0_carryOnce_27 : decode cX0_carryOnce 27 = .ok (.invokevirtual 72, 3) := by decide +kernel
theorem dX0_carryOnce_30 : decode cX0_carryOnce 30 = .ok (.imul, 1) := by decide +kernel
theorem dX0_carryOnce_31 : decode cX0_carryOnce 31 = .ok (.isub, 1) := by decide +kernel
theorem dX0_carryOnce_32 : decode cX0_carryOnce 32 = .ok (.iastore, 1) := by decide +kernel
theorem dX0_carryOnce_33 : decode cX0_carryOnce 33 = .ok (.iload_n 2, 1) := by decide +kernel
theorem dX0_carryOnce_34 : decode cX0_carryOnce 34 = .ok (.ifCond .le 12, 3) := by decide +kernel
theorem dX0_carryOnce_37 : decode cX0_carryOnce 37 = .ok (.aload_n 1, 1) := by decide +kernel
theorem dX0_carryOnce_38 : decode cX0_carryOnce 38 = .ok (.iload_n 2, 1) := by decide +kernel
theorem dX0_carryOnce_39 : decode cX0_carryOnce 39 = .ok (.iconst 1, 1) := by decide +kernel
theorem dX0_carryOnce_40 : decode cX0_carryOnce 40 = .ok (.isub, 1) := by decide +kernel
theorem dX0_carryOnce_41 : decode cX0_carryOnce 41 = .ok (.dup2, 1) := by decide +kernel
theorem dX0_carryOnce_42 : decode cX0_carryOnce 42 = .ok (.iaload, 1) := by decide +kernel
theorem dX0_carryOnce_43 : decode cX0_carryOnce 43 = .ok (.iload_n 3, 1) := by decide +kernel
theorem dX0_carryOnce_44 : decode cX0_carryOnce 44 = .ok (.isub, 1) := by decide +kernel
theorem dX0_carryOnce_45 : decode cX0_carryOnce 45 = .ok (.iastore, 1) := by decide +kernel
theorem dX0_carryOnce_46 : decode cX0_carryOnce 46 = .ok (.return_, 1) := by decide +kernel
theorem dX0_settleAll_0 : decode cX0_settleAll 0 = .ok (.aload_n 0, 1) := by decide +kernel
theorem dX0_settleAll_1 : decode cX0_settleAll 1 = .ok (.getfield 48, 3) := by decide +kernel
theorem dX0_settleAll_4 : decode cX0_settleAll 4 = .ok (.iconst 2, 1) := by decide +kernel
theorem dX0_settleAll_5 : decode cX0_settleAll 5 = .ok (.isub, 1) := by decide +kernel
theorem dX0_settleAll_6 : decode cX0_settleAll 6 = .ok (.istore_n 2, 1) := by decide +kernel
theorem dX0_settleAll_7 : decode cX0_settleAll 7 = .ok (.iconst 0, 1) := by decide +kernel
theorem dX0_settleAll_8 : decode cX0_settleAll 8 = .ok (.istore_n 3, 1) := by decide +kernel
theorem dX0_settleAll_9 : decode cX0_settleAll 9 = .ok (.iload_n 3, 1) := by decide +kernel
theorem dX0_settleAll_10 : decode cX0_settleAll 10 = .ok (.sipush 4257, 3) := by decide +kernel
theorem dX0_settleAll_13 : decode cX0_settleAll 13 = .ok (.if_icmp .ge 42, 3) := by decide +kernel
theorem dX0_settleAll_16 : decode cX0_settleAll 16 = .ok (.aload_n 0, 1) := by decide +kernel
theorem dX0_settleAll_17 : decode cX0_settleAll 17 = .ok (.aload_n 1, 1) := by decide +kernel
theorem dX0_settleAll_18 : decode cX0_settleAll 18 = .ok (.iload_n 2, 1) := by decide +kernel
theorem dX0_settleAll_19 : decode cX0_settleAll 19 = .ok (.invokevirtual 80, 3) := by decide +kernel
theorem dX0_settleAll_22 : decode cX0_settleAll 22 = .ok (.istore_n 2, 1) := by decide +kernel
theorem dX0_settleAll_23 : decode cX0_settleAll 23 = .ok (.iload_n 2, 1) := by decide +kernel
theorem dX0_settleAll_24 : decode cX0_settleAll 24 = .ok (.ifCond .ge 5, 3) := by decide +kernel
theorem dX0_settleAll_27 : decode cX0_settleAll 27 = .ok (.iload_n 3, 1) := by decide +kernel
theorem dX0_settleAll_28 : decode cX0_settleAll 28 = .ok (.ireturn, 1) := by decide +kernel
theorem dX0_settleAll_29 : decode cX0_settleAll 29 = .ok (.aload_n 0, 1) := by decide +kernel
theorem dX0_settleAll_30 : decode cX0_settleAll 30 = .ok (.aload_n 1, 1) := by decide +kernel
theorem dX0_settleAll_31 : decode cX0_settleAll 31 = .ok (.iload_n 2, 1) := by decide +kernel
theorem dX0_settleAll_32 : decode cX0_settleAll 32 = .ok (.iconst 1, 1) := by decide +kernel
theorem dX0_settleAll_33 : decode cX0_settleAll 33 = .ok (.invokevirtual 84, 3) := by decide +kernel
theorem dX0_settleAll_36 : decode cX0_settleAll 36 = .ok (.iload_n 2, 1) := by decide +kernel
theorem dX0_settleAll_37 : decode cX0_settleAll 37 = .ok (.iconst 2, 1) := by decide +kernel
theorem dX0_settleAll_38 : decode cX0_settleAll 38 = .ok (.iadd, 1) := by decide +kernel
theorem dX0_settleAll_39 : decode cX0_settleAll 39 = .ok (.aload_n 0, 1) := by decide +kernel
theorem dX0_settleAll_40 : decode cX0_settleAll 40 = .ok (.getfield 48, 3) := by decide +kernel
theorem dX0_settleAll_43 : decode cX0_settleAll 43 = .ok (.iconst 2, 1) := by decide +kernel
theorem dX0_settleAll_44 : decode cX0_settleAll 44 = .ok (.isub, 1) := by decide +kernel
theorem dX0_settleAll_45 : decode cX0_settleAll 45 = .ok (.invokestatic 31, 3) := by decide +kernel
theorem dX0_settleAll_48 : decode cX0_settleAll 48 = .ok (.istore_n 2, 1) := by decide +kernel
theorem dX0_settleAll_49 : decode cX0_settleAll 49 = .ok (.iinc 3 1, 3) := by decide +kernel
theorem dX0_settleAll_52 : decode cX0_settleAll 52 = .ok (.goto (-43), 3) := by decide +kernel
theorem dX0_settleAll_55 : decode cX0_settleAll 55 = .ok (.sipush 4257, 3) := by decide +kernel
theorem dX0_settleAll_58 : decode cX0_settleAll 58 = .ok (.ireturn, 1) := by decide +kernel
theorem dX0_highestCarry_0 : decode cX0_highestCarry 0 = .ok (.iload_n 2, 1) := by decide +kernel
theorem dX0_highestCarry_1 : decode cX0_highestCarry 1 = .ok (.istore_n 3, 1) := by decide +kernel
theorem dX0_highestCarry_2 : decode cX0_highestCarry 2 = .ok (.iload_n 3, 1) := by decide +kernel
theorem dX0_highestCarry_3 : decode cX0_highestCarry 3 = .ok (.ifCond .lt 21, 3) := by decide +kernel
theorem dX0_highestCarry_6 : decode cX0_highestCarry 6 = .ok (.aload_n 0, 1) := by decide +kernel
theorem dX0_highestCarry_7 : decode cX0_highestCarry 7 = .ok (.aload_n 1, 1) := by decide +kernel
theorem dX0_highestCarry_8 : decode cX0_highestCarry 8 = .ok (.iload_n 3, 1) := by decide +kernel
theorem dX0_highestCarry_9 : decode cX0_highestCarry 9 = .ok (.iconst 1, 1) := by decide +kernel
theorem dX0_highestCarry_10 : decode cX0_highestCarry 10 = .ok (.invokevirtual 76, 3) := by decide +kernel
theorem dX0_highestCarry_13 : decode cX0_highestCarry 13 = .ok (.ifCond .eq 5, 3) := by decide +kernel
theorem dX0_highestCarry_16 : decode cX0_highestCarry 16 = .ok (.iload_n 3, 1) := by decide +kernel
theorem dX0_highestCarry_17 : decode cX0_highestCarry 17 = .ok (.ireturn, 1) := by decide +kernel
theorem dX0_highestCarry_18 : decode cX0_highestCarry 18 = .ok (.iinc 3 (-1), 3) := by decide +kernel
theorem dX0_highestCarry_21 : decode cX0_highestCarry 21 = .ok (.goto (-19), 3) := by decide +kernel
theorem dX0_highestCarry_24 : decode cX0_highestCarry 24 = .ok (.iconst (-1), 1) := by decide +kernel
theorem dX0_highestCarry_25 : decode cX0_highestCarry 25 = .ok (.ireturn, 1) := by decide +kernel
theorem dX0_shiftInto_0 : decode cX0_shiftInto 0 = .ok (.iconst 0, 1) := by decide +kernel
theorem dX0_shiftInto_1 : decode cX0_shiftInto 1 = .ok (.istore 4, 2) := by decide +kernel
theorem dX0_shiftInto_3 : decode cX0_shiftInto 3 = .ok (.iload 4, 2) := by decide +kernel
theorem dX0_shiftInto_5 : decode cX0_shiftInto 5 = .ok (.aload_n 1, 1) := by decide +kernel
theorem dX0_shiftInto_6 : decode cX0_shiftInto 6 = .ok (.arraylength, 1) := by decide +kernel
theorem dX0_shiftInto_7 : decode cX0_shiftInto 7 = .ok (.if_icmp .ge 45, 3) := by decide +kernel
theorem dX0_shiftInto_10 : decode cX0_shiftInto 10 = .ok (.iload 4, 2) := by decide +kernel
theorem dX0_shiftInto_12 : decode cX0_shiftInto 12 = .ok (.iload_n 3, 1) := by decide +kernel
theorem dX0_shiftInto_13 : decode cX0_shiftInto 13 = .ok (.isub, 1) := by decide +kernel
theorem dX0_shiftInto_14 : decode cX0_shiftInto 14 = .ok (.istore 5, 2) := by decide +kernel
theorem dX0_shiftInto_16 : decode cX0_shiftInto 16 = .ok (.aload_n 1, 1) := by decide +kernel
theorem dX0_shiftInto_17 : decode cX0_shiftInto 17 = .ok (.iload 4, 2) := by decide +kernel
theorem dX0_shiftInto_19 : decode cX0_shiftInto 19 = .ok (.aload_n 0, 1) := by decide +kernel
theorem dX0_shiftInto_20 : decode cX0_shiftInto 20 = .ok (.iload 4, 2) := by decide +kernel
theorem dX0_shiftInto_22 : decode cX0_shiftInto 22 = .ok (.invokevirtual 65, 3) := by decide +kernel
theorem dX0_shiftInto_25 : decode cX0_shiftInto 25 = .ok (.ifCond .eq 19, 3) := by decide +kernel
theorem dX0_shiftInto_28 : decode cX0_shiftInto 28 = .ok (.aload_n 0, 1) := by decide +kernel
theorem dX0_shiftInto_29 : decode cX0_shiftInto 29 = .ok (.iload 5, 2) := by decide +kernel
theorem dX0_shiftInto_31 : decode cX0_shiftInto 31 = .ok (.invokevirtual 65, 3) := by decide +kernel
theorem dX0_shiftInto_34 : decode cX0_shiftInto 34 = .ok (.ifCond .eq 10, 3) := by decide +kernel
theorem dX0_shiftInto_37 : decode cX0_shiftInto 37 = .ok (.aload_n 2, 1) := by decide +kernel
theorem dX0_shiftInto_38 : decode cX0_shiftInto 38 = .ok (.iload 5, 2) := by decide +kernel
theorem dX0_shiftInto_40 : decode cX0_shiftInto 40 = .ok (.iaload, 1) := by decide +kernel
theorem dX0_shiftInto_41 : decode cX0_shiftInto 41 = .ok (.goto 4, 3) := by decide +kernel
theorem dX0_shiftInto_44 : decode cX0_shiftInto 44 = .ok (.iconst 0, 1) := by decide +kernel
theorem dX0_shiftInto_45 : decode cX0_shiftInto 45 = .ok (.iastore, 1) := by decide +kernel
theorem dX0_shiftInto_46 : decode cX0_shiftInto 46 = .ok (.iinc 4 1, 3) := by decide +kernel
theorem dX0_shiftInto_49 : decode cX0_shiftInto 49 = .ok (.goto (-46), 3) := by decide +kernel
theorem dX0_shiftInto_52 : decode cX0_shiftInto 52 = .ok (.return_, 1) := by decide +kernel
theorem dX0_turnAhead_0 : decode cX0_turnAhead 0 = .ok (.aload_n 0, 1) := by decide +kernel
theorem dX0_turnAhead_1 : decode cX0_turnAhead 1 = .ok (.iload_n 2, 1) := by decide +kernel
theorem dX0_turnAhead_2 : decode cX0_turnAhead 2 = .ok (.invokevirtual 65, 3) := by decide +kernel
theorem dX0_turnAhead_5 : decode cX0_turnAhead 5 = .ok (.ifCond .ne 7, 3) := by decide +kernel
theorem dX0_turnAhead_8 : decode cX0_turnAhead 8 = .ok (.ldc2_w 88, 3) := by decide +kernel
theorem dX0_turnAhead_11 : decode cX0_turnAhead 11 = .ok (.lreturn, 1) := by decide +kernel
theorem dX0_turnAhead_12 : decode cX0_turnAhead 12 = .ok (.iload_n 2, 1) := by decide +kernel
theorem dX0_turnAhead_13 : decode cX0_turnAhead 13 = .ok (.ifCond .le 19, 3) := by decide +kernel
theorem dX0_turnAhead_16 : decode cX0_turnAhead 16 = .ok (.aload_n 1, 1) := by decide +kernel
theorem dX0_turnAhead_17 : decode cX0_turnAhead 17 = .ok (.iload_n 2, 1) := by decide +kernel
theorem dX0_turnAhead_18 : decode cX0_turnAhead 18 = .ok (.iaload, 1) := by decide +kernel
theorem dX0_turnAhead_19 : decode cX0_turnAhead 19 = .ok (.aload_n 0, 1) := by decide +kernel
theorem dX0_turnAhead_20 : decode cX0_turnAhead 20 = .ok (.getfield 9, 3) := by decide +kernel
theorem dX0_turnAhead_23 : decode cX0_turnAhead 23 = .ok (.iload_n 2, 1) := by decide +kernel
theorem dX0_turnAhead_24 : decode cX0_turnAhead 24 = .ok (.iaload, 1) := by decide +kernel
theorem dX0_turnAhead_25 : decode cX0_turnAhead 25 = .ok (.if_icmp .ne 7, 3) := by decide +kernel
theorem dX0_turnAhead_28 : decode cX0_turnAhead 28 = .ok (.iconst 1, 1) := by decide +kernel
theorem dX0_turnAhead_29 : decode cX0_turnAhead 29 = .ok (.goto 4, 3) := by decide +kernel
theorem dX0_turnAhead_32 : decode cX0_turnAhead 32 = .ok (.iconst 0, 1) := by decide +kernel
theorem dX0_turnAhead_33 : decode cX0_turnAhead 33 = .ok (.istore_n 3, 1) := by decide +kernel
theorem dX0_turnAhead_34 : decode cX0_turnAhead 34 = .ok (.iload_n 3, 1) := by decide +kernel
theorem dX0_turnAhead_35 : decode cX0_turnAhead 35 = .ok (.ifCond .eq 14, 3) := by decide +kernel
theorem dX0_turnAhead_38 : decode cX0_turnAhead 38 = .ok (.aload_n 0, 1) := by decide +kernel
theorem dX0_turnAhead_39 : decode cX0_turnAhead 39 = .ok (.getfield 15, 3) := by decide +kernel
theorem dX0_turnAhead_42 : decode cX0_turnAhead 42 = .ok (.iload_n 2, 1) := by decide +kernel
theorem dX0_turnAhead_43 : decode cX0_turnAhead 43 = .ok (.iconst 1, 1) := by decide +kernel
theorem dX0_turnAhead_44 : decode cX0_turnAhead 44 = .ok (.isub, 1) := by decide +kernel
theorem dX0_turnAhead_45 : decode cX0_turnAhead 45 = .ok (.laload, 1) := by decide +kernel
theorem dX0_turnAhead_46 : decode cX0_turnAhead 46 = .ok (.goto 9, 3) := by decide +kernel
theorem dX0_turnAhead_49 : decode cX0_turnAhead 49 = .ok (.aload_n 0, 1) := by decide +kernel
theorem dX0_turnAhead_50 : decode cX0_turnAhead 50 = .ok (.getfield 15, 3) := by decide +kernel
theorem dX0_turnAhead_53 : decode cX0_turnAhead 53 = .ok (.iload_n 2, 1) := by decide +kernel
theorem dX0_turnAhead_54 : decode cX0_turnAhead 54 = .ok (.laload, 1) := by decide +kernel
theorem dX0_turnAhead_55 : decode cX0_turnAhead 55 = .ok (.lstore 4, 2) := by decide +kernel
theorem dX0_turnAhead_57 : decode cX0_turnAhead 57 = .ok (.lload 4, 2) := by decide +kernel
theorem dX0_turnAhead_59 : decode cX0_turnAhead 59 = .ok (.aload_n 0, 1) := by decide +kernel
theorem dX0_turnAhead_60 : decode cX0_turnAhead 60 = .ok (.aload_n 1, 1) := by decide +kernel
theorem dX0_turnAhead_61 : decode cX0_turnAhead 61 = .ok (.iload_n 2, 1) := by decide +kernel
theorem dX0_turnAhead_62 : decode cX0_turnAhead 62 = .ok (.invokevirtual 61, 3) := by decide +kernel
theorem dX0_turnAhead_65 : decode cX0_turnAhead 65 = .ok (.lsub, 1) := by decide +kernel
theorem dX0_turnAhead_66 : decode cX0_turnAhead 66 = .ok (.lstore 6, 2) := by decide +kernel
theorem dX0_turnAhead_68 : decode cX0_turnAhead 68 = .ok (.aload_n 1, 1) := by decide +kernel
theorem dX0_turnAhead_69 : decode cX0_turnAhead 69 = .ok (.iload_n 2, 1) := by decide +kernel
theorem dX0_turnAhead_70 : decode cX0_turnAhead 70 = .ok (.iaload, 1) := by decide +kernel
theorem dX0_turnAhead_71 : decode cX0_turnAhead 71 = .ok (.ifCond .ne 33, 3) := by decide +kernel
theorem dX0_turnAhead_74 : decode cX0_turnAhead 74 = .ok (.aload_n 0, 1) := by decide +kernel
theorem dX0_turnAhead_75 : decode cX0_turnAhead 75 = .ok (.iload_n 2, 1) := by decide +kernel
theorem dX0_turnAhead_76 : decode cX0_turnAhead 76 = .ok (.iconst 1, 1) := by decide +kernel
theorem dX0_turnAhead_77 : decode cX0_turnAhead 77 = .ok (.iadd, 1) := by decide +kernel
theorem dX0_turnAhead_78 : decode cX0_turnAhead 78 = .ok (.invokevirtual 65, 3) := by decide +kernel
theorem dX0_turnAhead_81 : decode cX0_turnAhead 81 = .ok (.ifCond .eq 23, 3) := by decide +kernel
theorem dX0_turnAhead_84 : decode cX0_turnAhead 84 = .ok (.aload_n 1, 1) := by decide +kernel
theorem dX0_turnAhead_85 : decode cX0_turnAhead 85 = .ok (.iload_n 2, 1) := by decide +kernel
theorem dX0_turnAhead_86 : decode cX0_turnAhead 86 = .ok (.iconst 1, 1) := by decide +kernel
theorem dX0_turnAhead_87 : decode cX0_turnAhead 87 = .ok (.iadd, 1) := by decide +kernel
theorem dX0_turnAhead_88 : decode cX0_turnAhead 88 = .ok (.iaload, 1) := by decide +kernel
theorem dX0_turnAhead_89 : decode cX0_turnAhead 89 = .ok (.aload_n 0, 1) := by decide +kernel
theorem dX0_turnAhead_90 : decode cX0_turnAhead 90 = .ok (.getfield 9, 3) := by decide +kernel
theorem dX0_turnAhead_93 : decode cX0_turnAhead 93 = .ok (.iload_n 2, 1) := by decide +kernel
theorem dX0_turnAhead_94 : decode cX0_turnAhead 94 = .ok (.iconst 1, 1) := by decide +kernel
theorem dX0_turnAhead_95 : decode cX0_turnAhead 95 = .ok (.iadd, 1) := by decide +kernel
theorem dX0_turnAhead_96 : decode cX0_turnAhead 96 = .ok (.iaload, 1) := by decide +kernel
theorem dX0_turnAhead_97 : decode cX0_turnAhead 97 = .ok (.if_icmp .ne 7, 3) := by decide +kernel
theorem dX0_turnAhead_100 : decode cX0_turnAhead 100 = .ok (.iconst 1, 1) := by decide +kernel
theorem dX0_turnAhead_101 : decode cX0_turnAhead 101 = .ok (.goto 4, 3) := by decide +kernel
theorem dX0_turnAhead_104 : decode cX0_turnAhead 104 = .ok (.iconst 0, 1) := by decide +kernel
theorem dX0_turnAhead_105 : decode cX0_turnAhead 105 = .ok (.istore 8, 2) := by decide +kernel
theorem dX0_turnAhead_107 : decode cX0_turnAhead 107 = .ok (.iload 8, 2) := by decide +kernel
theorem dX0_turnAhead_109 : decode cX0_turnAhead 109 = .ok (.ifCond .eq 15, 3) := by decide +kernel
theorem dX0_turnAhead_112 : decode cX0_turnAhead 112 = .ok (.lload 6, 2) := by decide +kernel
theorem dX0_turnAhead_114 : decode cX0_turnAhead 114 = .ok (.aload_n 0, 1) := by decide +kernel
theorem dX0_turnAhead_115 : decode cX0_turnAhead 115 = .ok (.getfield 15, 3) := by decide +kernel
theorem dX0_turnAhead_118 : decode cX0_turnAhead 118 = .ok (.iload_n 2, 1) := by decide +kernel
theorem dX0_turnAhead_119 : decode cX0_turnAhead 119 = .ok (.laload, 1) := by decide +kernel
theorem dX0_turnAhead_120 : decode cX0_turnAhead 120 = .ok (.ladd, 1) := by decide +kernel
theorem dX0_turnAhead_121 : decode cX0_turnAhead 121 = .ok (.goto 5, 3) := by decide +kernel
theorem dX0_turnAhead_124 : decode cX0_turnAhead 124 = .ok (.lload 6, 2) := by decide +kernel
theorem dX0_turnAhead_126 : decode cX0_turnAhead 126 = .ok (.lreturn, 1) := by decide +kernel
theorem dX0_isDigit_0 : decode cX0_isDigit 0 = .ok (.iload_n 0, 1) := by decide +kernel
theorem dX0_isDigit_1 : decode cX0_isDigit 1 = .ok (.iconst 0, 1) := by decide +kernel
theorem dX0_isDigit_2 : decode cX0_isDigit 2 = .ok (.bipush 99, 2) := by decide +kernel
theorem dX0_isDigit_4 : decode cX0_isDigit 4 = .ok (.invokestatic 27, 3) := by decide +kernel
theorem dX0_isDigit_7 : decode cX0_isDigit 7 = .ok (.ireturn, 1) := by decide +kernel
