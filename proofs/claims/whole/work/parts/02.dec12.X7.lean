theorem dX7_carryState_5 : decode cX7_carryState 5 = .ok (.aload_n 0, 1) := by decide +kernel
theorem dX7_carryState_6 : decode cX7_carryState 6 = .ok (.arraylength, 1) := by decide +kernel
theorem dX7_carryState_7 : decode cX7_carryState 7 = .ok (.if_icmp .ge 41, 3) := by decide +kernel
theorem dX7_carryState_10 : decode cX7_carryState 10 = .ok (.iload 4, 2) := by decide +kernel
theorem dX7_carryState_12 : decode cX7_carryState 12 = .ok (.aload_n 2, 1) := by decide +kernel
theorem dX7_carryState_13 : decode cX7_carryState 13 = .ok (.arraylength, 1) := by decide +kernel
theorem dX7_carryState_14 : decode cX7_carryState 14 = .ok (.if_icmp .ge 34, 3) := by decide +kernel
theorem dX7_carryState_17 : decode cX7_carryState 17 = .ok (.aload_n 0, 1) := by decide +kernel
theorem dX7_carryState_18 : decode cX7_carryState 18 = .ok (.iload 4, 2) := by decide +kernel
theorem dX7_carryState_20 : decode cX7_carryState 20 = .ok (.aaload, 1) := by decide +kernel
theorem dX7_carryState_21 : decode cX7_carryState 21 = .ok (.ifnull 21, 3) := by decide +kernel
theorem dX7_carryState_24 : decode cX7_carryState 24 = .ok (.aload_n 2, 1) := by decide +kernel
theorem dX7_carryState_25 : decode cX7_carryState 25 = .ok (.iload 4, 2) := by decide +kernel
theorem dX7_carryState_27 : decode cX7_carryState 27 = .ok (.aaload, 1) := by decide +kernel
theorem dX7_carryState_28 : decode cX7_carryState 28 = .ok (.ifnull 14, 3) := by decide +kernel
theorem dX7_carryState_31 : decode cX7_carryState 31 = .ok (.aload_n 2, 1) := by decide +kernel
theorem dX7_carryState_32 : decode cX7_carryState 32 = .ok (.iload 4, 2) := by decide +kernel
theorem dX7_carryState_34 : decode cX7_carryState 34 = .ok (.aaload, 1) := by decide +kernel
theorem dX7_carryState_35 : decode cX7_carryState 35 = .ok (.aload_n 0, 1) := by decide +kernel
theorem dX7_carryState_36 : decode cX7_carryState 36 = .ok (.iload 4, 2) := by decide +kernel
theorem dX7_carryState_38 : decode cX7_carryState 38 = .ok (.aaload, 1) := by decide +kernel
theorem dX7_carryState_39 : decode cX7_carryState 39 = .ok (.invokevirtual 309, 3) := by decide +kernel
theorem dX7_carryState_42 : decode cX7_carryState 42 = .ok (.iinc 4 1, 3) := by decide +kernel
theorem dX7_carryState_45 : decode cX7_carryState 45 = .ok (.goto (-42), 3) := by decide +kernel
theorem dX7_carryState_48 : decode cX7_carryState 48 = .ok (.iconst 0, 1) := by decide +kernel
theorem dX7_carryState_49 : decode cX7_carryState 49 = .ok (.istore 4, 2) := by decide +kernel
theorem dX7_carryState_51 : decode cX7_carryState 51 = .ok (.iload 4, 2) := by decide +kernel
theorem dX7_carryState_53 : decode cX7_carryState 53 = .ok (.aload_n 1, 1) := by decide +kernel
theorem dX7_carryState_54 : decode cX7_carryState 54 = .ok (.arraylength, 1) := by decide +kernel
theorem dX7_carryState_55 : decode cX7_carryState 55 = .ok (.if_icmp .ge 61, 3) := by decide +kernel
theorem dX7_carryState_58 : decode cX7_carryState 58 = .ok (.iload 4, 2) := by decide +kernel
theorem dX7_carryState_60 : decode cX7_carryState 60 = .ok (.aload_n 3, 1) := by decide +kernel
theorem dX7_carryState_61 : decode cX7_carryState 61 = .ok (.arraylength, 1) := by decide +kernel
theorem dX7_carryState_62 : decode cX7_carryState 62 = .ok (.if_icmp .ge 54, 3) := by decide +kernel
theorem dX7_carryState_65 : decode cX7_carryState 65 = .ok (.aload_n 1, 1) := by decide +kernel
theorem dX7_carryState_66 : decode cX7_carryState 66 = .ok (.iload 4, 2) := by decide +kernel
theorem dX7_carryState_68 : decode cX7_carryState 68 = .ok (.aaload, 1) := by decide +kernel
theorem dX7_carryState_69 : decode cX7_carryState 69 = .ok (.ifnull 41, 3) := by decide +kernel
theorem dX7_carryState_72 : decode cX7_carryState 72 = .ok (.aload_n 3, 1) := by decide +kernel
theorem dX7_carryState_73 : decode cX7_carryState 73 = .ok (.iload 4, 2) := by decide +kernel
theorem dX7_carryState_75 : decode cX7_carryState 75 = .ok (.aaload, 1) := by decide +kernel
theorem dX7_carryState_76 : decode cX7_carryState 76 = .ok (.ifnull 34, 3) := by decide +kernel
theorem dX7_carryState_79 : decode cX7_carryState 79 = .ok (.aload_n 3, 1) := by decide +kernel
theorem dX7_carryState_80 : decode cX7_carryState 80 = .ok (.iload 4, 2) := by decide +kernel
theorem dX7_carryState_82 : decode cX7_carryState 82 = .ok (.aaload, 1) := by decide +kernel
theorem dX7_carryState_83 : decode cX7_carryState 83 = .ok (.aload_n 1, 1) := by decide +kernel
theorem dX7_carryState_84 : decode cX7_carryState 84 = .ok (.iload 4, 2) := by decide +kernel
theorem dX7_carryState_86 : decode cX7_carryState 86 = .ok (.aaload, 1) := by decide +kernel
theorem dX7_carryState_87 : decode cX7_carryState 87 = .ok (.getfield 91, 3) := by decide +kernel
theorem dX7_carryState_90 : decode cX7_carryState 90 = .ok (.putfield 91, 3) := by decide +kernel
theorem dX7_carryState_93 : decode cX7_carryState 93 = .ok (.aload_n 1, 1) := by decide +kernel
theorem dX7_carryState_94 : decode cX7_carryState 94 = .ok (.iload 4, 2) := by decide +kernel
theorem dX7_carryState_96 : decode cX7_carryState 96 = .ok (.aaload, 1) := by decide +kernel
theorem dX7_carryState_97 : decode cX7_carryState 97 = .ok (.getfield 144, 3) := by decide +kernel
theorem dX7_carryState_100 : decode cX7_carryState 100 = .ok (.aload_n 3, 1) := by decide +kernel
theorem dX7_carryState_101 : decode cX7_carryState 101 = .ok (.iload 4, 2) := by decide +kernel
theorem dX7_carryState_103 : decode cX7_carryState 103 = .ok (.aaload, 1) := by decide +kernel
theorem dX7_carryState_104 : decode cX7_carryState 104 = .ok (.getfield 144, 3) := by decide +kernel
theorem dX7_carryState_107 : decode cX7_carryState 107 = .ok (.invokestatic 185, 3) := by decide +kernel
theorem dX7_carryState_110 : decode cX7_carryState 110 = .ok (.iinc 4 1, 3) := by decide +kernel
theorem dX7_carryState_113 : decode cX7_carryState 113 = .ok (.goto (-62), 3) := by decide +kernel
theorem dX7_carryState_116 : decode cX7_carryState 116 = .ok (.return_, 1) := by decide +kernel
theorem dX7_copyDigits_0 : decode cX7_copyDigits 0 = .ok (.aload_n 0, 1) := by decide +kernel
theorem dX7_copyDigits_1 : decode cX7_copyDigits 1 = .ok (.iconst 0, 1) := by decide +kernel
theorem dX7_copyDigits_2 : decode cX7_copyDigits 2 = .ok (.aload_n 1, 1) := by decide +kernel
theorem dX7_copyDigits_3 : decode cX7_copyDigits 3 = .ok (.iconst 0, 1) := by decide +kernel
theorem dX7_copyDigits_4 : decode cX7_copyDigits 4 = .ok (.aload_n 0, 1) := by decide +kernel
theorem dX7_copyDigits_5 : decode cX7_copyDigits 5 = .ok (.arraylength, 1) := by decide +kernel
theorem dX7_copyDigits_6 : decode cX7_copyDigits 6 = .ok (.aload_n 1, 1) := by decide +kernel
theorem dX7_copyDigits_7 : decode cX7_copyDigits 7 = .ok (.arraylength, 1) := by decide +kernel
theorem dX7_copyDigits_8 : decode cX7_copyDigits 8 = .ok (.invokestatic 313, 3) := by decide +kernel
theorem dX7_copyDigits_11 : decode cX7_copyDigits 11 = .ok (.invokestatic 274, 3) := by decide +kernel
theorem dX7_copyDigits_14 : decode cX7_copyDigits 14 = .ok (.return_, 1) := by decide +kernel
theorem dX7_countNotZero_0 : decode cX7_countNotZero 0 = .ok (.iconst 0, 1) := by decide +kernel
theorem dX7_countNotZero_1 : decode cX7_countNotZero 1 = .ok (.istore_n 1, 1) := by decide +kernel
theorem dX7_countNotZero_2 : decode cX7_countNotZero 2 = .ok (.aload_n 0, 1) := by decide +kernel
theorem dX7_countNotZero_3 : decode cX7_countNotZero 3 = .ok (.astore_n 2, 1) := by decide +kernel
theorem dX7_countNotZero_4 : decode cX7_countNotZero 4 = .ok (.aload_n 2, 1) := by decide +kernel
theorem dX7_countNotZero_5 : decode cX7_countNotZero 5 = .ok (.arraylength, 1) := by decide +kernel
theorem dX7_countNotZero_6 : decode cX7_countNotZero 6 = .ok (.istore_n 3, 1) := by decide +kernel
theorem dX7_countNotZero_7 : decode cX7_countNotZero 7 = .ok (.iconst 0, 1) := by decide +kernel
theorem dX7_countNotZero_8 : decode cX7_countNotZero 8 = .ok (.istore 4, 2) := by decide +kernel
theorem dX7_countNotZero_10 : decode cX7_countNotZero 10 = .ok (.iload 4, 2) := by decide +kernel
theorem dX7_countNotZero_12 : decode cX7_countNotZero 12 = .ok (.iload_n 3, 1) := by decide +kernel
theorem dX7_countNotZero_13 : decode cX7_countNotZero 13 = .ok (.if_icmp .ge 23, 3) := by decide +kernel
theorem dX7_countNotZero_16 : decode cX7_countNotZero 16 = .ok (.aload_n 2, 1) := by decide +kernel
theorem dX7_countNotZero_17 : decode cX7_countNotZero 17 = .ok (.iload 4, 2) := by decide +kernel
theorem dX7_countNotZero_19 : decode cX7_countNotZero 19 = .ok (.iaload, 1) := by decide +kernel
theorem dX7_countNotZero_20 : decode cX7_countNotZero 20 = .ok (.istore 5, 2) := by decide +kernel
theorem dX7_countNotZero_22 : decode cX7_countNotZero 22 = .ok (.iload 5, 2) := by decide +kernel
theorem dX7_countNotZero_24 : decode cX7_countNotZero 24 = .ok (.ifCond .eq 6, 3) := by decide +kernel
theorem dX7_countNotZero_27 : decode cX7_countNotZero 27 = .ok (.iinc 1 1, 3) := by decide +kernel
theorem dX7_countNotZero_30 : decode cX7_countNotZero 30 = .ok (.iinc 4 1, 3) := by decide +kernel
theorem dX7_countNotZero_33 : decode cX7_countNotZero 33 = .ok (.goto (-23), 3) := by decide +kernel
theorem dX7_countNotZero_36 : decode cX7_countNotZero 36 = .ok (.iload_n 1, 1) := by decide +kernel
theorem dX7_countNotZero_37 : decode cX7_countNotZero 37 = .ok (.ireturn, 1) := by decide +kernel
theorem dX7_countUnlike_0 : decode cX7_countUnlike 0 = .ok (.iconst 0, 1) := by decide +kernel
theorem dX7_countUnlike_1 : decode cX7_countUnlike 1 = .ok (.istore_n 2, 1) := by decide +kernel
theorem dX7_countUnlike_2 : decode cX7_countUnlike 2 = .ok (.iconst 0, 1) := by decide +kernel
theorem dX7_countUnlike_3 : decode cX7_countUnlike 3 = .ok (.istore_n 3, 1) := by decide +kernel
theorem dX7_countUnlike_4 : decode cX7_countUnlike 4 = .ok (.iload_n 3, 1) := by decide +kernel
theorem dX7_countUnlike_5 : decode cX7_countUnlike 5 = .ok (.aload_n 0, 1) := by decide +kernel
theorem dX7_countUnlike_6 : decode cX7_countUnlike 6 = .ok (.arraylength, 1) := by decide +kernel
theorem dX7_countUnlike_7 : decode cX7_countUnlike 7 = .ok (.if_icmp .ge 27, 3) := by decide +kernel
theorem dX7_countUnlike_10 : decode cX7_countUnlike 10 = .ok (.iload_n 3, 1) := by decide +kernel
theorem dX7_countUnlike_11 : decode cX7_countUnlike 11 = .ok (.aload_n 1, 1) := by decide +kernel
theorem dX7_countUnlike_12 : decode cX7_countUnlike 12 = .ok (.arraylength, 1) := by decide +kernel
theorem dX7_countUnlike_13 : decode cX7_countUnlike 13 = .ok (.if_icmp .ge 21, 3) := by decide +kernel
theorem dX7_countUnlike_16 : decode cX7_countUnlike 16 = .ok (.aload_n 0, 1) := by decide +kernel
theorem dX7_countUnlike_17 : decode cX7_countUnlike 17 = .ok (.iload_n 3, 1) := by decide +kernel
theorem dX7_countUnlike_18 : decode cX7_countUnlike 18 = .ok (.iaload, 1) := by decide +kernel
theorem dX7_countUnlike_19 : decode cX7_countUnlike 19 = .ok (.aload_n 1, 1) := by decide +kernel
theorem dX7_countUnlike_20 : decode cX7_countUnlike 20 = .ok (.iload_n 3, 1) := by decide +kernel
theorem dX7_countUnlike_21 : decode cX7_countUnlike 21 = .ok (.iaload, 1) := by decide +kernel
theorem dX7_countUnlike_22 : decode cX7_countUnlike 22 = .ok (.if_icmp .eq 6, 3) := by decide +kernel
theorem dX7_countUnlike_25 : decode cX7_countUnlike 25 = .ok (.iinc 2 1, 3) := by decide +kernel
theorem dX7_countUnlike_28 : decode cX7_countUnlike 28 = .ok (.iinc 3 1, 3) := by decide +kernel
theorem dX7_countUnlike_31 : decode cX7_countUnlike 31 = .ok (.goto (-27), 3) := by decide +kernel
theorem dX7_countUnlike_34 : decode cX7_countUnlike 34 = .ok (.iload_n 2, 1) := by decide +kernel
theorem dX7_countUnlike_35 : decode cX7_countUnlike 35 = .ok (.ireturn, 1) := by decide +kernel
theorem dX7_highestNotZero_0 : decode cX7_highestNotZero 0 = .ok (.aload_n 0, 1) := by decide +kernel
theorem dX7_highestNotZero_1 : decode cX7_highestNotZero 1 = .ok (.arraylength, 1) := by decide +kernel
theorem dX7_highestNotZero_2 : decode cX7_highestNotZero 2 = .ok (.iconst 1, 1) := by decide +kernel
theorem dX7_highestNotZero_3 : decode cX7_highestNotZero 3 = .ok (.isub, 1) := by decide +kernel
theorem dX7_highestNotZero_4 : decode cX7_highestNotZero 4 = .ok (.istore_n 1, 1) := by decide +kernel
theorem dX7_highestNotZero_5 : decode cX7_highestNotZero 5 = .ok (.iload_n 1, 1) := by decide +kernel
theorem dX7_highestNotZero_6 : decode cX7_highestNotZero 6 = .ok (.ifCond .lt 17, 3) := by decide +kernel
theorem dX7_highestNotZero_9 : decode cX7_highestNotZero 9 = .ok (.aload_n 0, 1) := by decide +kernel
theorem dX7_highestNotZero_10 : decode cX7_highestNotZero 10 = .ok (.iload_n 1, 1) := by decide +kernel
theorem dX7_highestNotZero_11 : decode cX7_highestNotZero 11 = .ok (.iaload, 1) := by decide +kernel
theorem dX7_highestNotZero_12 : decode cX7_highestNotZero 12 = .ok (.ifCond .eq 5, 3) := by decide +kernel
theorem dX7_highestNotZero_15 : decode cX7_highestNotZero 15 = .ok (.iload_n 1, 1) := by decide +kernel
theorem dX7_highestNotZero_16 : decode cX7_highestNotZero 16 = .ok (.ireturn, 1) := by decide +kernel
theorem dX7_highestNotZero_17 : decode cX7_highestNotZero 17 = .ok (.iinc 1 (-1), 3) := by decide +kernel
theorem dX7_highestNotZero_20 : decode cX7_highestNotZero 20 = .ok (.goto (-15), 3) := by decide +kernel
theorem dX7_highestNotZero_23 : decode cX7_highestNotZero 23 = .ok (.iconst (-1), 1) := by decide +kernel
theorem dX7_highestNotZero_24 : decode cX7_highestNotZero 24 = .ok (.ireturn, 1) := by decide +kernel
theorem dX7_addInto_0 : decode cX7_addInto 0 = .ok (.iconst 0, 1) := by decide +kernel
theorem dX7_addInto_1 : decode cX7_addInto 1 = .ok (.istore_n 3, 1) := by decide +kernel
theorem dX7_addInto_2 : decode cX7_addInto 2 = .ok (.iload_n 3, 1) := by decide +kernel
theorem dX7_addInto_3 : decode cX7_addInto 3 = .ok (.aload_n 0, 1) := by decide +kernel
theorem dX7_addInto_4 : decode cX7_addInto 4 = .ok (.arraylength, 1) := by decide +kernel
theorem dX7_addInto_5 : decode cX7_addInto 5 = .ok (.if_icmp .ge 41, 3) := by decide +kernel
theorem dX7_addInto_8 : decode cX7_addInto 8 = .ok (.iload_n 3, 1) := by decide +kernel
theorem dX7_addInto_9 : decode cX7_addInto 9 = .ok (.aload_n 1, 1) := by decide +kernel
theorem dX7_addInto_10 : decode cX7_addInto 10 = .ok (.arraylength, 1) := by decide +kernel
theorem dX7_addInto_11 : decode cX7_addInto 11 = .ok (.if_icmp .ge 35, 3) := by decide +kernel
theorem dX7_addInto_14 : decode cX7_addInto 14 = .ok (.iload_n 3, 1) := by decide +kernel
theorem dX7_addInto_15 : decode cX7_addInto 15 = .ok (.aload_n 2, 1) := by decide +kernel
theorem dX7_addInto_16 : decode cX7_addInto 16 = .ok (.arraylength, 1) := by decide +kernel
theorem dX7_addInto_17 : decode cX7_addInto 17 = .ok (.if_icmp .ge 29, 3) := by decide +kernel
theorem dX7_addInto_20 : decode cX7_addInto 20 = .ok (.aload_n 0, 1) := by decide +kernel
theorem dX7_addInto_21 : decode cX7_addInto 21 = .ok (.iload_n 3, 1) := by decide +kernel
theorem dX7_addInto_22 : decode cX7_addInto 22 = .ok (.aload_n 1, 1) := by decide +kernel
theorem dX7_addInto_23 : decode cX7_addInto 23 = .ok (.iload_n 3, 1) := by decide +kernel
theorem dX7_addInto_24 : decode cX7_addInto 24 = .ok (.iaload, 1) := by decide +kernel
theorem dX7_addInto_25 : decode cX7_addInto 25 = .ok (.aload_n 2, 1) := by decide +kernel
theorem dX7_addInto_26 : decode cX7_addInto 26 = .ok (.iload_n 3, 1) := by decide +kernel
theorem dX7_addInto_27 : decode cX7_addInto 27 = .ok (.iaload, 1) := by decide +kernel
theorem dX7_addInto_28 : decode cX7_addInto 28 = .ok (.iadd, 1) := by decide +kernel
theorem dX7_addInto_29 : decode cX7_addInto 29 = .ok (.iastore, 1) := by decide +kernel
theorem dX7_addInto_30 : decode cX7_addInto 30 = .ok (.aload_n 0, 1) := by decide +kernel
theorem dX7_addInto_31 : decode cX7_addInto 31 = .ok (.iload_n 3, 1) := by decide +kernel
theorem dX7_addInto_32 : decode cX7_addInto 32 = .ok (.iaload, 1) := by decide +kernel
theorem dX7_addInto_33 : decode cX7_addInto 33 = .ok (.bipush 99, 2) := by decide +kernel
theorem dX7_addInto_35 : decode cX7_addInto 35 = .ok (.if_icmp .le 5, 3) := by decide +kernel
theorem dX7_addInto_38 : decode cX7_addInto 38 = .ok (.iconst 0, 1) := by decide +kernel
theorem dX7_addInto_39 : decode cX7_addInto 39 = .ok (.ireturn, 1) := by decide +kernel
theorem dX7_addInto_40 : decode cX7_addInto 40 = .ok (.iinc 3 1, 3) := by decide +kernel
theorem dX7_addInto_43 : decode cX7_addInto 43 = .ok (.goto (-41), 3) := by decide +kernel
theorem dX7_addInto_46 : decode cX7_addInto 46 = .ok (.iconst 1, 1) := by decide +kernel
theorem dX7_addInto_47 : decode cX7_addInto 47 = .ok (.ireturn, 1) := by decide +kernel
theorem dX7_printInto_0 : decode cX7_printInto 0 = .ok (.iconst 0, 1) := by decide +kernel
theorem dX7_printInto_1 : decode cX7_printInto 1 = .ok (.istore_n 2, 1) := by decide +kernel
theorem dX7_printInto_2 : decode cX7_printInto 2 = .ok (.aload_n 1, 1) := by decide +kernel
theorem dX7_printInto_3 : decode cX7_printInto 3 = .ok (.invokestatic 155, 3) := by decide +kernel
theorem dX7_printInto_6 : decode cX7_printInto 6 = .ok (.iconst 0, 1) := by decide +kernel
theorem dX7_printInto_7 : decode cX7_printInto 7 = .ok (.invokestatic 318, 3) := by decide +kernel
theorem dX7_printInto_10 : decode cX7_printInto 10 = .ok (.istore_n 3, 1) := by decide +kernel
theorem dX7_printInto_11 : decode cX7_printInto 11 = .ok (.iload_n 3, 1) := by decide +kernel
theorem dX7_printInto_12 : decode cX7_printInto 12 = .ok (.ifCond .lt 85, 3) := by decide +kernel
theorem dX7_printInto_15 : decode cX7_printInto 15 = .ok (.iload_n 3, 1) := by decide +kernel
theorem dX7_printInto_16 : decode cX7_printInto 16 = .ok (.aload_n 1, 1) := by decide +kernel
theorem dX7_printInto_17 : decode cX7_printInto 17 = .ok (.arraylength, 1) := by decide +kernel
theorem dX7_printInto_18 : decode cX7_printInto 18 = .ok (.if_icmp .ge 79, 3) := by decide +kernel
theorem dX7_printInto_21 : decode cX7_printInto 21 = .ok (.aload_n 1, 1) := by decide +kernel
theorem dX7_printInto_22 : decode cX7_printInto 22 = .ok (.iload_n 3, 1) := by decide +kernel
theorem dX7_printInto_23 : decode cX7_printInto 23 = .ok (.iaload, 1) := by decide +kernel
theorem dX7_printInto_24 : decode cX7_printInto 24 = .ok (.istore 4, 2) := by decide +kernel
theorem dX7_printInto_26 : decode cX7_printInto 26 = .ok (.iload 4, 2) := by decide +kernel
theorem dX7_printInto_28 : decode cX7_printInto 28 = .ok (.bipush 9, 2) := by decide +kernel
theorem dX7_printInto_30 : decode cX7_printInto 30 = .ok (.if_icmp .le 23, 3) := by decide +kernel
theorem dX7_printInto_33 : decode cX7_printInto 33 = .ok (.iload_n 2, 1) := by decide +kernel
theorem dX7_printInto_34 : decode cX7_printInto 34 = .ok (.aload_n 0, 1) := by decide +kernel
theorem dX7_printInto_35 : decode cX7_printInto 35 = .ok (.arraylength, 1) := by decide +kernel
theorem dX7_printInto_36 : decode cX7_printInto 36 = .ok (.if_icmp .ge 17, 3) := by decide +kernel
theorem dX7_printInto_39 : decode cX7_printInto 39 = .ok (.aload_n 0, 1) := by decide +kernel
theorem dX7_printInto_40 : decode cX7_printInto 40 = .ok (.iload_n 2, 1) := by decide +kernel
theorem dX7_printInto_41 : decode cX7_printInto 41 = .ok (.iinc 2 1, 3) := by decide +kernel
theorem dX7_printInto_44 : decode cX7_printInto 44 = .ok (.bipush 48, 2) := by decide +kernel
theorem dX7_printInto_46 : decode cX7_printInto 46 = .ok (.iload 4, 2) := by decide +kernel
theorem dX7_printInto_48 : decode cX7_printInto 48 = .ok (.bipush 10, 2) := by decide +kernel
theorem dX7_printInto_50 : decode cX7_printInto 50 = .ok (.idiv, 1) := by decide +kernel
theorem dX7_printInto_51 : decode cX7_printInto 51 = .ok (.iadd, 1) := by decide +kernel
theorem dX7_printInto_52 : decode cX7_printInto 52 = .ok (.iastore, 1) := by decide +kernel
theorem dX7_printInto_53 : decode cX7_printInto 53 = .ok (.iload_n 2, 1) := by decide +kernel
theorem dX7_printInto_54 : decode cX7_printInto 54 = .ok (.aload_n 0, 1) := by decide +kernel
theorem dX7_printInto_55 : decode cX7_printInto 55 = .ok (.arraylength, 1) := by decide +kernel
theorem dX7_printInto_56 : decode cX7_printInto 56 = .ok (.if_icmp .ge 17, 3) := by decide +kernel
theorem dX7_printInto_59 : decode cX7_printInto 59 = .ok (.aload_n 0, 1) := by decide +kernel
theorem dX7_printInto_60 : decode cX7_printInto 60 = .ok (.iload_n 2, 1) := by decide +kernel
theorem dX7_printInto_61 : decode cX7_printInto 61 = .ok (.iinc 2 1, 3) := by decide +kernel
theorem dX7_printInto_64 : decode cX7_printInto 64 = .ok (.bipush 48, 2) := by decide +kernel
theorem dX7_printInto_66 : decode cX7_printInto 66 = .ok (.iload 4, 2) := by decide +kernel
theorem dX7_printInto_68 : decode cX7_printInto 68 = .ok (.bipush 10, 2) := by decide +kernel
theorem dX7_printInto_70 : decode cX7_printInto 70 = .ok (.irem, 1) := by decide +kernel
theorem dX7_printInto_71 : decode cX7_printInto 71 = .ok (.iadd, 1) := by decide +kernel
theorem dX7_printInto_72 : decode cX7_printInto 72 = .ok (.iastore, 1) := by decide +kernel
theorem dX7_printInto_73 : decode cX7_printInto 73 = .ok (.iload_n 3, 1) := by decide +kernel
theorem dX7_printInto_74 : decode cX7_printInto 74 = .ok (.ifCond .le 17, 3) := by decide +kernel
theorem dX7_printInto_77 : decode cX7_printInto 77 = .ok (.iload_n 2, 1) := by decide +kernel
theorem dX7_printInto_78 : decode cX7_printInto 78 = .ok (.aload_n 0, 1) := by decide +kernel
theorem dX7_printInto_79 : decode cX7_printInto 79 = .ok (.arraylength, 1) := by decide +kernel
theorem dX7_printInto_80 : decode cX7_printInto 80 = .ok (.if_icmp .ge 11, 3) := by decide +kernel
theorem dX7_printInto_83 : decode cX7_printInto 83 = .ok (.aload_n 0, 1) := by decide +kernel
theorem dX7_printInto_84 : decode cX7_printInto 84 = .ok (.iload_n 2, 1) := by decide +kernel
theorem dX7_printInto_85 : decode cX7_printInto 85 = .ok (.iinc 2 1, 3) := by decide +kernel
theorem dX7_printInto_88 : decode cX7_printInto 88 = .ok (.bipush 46, 2) := by decide +kernel
theorem dX7_printInto_90 : decode cX7_printInto 90 = .ok (.iastore, 1) := by decide +kernel
theorem dX7_printInto_91 : decode cX7_printInto 91 = .ok (.iinc 3 (-1), 3) := by decide +kernel
theorem dX7_printInto_94 : decode cX7_printInto 94 = .ok (.goto (-83), 3) := by decide +kernel
theorem dX7_printInto_97 : decode cX7_printInto 97 = .ok (.iload_n 2, 1) := by decide +kernel
theorem dX7_printInto_98 : decode cX7_printInto 98 = .ok (.ireturn, 1) := by decide +kernel
