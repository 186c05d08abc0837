theorem dX2_init_0 : decode cX2_init 0 = .ok (.aload_n 0, 1) := by decide +kernel
theorem dX2_init_1 : decode cX2_init 1 = .ok (.invokespecial 3, 3) := by decide +kernel
theorem dX2_init_4 : decode cX2_init 4 = .ok (.aload_n 0, 1) := by decide +kernel
theorem dX2_init_5 : decode cX2_init 5 = .ok (.bipush 60, 2) := by decide +kernel
theorem dX2_init_7 : decode cX2_init 7 = .ok (.newarray .long, 2) := by decide +kernel
theorem dX2_init_9 : decode cX2_init 9 = .ok (.putfield 11, 3) := by decide +kernel
theorem dX2_init_12 : decode cX2_init 12 = .ok (.aload_n 0, 1) := by decide +kernel
theorem dX2_init_13 : decode cX2_init 13 = .ok (.iconst (-1), 1) := by decide +kernel
theorem dX2_init_14 : decode cX2_init 14 = .ok (.putfield 15, 3) := by decide +kernel
theorem dX2_init_17 : decode cX2_init 17 = .ok (.return_, 1) := by decide +kernel
theorem dX2_isMissing_0 : decode cX2_isMissing 0 = .ok (.aload_n 0, 1) := by decide +kernel
theorem dX2_isMissing_1 : decode cX2_isMissing 1 = .ok (.getfield 15, 3) := by decide +kernel
theorem dX2_isMissing_4 : decode cX2_isMissing 4 = .ok (.iconst (-1), 1) := by decide +kernel
theorem dX2_isMissing_5 : decode cX2_isMissing 5 = .ok (.if_icmp .ne 7, 3) := by decide +kernel
theorem dX2_isMissing_8 : decode cX2_isMissing 8 = .ok (.iconst 1, 1) := by decide +kernel
theorem dX2_isMissing_9 : decode cX2_isMissing 9 = .ok (.goto 4, 3) := by decide +kernel
theorem dX2_isMissing_12 : decode cX2_isMissing 12 = .ok (.iconst 0, 1) := by decide +kernel
theorem dX2_isMissing_13 : decode cX2_isMissing 13 = .ok (.ireturn, 1) := by decide +kernel
theorem dX2_hasPlace_0 : decode cX2_hasPlace 0 = .ok (.iload_n 1, 1) := by decide +kernel
theorem dX2_hasPlace_1 : decode cX2_hasPlace 1 = .ok (.ifCond .lt 21, 3) := by decide +kernel
theorem dX2_hasPlace_4 : decode cX2_hasPlace 4 = .ok (.iload_n 1, 1) := by decide +kernel
theorem dX2_hasPlace_5 : decode cX2_hasPlace 5 = .ok (.aload_n 0, 1) := by decide +kernel
theorem dX2_hasPlace_6 : decode cX2_hasPlace 6 = .ok (.getfield 15, 3) := by decide +kernel
theorem dX2_hasPlace_9 : decode cX2_hasPlace 9 = .ok (.if_icmp .ge 13, 3) := by decide +kernel
theorem dX2_hasPlace_12 : decode cX2_hasPlace 12 = .ok (.iload_n 1, 1) := by decide +kernel
theorem dX2_hasPlace_13 : decode cX2_hasPlace 13 = .ok (.bipush 60, 2) := by decide +kernel
theorem dX2_hasPlace_15 : decode cX2_hasPlace 15 = .ok (.if_icmp .ge 7, 3) := by decide +kernel
theorem dX2_hasPlace_18 : decode cX2_hasPlace 18 = .ok (.iconst 1, 1) := by decide +kernel
theorem dX2_hasPlace_19 : decode cX2_hasPlace 19 = .ok (.goto 4, 3) := by decide +kernel
theorem dX2_hasPlace_22 : decode cX2_hasPlace 22 = .ok (.iconst 0, 1) := by decide +kernel
theorem dX2_hasPlace_23 : decode cX2_hasPlace 23 = .ok (.ireturn, 1) := by decide +kernel
theorem dX2_hasRange_0 : decode cX2_hasRange 0 = .ok (.iload_n 1, 1) := by decide +kernel
theorem dX2_hasRange_1 : decode cX2_hasRange 1 = .ok (.ifCond .lt 29, 3) := by decide +kernel
theorem dX2_hasRange_4 : decode cX2_hasRange 4 = .ok (.iload_n 2, 1) := by decide +kernel
theorem dX2_hasRange_5 : decode cX2_hasRange 5 = .ok (.ifCond .lt 25, 3) := by decide +kernel
theorem dX2_hasRange_8 : decode cX2_hasRange 8 = .ok (.iload_n 1, 1) := by decide +kernel
theorem dX2_hasRange_9 : decode cX2_hasRange 9 = .ok (.aload_n 0, 1) := by decide +kernel
theorem dX2_hasRange_10 : decode cX2_hasRange 10 = .ok (.getfield 15, 3) := by decide +kernel
theorem dX2_hasRange_13 : decode cX2_hasRange 13 = .ok (.if_icmp .gt 17, 3) := by decide +kernel
theorem dX2_hasRange_16 : decode cX2_hasRange 16 = .ok (.iload_n 2, 1) := by decide +kernel
theorem dX2_hasRange_17 : decode cX2_hasRange 17 = .ok (.aload_n 0, 1) := by decide +kernel
theorem dX2_hasRange_18 : decode cX2_hasRange 18 = .ok (.getfield 15, 3) := by decide +kernel
theorem dX2_hasRange_21 : decode cX2_hasRange 21 = .ok (.iload_n 1, 1) := by decide +kernel
theorem dX2_hasRange_22 : decode cX2_hasRange 22 = .ok (.isub, 1) := by decide +kernel
theorem dX2_hasRange_23 : decode cX2_hasRange 23 = .ok (.if_icmp .gt 7, 3) := by decide +kernel
theorem dX2_hasRange_26 : decode cX2_hasRange 26 = .ok (.iconst 1, 1) := by decide +kernel
theorem dX2_hasRange_27 : decode cX2_hasRange 27 = .ok (.goto 4, 3) := by decide +kernel
theorem dX2_hasRange_30 : decode cX2_hasRange 30 = .ok (.iconst 0, 1) := by decide +kernel
theorem dX2_hasRange_31 : decode cX2_hasRange 31 = .ok (.ireturn, 1) := by decide +kernel
theorem dX2_become_0 : decode cX2_become 0 = .ok (.aload_n 0, 1) := by decide +kernel
theorem dX2_become_1 : decode cX2_become 1 = .ok (.iconst (-1), 1) := by decide +kernel
theorem dX2_become_2 : decode cX2_become 2 = .ok (.iload_n 1, 1) := by decide +kernel
theorem dX2_become_3 : decode cX2_become 3 = .ok (.bipush 60, 2) := by decide +kernel
theorem dX2_become_5 : decode cX2_become 5 = .ok (.invokestatic 19, 3) := by decide +kernel
theorem dX2_become_8 : decode cX2_become 8 = .ok (.invokestatic 25, 3) := by decide +kernel
theorem dX2_become_11 : decode cX2_become 11 = .ok (.putfield 15, 3) := by decide +kernel
theorem dX2_become_14 : decode cX2_become 14 = .ok (.iconst 0, 1) := by decide +kernel
theorem dX2_become_15 : decode cX2_become 15 = .ok (.istore_n 2, 1) := by decide +kernel
theorem dX2_become_16 : decode cX2_become 16 = .ok (.iload_n 2, 1) := by decide +kernel
theorem dX2_become_17 : decode cX2_become 17 = .ok (.bipush 60, 2) := by decide +kernel
theorem dX2_become_19 : decode cX2_become 19 = .ok (.if_icmp .ge 16, 3) := by decide +kernel
theorem dX2_become_22 : decode cX2_become 22 = .ok (.aload_n 0, 1) := by decide +kernel
theorem dX2_become_23 : decode cX2_become 23 = .ok (.getfield 11, 3) := by decide +kernel
theorem dX2_become_26 : decode cX2_become 26 = .ok (.iload_n 2, 1) := by decide +kernel
theorem dX2_become_27 : decode cX2_become 27 = .ok (.lconst 0, 1) := by decide +kernel
theorem dX2_become_28 : decode cX2_become 28 = .ok (.lastore, 1) := by decide +kernel
theorem dX2_become_29 : decode cX2_become 29 = .ok (.iinc 2 1, 3) := by decide +kernel
theorem dX2_become_32 : decode cX2_become 32 = .ok (.goto (-16), 3) := by decide +kernel
theorem dX2_become_35 : decode cX2_become 35 = .ok (.return_, 1) := by decide +kernel
theorem dX2_digitsInto_0 : decode cX2_digitsInto 0 = .ok (.aload_n 0, 1) := by decide +kernel
theorem dX2_digitsInto_1 : decode cX2_digitsInto 1 = .ok (.getfield 15, 3) := by decide +kernel
theorem dX2_digitsInto_4 : decode cX2_digitsInto 4 = .ok (.iload_n 2, 1) := by decide +kernel
theorem dX2_digitsInto_5 : decode cX2_digitsInto 5 = .ok (.if_icmp .le 5, 3) := by decide +kernel
theorem dX2_digitsInto_8 : decode cX2_digitsInto 8 = .ok (.iconst 0, 1) := by decide +kernel
theorem dX2_digitsInto_9 : decode cX2_digitsInto 9 = .ok (.ireturn, 1) := by decide +kernel
theorem dX2_digitsInto_10 : decode cX2_digitsInto 10 = .ok (.iconst 0, 1) := by decide +kernel
theorem dX2_digitsInto_11 : decode cX2_digitsInto 11 = .ok (.istore_n 3, 1) := by decide +kernel
theorem dX2_digitsInto_12 : decode cX2_digitsInto 12 = .ok (.iload_n 3, 1) := by decide +kernel
theorem dX2_digitsInto_13 : decode cX2_digitsInto 13 = .ok (.aload_n 1, 1) := by decide +kernel
theorem dX2_digitsInto_14 : decode cX2_digitsInto 14 = .ok (.arraylength, 1) := by decide +kernel
theorem dX2_digitsInto_15 : decode cX2_digitsInto 15 = .ok (.if_icmp .ge 53, 3) := by decide +kernel
theorem dX2_digitsInto_18 : decode cX2_digitsInto 18 = .ok (.aload_n 0, 1) := by decide +kernel
theorem dX2_digitsInto_19 : decode cX2_digitsInto 19 = .ok (.iload_n 3, 1) := by decide +kernel
theorem dX2_digitsInto_20 : decode cX2_digitsInto 20 = .ok (.invokevirtual 28, 3) := by decide +kernel
theorem dX2_digitsInto_23 : decode cX2_digitsInto 23 = .ok (.ifCond .eq 12, 3) := by decide +kernel
theorem dX2_digitsInto_26 : decode cX2_digitsInto 26 = .ok (.aload_n 0, 1) := by decide +kernel
theorem dX2_digitsInto_27 : decode cX2_digitsInto 27 = .ok (.getfield 11, 3) := by decide +kernel
theorem dX2_digitsInto_30 : decode cX2_digitsInto 30 = .ok (.iload_n 3, 1) := by decide +kernel
theorem dX2_digitsInto_31 : decode cX2_digitsInto 31 = .ok (.laload, 1) := by decide +kernel
theorem dX2_digitsInto_32 : decode cX2_digitsInto 32 = .ok (.goto 4, 3) := by decide +kernel
theorem dX2_digitsInto_35 : decode cX2_digitsInto 35 = .ok (.lconst 0, 1) := by decide +kernel
theorem dX2_digitsInto_36 : decode cX2_digitsInto 36 = .ok (.lstore 4, 2) := by decide +kernel
theorem dX2_digitsInto_38 : decode cX2_digitsInto 38 = .ok (.lload 4, 2) := by decide +kernel
theorem dX2_digitsInto_40 : decode cX2_digitsInto 40 = .ok (.lconst 0, 1) := by decide +kernel
theorem dX2_digitsInto_41 : decode cX2_digitsInto 41 = .ok (.lcmp, 1) := by decide +kernel
theorem dX2_digitsInto_42 : decode cX2_digitsInto 42 = .ok (.ifCond .lt 12, 3) := by decide +kernel
theorem dX2_digitsInto_45 : decode cX2_digitsInto 45 = .ok (.lload 4, 2) := by decide +kernel
theorem dX2_digitsInto_47 : decode cX2_digitsInto 47 = .ok (.ldc2_w 32, 3) := by decide +kernel
theorem dX2_digitsInto_50 : decode cX2_digitsInto 50 = .ok (.lcmp, 1) := by decide +kernel
theorem dX2_digitsInto_51 : decode cX2_digitsInto 51 = .ok (.ifCond .le 5, 3) := by decide +kernel
theorem dX2_digitsInto_54 : decode cX2_digitsInto 54 = .ok (.iconst 0, 1) := by decide +kernel
theorem dX2_digitsInto_55 : decode cX2_digitsInto 55 = .ok (.ireturn, 1) := by decide +kernel
theorem dX2_digitsInto_56 : decode cX2_digitsInto 56 = .ok (.aload_n 1, 1) := by decide +kernel
theorem dX2_digitsInto_57 : decode cX2_digitsInto 57 = .ok (.iload_n 3, 1) := by decide +kernel
theorem dX2_digitsInto_58 : decode cX2_digitsInto 58 = .ok (.lload 4, 2) := by decide +kernel
theorem dX2_digitsInto_60 : decode cX2_digitsInto 60 = .ok (.l2i, 1) := by decide +kernel
theorem dX2_digitsInto_61 : decode cX2_digitsInto 61 = .ok (.iastore, 1) := by decide +kernel
theorem dX2_digitsInto_62 : decode cX2_digitsInto 62 = .ok (.iinc 3 1, 3) := by decide +kernel
theorem dX2_digitsInto_65 : decode cX2_digitsInto 65 = .ok (.goto (-53), 3) := by decide +kernel
theorem dX2_digitsInto_68 : decode cX2_digitsInto 68 = .ok (.iconst 1, 1) := by decide +kernel
theorem dX2_digitsInto_69 : decode cX2_digitsInto 69 = .ok (.ireturn, 1) := by decide +kernel
