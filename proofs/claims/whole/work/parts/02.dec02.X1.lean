theorem dX1_init_0 : decode cX1_init 0 = .ok (.aload_n 0, 1) := by decide +kernel
theorem dX1_init_1 : decode cX1_init 1 = .ok (.invokespecial 3, 3) := by decide +kernel
theorem dX1_init_4 : decode cX1_init 4 = .ok (.aload_n 0, 1) := by decide +kernel
theorem dX1_init_5 : decode cX1_init 5 = .ok (.bipush 12, 2) := by decide +kernel
theorem dX1_init_7 : decode cX1_init 7 = .ok (.newarray .int, 2) := by decide +kernel
theorem dX1_init_9 : decode cX1_init 9 = .ok (.putfield 11, 3) := by decide +kernel
theorem dX1_init_12 : decode cX1_init 12 = .ok (.aload_n 0, 1) := by decide +kernel
theorem dX1_init_13 : decode cX1_init 13 = .ok (.sipush 516, 3) := by decide +kernel
theorem dX1_init_16 : decode cX1_init 16 = .ok (.newarray .int, 2) := by decide +kernel
theorem dX1_init_18 : decode cX1_init 18 = .ok (.putfield 15, 3) := by decide +kernel
theorem dX1_init_21 : decode cX1_init 21 = .ok (.aload_n 0, 1) := by decide +kernel
theorem dX1_init_22 : decode cX1_init 22 = .ok (.iconst 0, 1) := by decide +kernel
theorem dX1_init_23 : decode cX1_init 23 = .ok (.putfield 18, 3) := by decide +kernel
theorem dX1_init_26 : decode cX1_init 26 = .ok (.return_, 1) := by decide +kernel
theorem dX1_keep_0 : decode cX1_keep 0 = .ok (.aload_n 0, 1) := by decide +kernel
theorem dX1_keep_1 : decode cX1_keep 1 = .ok (.getfield 18, 3) := by decide +kernel
theorem dX1_keep_4 : decode cX1_keep 4 = .ok (.bipush 12, 2) := by decide +kernel
theorem dX1_keep_6 : decode cX1_keep 6 = .ok (.if_icmp .lt 7, 3) := by decide +kernel
theorem dX1_keep_9 : decode cX1_keep 9 = .ok (.aload_n 0, 1) := by decide +kernel
theorem dX1_keep_10 : decode cX1_keep 10 = .ok (.invokevirtual 22, 3) := by decide +kernel
theorem dX1_keep_13 : decode cX1_keep 13 = .ok (.aload_n 0, 1) := by decide +kernel
theorem dX1_keep_14 : decode cX1_keep 14 = .ok (.getfield 11, 3) := by decide +kernel
theorem dX1_keep_17 : decode cX1_keep 17 = .ok (.aload_n 0, 1) := by decide +kernel
theorem dX1_keep_18 : decode cX1_keep 18 = .ok (.getfield 18, 3) := by decide +kernel
theorem dX1_keep_21 : decode cX1_keep 21 = .ok (.iload_n 1, 1) := by decide +kernel
theorem dX1_keep_22 : decode cX1_keep 22 = .ok (.iastore, 1) := by decide +kernel
theorem dX1_keep_23 : decode cX1_keep 23 = .ok (.aload_n 2, 1) := by decide +kernel
theorem dX1_keep_24 : decode cX1_keep 24 = .ok (.iconst 0, 1) := by decide +kernel
theorem dX1_keep_25 : decode cX1_keep 25 = .ok (.aload_n 0, 1) := by decide +kernel
theorem dX1_keep_26 : decode cX1_keep 26 = .ok (.getfield 15, 3) := by decide +kernel
theorem dX1_keep_29 : decode cX1_keep 29 = .ok (.aload_n 0, 1) := by decide +kernel
theorem dX1_keep_30 : decode cX1_keep 30 = .ok (.getfield 18, 3) := by decide +kernel
theorem dX1_keep_33 : decode cX1_keep 33 = .ok (.bipush 43, 2) := by decide +kernel
theorem dX1_keep_35 : decode cX1_keep 35 = .ok (.imul, 1) := by decide +kernel
theorem dX1_keep_36 : decode cX1_keep 36 = .ok (.aload_n 2, 1) := by decide +kernel
theorem dX1_keep_37 : decode cX1_keep 37 = .ok (.arraylength, 1) := by decide +kernel
theorem dX1_keep_38 : decode cX1_keep 38 = .ok (.bipush 43, 2) := by decide +kernel
theorem dX1_keep_40 : decode cX1_keep 40 = .ok (.invokestatic 25, 3) := by decide +kernel
theorem dX1_keep_43 : decode cX1_keep 43 = .ok (.invokestatic 31, 3) := by decide +kernel
theorem dX1_keep_46 : decode cX1_keep 46 = .ok (.aload_n 0, 1) := by decide +kernel
theorem dX1_keep_47 : decode cX1_keep 47 = .ok (.dup, 1) := by decide +kernel
theorem dX1_keep_48 : decode cX1_keep 48 = .ok (.getfield 18, 3) := by decide +kernel
theorem dX1_keep_51 : decode cX1_keep 51 = .ok (.iconst 1, 1) := by decide +kernel
theorem dX1_keep_52 : decode cX1_keep 52 = .ok (.iadd, 1) := by decide +kernel
theorem dX1_keep_53 : decode cX1_keep 53 = .ok (.putfield 18, 3) := by decide +kernel
theorem dX1_keep_56 : decode cX1_keep 56 = .ok (.return_, 1) := by decide +kernel
theorem dX1_dropEldest_0 : decode cX1_dropEldest 0 = .ok (.iconst 1, 1) := by decide +kernel
theorem dX1_dropEldest_1 : decode cX1_dropEldest 1 = .ok (.istore_n 1, 1) := by decide +kernel
theorem dX1_dropEldest_2 : decode cX1_dropEldest 2 = .ok (.iload_n 1, 1) := by decide +kernel
theorem dX1_dropEldest_3 : decode cX1_dropEldest 3 = .ok (.bipush 12, 2) := by decide +kernel
theorem dX1_dropEldest_5 : decode cX1_dropEldest 5 = .ok (.if_icmp .ge 17, 3) := by decide +kernel
theorem dX1_dropEldest_8 : decode cX1_dropEldest 8 = .ok (.aload_n 0, 1) := by decide +kernel
theorem dX1_dropEldest_9 : decode cX1_dropEldest 9 = .ok (.iload_n 1, 1) := by decide +kernel
theorem dX1_dropEldest_10 : decode cX1_dropEldest 10 = .ok (.iload_n 1, 1) := by decide +kernel
theorem dX1_dropEldest_11 : decode cX1_dropEldest 11 = .ok (.iconst 1, 1) := by decide +kernel
theorem dX1_dropEldest_12 : decode cX1_dropEldest 12 = .ok (.isub, 1) := by decide +kernel
theorem dX1_dropEldest_13 : decode cX1_dropEldest 13 = .ok (.invokevirtual 37, 3) := by decide +kernel
theorem dX1_dropEldest_16 : decode cX1_dropEldest 16 = .ok (.iinc 1 1, 3) := by decide +kernel
theorem dX1_dropEldest_19 : decode cX1_dropEldest 19 = .ok (.goto (-17), 3) := by decide +kernel
theorem dX1_dropEldest_22 : decode cX1_dropEldest 22 = .ok (.aload_n 0, 1) := by decide +kernel
theorem dX1_dropEldest_23 : decode cX1_dropEldest 23 = .ok (.bipush 11, 2) := by decide +kernel
theorem dX1_dropEldest_25 : decode cX1_dropEldest 25 = .ok (.putfield 18, 3) := by decide +kernel
theorem dX1_dropEldest_28 : decode cX1_dropEldest 28 = .ok (.return_, 1) := by decide +kernel
theorem dX1_move_0 : decode cX1_move 0 = .ok (.aload_n 0, 1) := by decide +kernel
theorem dX1_move_1 : decode cX1_move 1 = .ok (.getfield 11, 3) := by decide +kernel
theorem dX1_move_4 : decode cX1_move 4 = .ok (.iload_n 2, 1) := by decide +kernel
theorem dX1_move_5 : decode cX1_move 5 = .ok (.aload_n 0, 1) := by decide +kernel
theorem dX1_move_6 : decode cX1_move 6 = .ok (.getfield 11, 3) := by decide +kernel
theorem dX1_move_9 : decode cX1_move 9 = .ok (.iload_n 1, 1) := by decide +kernel
theorem dX1_move_10 : decode cX1_move 10 = .ok (.iaload, 1) := by decide +kernel
theorem dX1_move_11 : decode cX1_move 11 = .ok (.iastore, 1) := by decide +kernel
theorem dX1_move_12 : decode cX1_move 12 = .ok (.aload_n 0, 1) := by decide +kernel
theorem dX1_move_13 : decode cX1_move 13 = .ok (.getfield 15, 3) := by decide +kernel
theorem dX1_move_16 : decode cX1_move 16 = .ok (.iload_n 1, 1) := by decide +kernel
theorem dX1_move_17 : decode cX1_move 17 = .ok (.bipush 43, 2) := by decide +kernel
theorem dX1_move_19 : decode cX1_move 19 = .ok (.imul, 1) := by decide +kernel
theorem dX1_move_20 : decode cX1_move 20 = .ok (.aload_n 0, 1) := by decide +kernel
theorem dX1_move_21 : decode cX1_move 21 = .ok (.getfield 15, 3) := by decide +kernel
theorem dX1_move_24 : decode cX1_move 24 = .ok (.iload_n 2, 1) := by decide +kernel
theorem dX1_move_25 : decode cX1_move 25 = .ok (.bipush 43, 2) := by decide +kernel
theorem dX1_move_27 : decode cX1_move 27 = .ok (.imul, 1) := by decide +kernel
theorem dX1_move_28 : decode cX1_move 28 = .ok (.bipush 43, 2) := by decide +kernel
theorem dX1_move_30 : decode cX1_move 30 = .ok (.invokestatic 31, 3) := by decide +kernel
theorem dX1_move_33 : decode cX1_move 33 = .ok (.return_, 1) := by decide +kernel
theorem dX1_forget_0 : decode cX1_forget 0 = .ok (.iconst 0, 1) := by decide +kernel
theorem dX1_forget_1 : decode cX1_forget 1 = .ok (.istore_n 2, 1) := by decide +kernel
theorem dX1_forget_2 : decode cX1_forget 2 = .ok (.iconst 0, 1) := by decide +kernel
theorem dX1_forget_3 : decode cX1_forget 3 = .ok (.istore_n 3, 1) := by decide +kernel
theorem dX1_forget_4 : decode cX1_forget 4 = .ok (.iload_n 3, 1) := by decide +kernel
theorem dX1_forget_5 : decode cX1_forget 5 = .ok (.aload_n 0, 1) := by decide +kernel
theorem dX1_forget_6 : decode cX1_forget 6 = .ok (.getfield 18, 3) := by decide +kernel
theorem dX1_forget_9 : decode cX1_forget 9 = .ok (.if_icmp .ge 34, 3) := by decide +kernel
theorem dX1_forget_12 : decode cX1_forget 12 = .ok (.iload_n 3, 1) := by decide +kernel
theorem dX1_forget_13 : decode cX1_forget 13 = .ok (.bipush 12, 2) := by decide +kernel
theorem dX1_forget_15 : decode cX1_forget 15 = .ok (.if_icmp .ge 28, 3) := by decide +kernel
theorem dX1_forget_18 : decode cX1_forget 18 = .ok (.aload_n 0, 1) := by decide +kernel
theorem dX1_forget_19 : decode cX1_forget 19 = .ok (.getfield 11, 3) := by decide +kernel
theorem dX1_forget_22 : decode cX1_forget 22 = .ok (.iload_n 3, 1) := by decide +kernel
theorem dX1_forget_23 : decode cX1_forget 23 = .ok (.iaload, 1) := by decide +kernel
theorem dX1_forget_24 : decode cX1_forget 24 = .ok (.iload_n 1, 1) := by decide +kernel
theorem dX1_forget_25 : decode cX1_forget 25 = .ok (.if_icmp .eq 12, 3) := by decide +kernel
theorem dX1_forget_28 : decode cX1_forget 28 = .ok (.aload_n 0, 1) := by decide +kernel
theorem dX1_forget_29 : decode cX1_forget 29 = .ok (.iload_n 3, 1) := by decide +kernel
theorem dX1_forget_30 : decode cX1_forget 30 = .ok (.iload_n 2, 1) := by decide +kernel
theorem dX1_forget_31 : decode cX1_forget 31 = .ok (.invokevirtual 37, 3) := by decide +kernel
theorem dX1_forget_34 : decode cX1_forget 34 = .ok (.iinc 2 1, 3) := by decide +kernel
theorem dX1_forget_37 : decode cX1_forget 37 = .ok (.iinc 3 1, 3) := by decide +kernel
theorem dX1_forget_40 : decode cX1_forget 40 = .ok (.goto (-36), 3) := by decide +kernel
theorem dX1_forget_43 : decode cX1_forget 43 = .ok (.aload_n 0, 1) := by decide +kernel
theorem dX1_forget_44 : decode cX1_forget 44 = .ok (.iload_n 2, 1) := by decide +kernel
theorem dX1_forget_45 : decode cX1_forget 45 = .ok (.putfield 18, 3) := by decide +kernel
theorem dX1_forget_48 : decode cX1_forget 48 = .ok (.return_, 1) := by decide +kernel
theorem dX1_latestReel_0 : decode cX1_latestReel 0 = .ok (.aload_n 0, 1) := by decide +kernel
theorem dX1_latestReel_1 : decode cX1_latestReel 1 = .ok (.getfield 18, 3) := by decide +kernel
theorem dX1_latestReel_4 : decode cX1_latestReel 4 = .ok (.iconst 1, 1) := by decide +kernel
theorem dX1_latestReel_5 : decode cX1_latestReel 5 = .ok (.bipush 12, 2) := by decide +kernel
theorem dX1_latestReel_7 : decode cX1_latestReel 7 = .ok (.invokestatic 41, 3) := by decide +kernel
theorem dX1_latestReel_10 : decode cX1_latestReel 10 = .ok (.ifCond .eq 17, 3) := by decide +kernel
theorem dX1_latestReel_13 : decode cX1_latestReel 13 = .ok (.aload_n 0, 1) := by decide +kernel
theorem dX1_latestReel_14 : decode cX1_latestReel 14 = .ok (.getfield 11, 3) := by decide +kernel
theorem dX1_latestReel_17 : decode cX1_latestReel 17 = .ok (.aload_n 0, 1) := by decide +kernel
theorem dX1_latestReel_18 : decode cX1_latestReel 18 = .ok (.getfield 18, 3) := by decide +kernel
theorem dX1_latestReel_21 : decode cX1_latestReel 21 = .ok (.iconst 1, 1) := by decide +kernel
theorem dX1_latestReel_22 : decode cX1_latestReel 22 = .ok (.isub, 1) := by decide +kernel
theorem dX1_latestReel_23 : decode cX1_latestReel 23 = .ok (.iaload, 1) := by decide +kernel
theorem dX1_latestReel_24 : decode cX1_latestReel 24 = .ok (.goto 4, 3) := by decide +kernel
theorem dX1_latestReel_27 : decode cX1_latestReel 27 = .ok (.iconst (-1), 1) := by decide +kernel
theorem dX1_latestReel_28 : decode cX1_latestReel 28 = .ok (.ireturn, 1) := by decide +kernel
theorem dX1_takeLatest_0 : decode cX1_takeLatest 0 = .ok (.aload_n 0, 1) := by decide +kernel
theorem dX1_takeLatest_1 : decode cX1_takeLatest 1 = .ok (.getfield 18, 3) := by decide +kernel
theorem dX1_takeLatest_4 : decode cX1_takeLatest 4 = .ok (.iconst 1, 1) := by decide +kernel
theorem dX1_takeLatest_5 : decode cX1_takeLatest 5 = .ok (.bipush 12, 2) := by decide +kernel
theorem dX1_takeLatest_7 : decode cX1_takeLatest 7 = .ok (.invokestatic 41, 3) := by decide +kernel
theorem dX1_takeLatest_10 : decode cX1_takeLatest 10 = .ok (.ifCond .eq 36, 3) := by decide +kernel
theorem dX1_takeLatest_13 : decode cX1_takeLatest 13 = .ok (.aload_n 0, 1) := by decide +kernel
theorem dX1_takeLatest_14 : decode cX1_takeLatest 14 = .ok (.dup, 1) := by decide +kernel
theorem dX1_takeLatest_15 : decode cX1_takeLatest 15 = .ok (.getfield 18, 3) := by decide +kernel
theorem dX1_takeLatest_18 : decode cX1_takeLatest 18 = .ok (.iconst 1, 1) := by decide +kernel
theorem dX1_takeLatest_19 : decode cX1_takeLatest 19 = .ok (.isub, 1) := by decide +kernel
theorem dX1_takeLatest_20 : decode cX1_takeLatest 20 = .ok (.putfield 18, 3) := by decide +kernel
theorem dX1_takeLatest_23 : decode cX1_takeLatest 23 = .ok (.aload_n 0, 1) := by decide +kernel
theorem dX1_takeLatest_24 : decode cX1_takeLatest 24 = .ok (.getfield 15, 3) := by decide +kernel
theorem dX1_takeLatest_27 : decode cX1_takeLatest 27 = .ok (.aload_n 0, 1) := by decide +kernel
theorem dX1_takeLatest_28 : decode cX1_takeLatest 28 = .ok (.getfield 18, 3) := by decide +kernel
theorem dX1_takeLatest_31 : decode cX1_takeLatest 31 = .ok (.bipush 43, 2) := by decide +kernel
theorem dX1_takeLatest_33 : decode cX1_takeLatest 33 = .ok (.imul, 1) := by decide +kernel
theorem dX1_takeLatest_34 : decode cX1_takeLatest 34 = .ok (.aload_n 1, 1) := by decide +kernel
theorem dX1_takeLatest_35 : decode cX1_takeLatest 35 = .ok (.iconst 0, 1) := by decide +kernel
theorem dX1_takeLatest_36 : decode cX1_takeLatest 36 = .ok (.aload_n 1, 1) := by decide +kernel
theorem dX1_takeLatest_37 : decode cX1_takeLatest 37 = .ok (.arraylength, 1) := by decide +kernel
theorem dX1_takeLatest_38 : decode cX1_takeLatest 38 = .ok (.bipush 43, 2) := by decide +kernel
theorem dX1_takeLatest_40 : decode cX1_takeLatest 40 = .ok (.invokestatic 25, 3) := by decide +kernel
theorem dX1_takeLatest_43 : decode cX1_takeLatest 43 = .ok (.invokestatic 31, 3) := by decide +kernel
theorem dX1_takeLatest_46 : decode cX1_takeLatest 46 = .ok (.return_, 1) := by decide +kernel
