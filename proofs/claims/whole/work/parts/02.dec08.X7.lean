theorem dX7_init_0 : decode cX7_init 0 = .ok (.aload_n 0, 1) := by decide +kernel
theorem dX7_init_1 : decode cX7_init 1 = .ok (.invokespecial 5, 3) := by decide +kernel
theorem dX7_init_4 : decode cX7_init 4 = .ok (.aload_n 0, 1) := by decide +kernel
theorem dX7_init_5 : decode cX7_init 5 = .ok (.iconst 3, 1) := by decide +kernel
theorem dX7_init_6 : decode cX7_init 6 = .ok (.anewarray 11, 3) := by decide +kernel
theorem dX7_init_9 : decode cX7_init 9 = .ok (.putfield 13, 3) := by decide +kernel
theorem dX7_init_12 : decode cX7_init 12 = .ok (.aload_n 0, 1) := by decide +kernel
theorem dX7_init_13 : decode cX7_init 13 = .ok (.bipush 6, 2) := by decide +kernel
theorem dX7_init_15 : decode cX7_init 15 = .ok (.anewarray 17, 3) := by decide +kernel
theorem dX7_init_18 : decode cX7_init 18 = .ok (.putfield 19, 3) := by decide +kernel
theorem dX7_init_21 : decode cX7_init 21 = .ok (.aload_n 0, 1) := by decide +kernel
theorem dX7_init_22 : decode cX7_init 22 = .ok (.iconst 3, 1) := by decide +kernel
theorem dX7_init_23 : decode cX7_init 23 = .ok (.anewarray 23, 3) := by decide +kernel
theorem dX7_init_26 : decode cX7_init 26 = .ok (.putfield 25, 3) := by decide +kernel
theorem dX7_init_29 : decode cX7_init 29 = .ok (.aload_n 0, 1) := by decide +kernel
theorem dX7_init_30 : decode cX7_init 30 = .ok (.new 29, 3) := by decide +kernel
theorem dX7_init_33 : decode cX7_init 33 = .ok (.dup, 1) := by decide +kernel
theorem dX7_init_34 : decode cX7_init 34 = .ok (.invokespecial 31, 3) := by decide +kernel
theorem dX7_init_37 : decode cX7_init 37 = .ok (.putfield 32, 3) := by decide +kernel
theorem dX7_init_40 : decode cX7_init 40 = .ok (.aload_n 0, 1) := by decide +kernel
theorem dX7_init_41 : decode cX7_init 41 = .ok (.new 36, 3) := by decide +kernel
theorem dX7_init_44 : decode cX7_init 44 = .ok (.dup, 1) := by decide +kernel
theorem dX7_init_45 : decode cX7_init 45 = .ok (.invokespecial 38, 3) := by decide +kernel
theorem dX7_init_48 : decode cX7_init 48 = .ok (.putfield 39, 3) := by decide +kernel
theorem dX7_init_51 : decode cX7_init 51 = .ok (.aload_n 0, 1) := by decide +kernel
theorem dX7_init_52 : decode cX7_init 52 = .ok (.new 43, 3) := by decide +kernel
theorem dX7_init_55 : decode cX7_init 55 = .ok (.dup, 1) := by decide +kernel
theorem dX7_init_56 : decode cX7_init 56 = .ok (.invokespecial 45, 3) := by decide +kernel
theorem dX7_init_59 : decode cX7_init 59 = .ok (.putfield 46, 3) := by decide +kernel
theorem dX7_init_62 : decode cX7_init 62 = .ok (.aload_n 0, 1) := by decide +kernel
theorem dX7_init_63 : decode cX7_init 63 = .ok (.iconst 3, 1) := by decide +kernel
theorem dX7_init_64 : decode cX7_init 64 = .ok (.anewarray 11, 3) := by decide +kernel
theorem dX7_init_67 : decode cX7_init 67 = .ok (.putfield 50, 3) := by decide +kernel
theorem dX7_init_70 : decode cX7_init 70 = .ok (.aload_n 0, 1) := by decide +kernel
theorem dX7_init_71 : decode cX7_init 71 = .ok (.bipush 6, 2) := by decide +kernel
theorem dX7_init_73 : decode cX7_init 73 = .ok (.anewarray 17, 3) := by decide +kernel
theorem dX7_init_76 : decode cX7_init 76 = .ok (.putfield 53, 3) := by decide +kernel
theorem dX7_init_79 : decode cX7_init 79 = .ok (.aload_n 0, 1) := by decide +kernel
theorem dX7_init_80 : decode cX7_init 80 = .ok (.iconst 0, 1) := by decide +kernel
theorem dX7_init_81 : decode cX7_init 81 = .ok (.putfield 56, 3) := by decide +kernel
theorem dX7_init_84 : decode cX7_init 84 = .ok (.aload_n 0, 1) := by decide +kernel
theorem dX7_init_85 : decode cX7_init 85 = .ok (.bipush 43, 2) := by decide +kernel
theorem dX7_init_87 : decode cX7_init 87 = .ok (.newarray .int, 2) := by decide +kernel
theorem dX7_init_89 : decode cX7_init 89 = .ok (.putfield 60, 3) := by decide +kernel
theorem dX7_init_92 : decode cX7_init 92 = .ok (.aload_n 0, 1) := by decide +kernel
theorem dX7_init_93 : decode cX7_init 93 = .ok (.bipush 43, 2) := by decide +kernel
theorem dX7_init_95 : decode cX7_init 95 = .ok (.newarray .int, 2) := by decide +kernel
theorem dX7_init_97 : decode cX7_init 97 = .ok (.putfield 64, 3) := by decide +kernel
theorem dX7_init_100 : decode cX7_init 100 = .ok (.aload_n 0, 1) := by decide +kernel
theorem dX7_init_101 : decode cX7_init 101 = .ok (.sipush 128, 3) := by decide +kernel
theorem dX7_init_104 : decode cX7_init 104 = .ok (.newarray .int, 2) := by decide +kernel
theorem dX7_init_106 : decode cX7_init 106 = .ok (.putfield 67, 3) := by decide +kernel
theorem dX7_init_109 : decode cX7_init 109 = .ok (.iconst 0, 1) := by decide +kernel
theorem dX7_init_110 : decode cX7_init 110 = .ok (.istore_n 1, 1) := by decide +kernel
theorem dX7_init_111 : decode cX7_init 111 = .ok (.iload_n 1, 1) := by decide +kernel
theorem dX7_init_112 : decode cX7_init 112 = .ok (.iconst 3, 1) := by decide +kernel
theorem dX7_init_113 : decode cX7_init 113 = .ok (.if_icmp .ge 37, 3) := by decide +kernel
theorem dX7_init_116 : decode cX7_init 116 = .ok (.aload_n 0, 1) := by decide +kernel
theorem dX7_init_117 : decode cX7_init 117 = .ok (.getfield 13, 3) := by decide +kernel
theorem dX7_init_120 : decode cX7_init 120 = .ok (.iload_n 1, 1) := by decide +kernel
theorem dX7_init_121 : decode cX7_init 121 = .ok (.new 11, 3) := by decide +kernel
theorem dX7_init_124 : decode cX7_init 124 = .ok (.dup, 1) := by decide +kernel
theorem dX7_init_125 : decode cX7_init 125 = .ok (.iload_n 1, 1) := by decide +kernel
theorem dX7_init_126 : decode cX7_init 126 = .ok (.invokespecial 70, 3) := by decide +kernel
theorem dX7_init_129 : decode cX7_init 129 = .ok (.aastore, 1) := by decide +kernel
theorem dX7_init_130 : decode cX7_init 130 = .ok (.aload_n 0, 1) := by decide +kernel
theorem dX7_init_131 : decode cX7_init 131 = .ok (.getfield 50, 3) := by decide +kernel
theorem dX7_init_134 : decode cX7_init 134 = .ok (.iload_n 1, 1) := by decide +kernel
theorem dX7_init_135 : decode cX7_init 135 = .ok (.new 11, 3) := by decide +kernel
theorem dX7_init_138 : decode cX7_init 138 = .ok (.dup, 1) := by decide +kernel
theorem dX7_init_139 : decode cX7_init 139 = .ok (.iload_n 1, 1) := by decide +kernel
theorem dX7_init_140 : decode cX7_init 140 = .ok (.invokespecial 70, 3) := by decide +kernel
theorem dX7_init_143 : decode cX7_init 143 = .ok (.aastore, 1) := by decide +kernel
theorem dX7_init_144 : decode cX7_init 144 = .ok (.iinc 1 1, 3) := by decide +kernel
theorem dX7_init_147 : decode cX7_init 147 = .ok (.goto (-36), 3) := by decide +kernel
theorem dX7_init_150 : decode cX7_init 150 = .ok (.iconst 0, 1) := by decide +kernel
theorem dX7_init_151 : decode cX7_init 151 = .ok (.istore_n 1, 1) := by decide +kernel
theorem dX7_init_152 : decode cX7_init 152 = .ok (.iload_n 1, 1) := by decide +kernel
theorem dX7_init_153 : decode cX7_init 153 = .ok (.bipush 6, 2) := by decide +kernel
theorem dX7_init_155 : decode cX7_init 155 = .ok (.if_icmp .ge 35, 3) := by decide +kernel
theorem dX7_init_158 : decode cX7_init 158 = .ok (.aload_n 0, 1) := by decide +kernel
theorem dX7_init_159 : decode cX7_init 159 = .ok (.getfield 19, 3) := by decide +kernel
theorem dX7_init_162 : decode cX7_init 162 = .ok (.iload_n 1, 1) := by decide +kernel
theorem dX7_init_163 : decode cX7_init 163 = .ok (.new 17, 3) := by decide +kernel
theorem dX7_init_166 : decode cX7_init 166 = .ok (.dup, 1) := by decide +kernel
theorem dX7_init_167 : decode cX7_init 167 = .ok (.invokespecial 73, 3) := by decide +kernel
theorem dX7_init_170 : decode cX7_init 170 = .ok (.aastore, 1) := by decide +kernel
theorem dX7_init_171 : decode cX7_init 171 = .ok (.aload_n 0, 1) := by decide +kernel
theorem dX7_init_172 : decode cX7_init 172 = .ok (.getfield 53, 3) := by decide +kernel
theorem dX7_init_175 : decode cX7_init 175 = .ok (.iload_n 1, 1) := by decide +kernel
theorem dX7_init_176 : decode cX7_init 176 = .ok (.new 17, 3) := by decide +kernel
theorem dX7_init_179 : decode cX7_init 179 = .ok (.dup, 1) := by decide +kernel
theorem dX7_init_180 : decode cX7_init 180 = .ok (.invokespecial 73, 3) := by decide +kernel
theorem dX7_init_183 : decode cX7_init 183 = .ok (.aastore, 1) := by decide +kernel
theorem dX7_init_184 : decode cX7_init 184 = .ok (.iinc 1 1, 3) := by decide +kernel
theorem dX7_init_187 : decode cX7_init 187 = .ok (.goto (-35), 3) := by decide +kernel
theorem dX7_init_190 : decode cX7_init 190 = .ok (.iconst 0, 1) := by decide +kernel
theorem dX7_init_191 : decode cX7_init 191 = .ok (.istore_n 1, 1) := by decide +kernel
theorem dX7_init_192 : decode cX7_init 192 = .ok (.iload_n 1, 1) := by decide +kernel
theorem dX7_init_193 : decode cX7_init 193 = .ok (.iconst 3, 1) := by decide +kernel
theorem dX7_init_194 : decode cX7_init 194 = .ok (.if_icmp .ge 22, 3) := by decide +kernel
theorem dX7_init_197 : decode cX7_init 197 = .ok (.aload_n 0, 1) := by decide +kernel
theorem dX7_init_198 : decode cX7_init 198 = .ok (.getfield 25, 3) := by decide +kernel
theorem dX7_init_201 : decode cX7_init 201 = .ok (.iload_n 1, 1) := by decide +kernel
theorem dX7_init_202 : decode cX7_init 202 = .ok (.new 23, 3) := by decide +kernel
theorem dX7_init_205 : decode cX7_init 205 = .ok (.dup, 1) := by decide +kernel
theorem dX7_init_206 : decode cX7_init 206 = .ok (.invokespecial 74, 3) := by decide +kernel
theorem dX7_init_209 : decode cX7_init 209 = .ok (.aastore, 1) := by decide +kernel
theorem dX7_init_210 : decode cX7_init 210 = .ok (.iinc 1 1, 3) := by decide +kernel
theorem dX7_init_213 : decode cX7_init 213 = .ok (.goto (-21), 3) := by decide +kernel
theorem dX7_init_216 : decode cX7_init 216 = .ok (.return_, 1) := by decide +kernel
theorem dX7_base_0 : decode cX7_base 0 = .ok (.aload_n 0, 1) := by decide +kernel
theorem dX7_base_1 : decode cX7_base 1 = .ok (.iload_n 1, 1) := by decide +kernel
theorem dX7_base_2 : decode cX7_base 2 = .ok (.invokevirtual 75, 3) := by decide +kernel
theorem dX7_base_5 : decode cX7_base 5 = .ok (.astore 4, 2) := by decide +kernel
theorem dX7_base_7 : decode cX7_base 7 = .ok (.aload 4, 2) := by decide +kernel
theorem dX7_base_9 : decode cX7_base 9 = .ok (.ifnull 11, 3) := by decide +kernel
theorem dX7_base_12 : decode cX7_base 12 = .ok (.iload_n 2, 1) := by decide +kernel
theorem dX7_base_13 : decode cX7_base 13 = .ok (.iload_n 3, 1) := by decide +kernel
theorem dX7_base_14 : decode cX7_base 14 = .ok (.invokestatic 79, 3) := by decide +kernel
theorem dX7_base_17 : decode cX7_base 17 = .ok (.ifCond .ne 6, 3) := by decide +kernel
theorem dX7_base_20 : decode cX7_base 20 = .ok (.bipush (-2), 2) := by decide +kernel
theorem dX7_base_22 : decode cX7_base 22 = .ok (.ireturn, 1) := by decide +kernel
theorem dX7_base_23 : decode cX7_base 23 = .ok (.aload 4, 2) := by decide +kernel
theorem dX7_base_25 : decode cX7_base 25 = .ok (.iload_n 2, 1) := by decide +kernel
theorem dX7_base_26 : decode cX7_base 26 = .ok (.iload_n 3, 1) := by decide +kernel
theorem dX7_base_27 : decode cX7_base 27 = .ok (.invokevirtual 83, 3) := by decide +kernel
theorem dX7_base_30 : decode cX7_base 30 = .ok (.iconst 0, 1) := by decide +kernel
theorem dX7_base_31 : decode cX7_base 31 = .ok (.istore 5, 2) := by decide +kernel
theorem dX7_base_33 : decode cX7_base 33 = .ok (.iload 5, 2) := by decide +kernel
theorem dX7_base_35 : decode cX7_base 35 = .ok (.bipush 6, 2) := by decide +kernel
theorem dX7_base_37 : decode cX7_base 37 = .ok (.if_icmp .ge 38, 3) := by decide +kernel
theorem dX7_base_40 : decode cX7_base 40 = .ok (.aload_n 0, 1) := by decide +kernel
theorem dX7_base_41 : decode cX7_base 41 = .ok (.iload 5, 2) := by decide +kernel
theorem dX7_base_43 : decode cX7_base 43 = .ok (.invokevirtual 87, 3) := by decide +kernel
theorem dX7_base_46 : decode cX7_base 46 = .ok (.astore 6, 2) := by decide +kernel
theorem dX7_base_48 : decode cX7_base 48 = .ok (.aload 6, 2) := by decide +kernel
theorem dX7_base_50 : decode cX7_base 50 = .ok (.ifnull 19, 3) := by decide +kernel
theorem dX7_base_53 : decode cX7_base 53 = .ok (.aload 6, 2) := by decide +kernel
theorem dX7_base_55 : decode cX7_base 55 = .ok (.getfield 91, 3) := by decide +kernel
theorem dX7_base_58 : decode cX7_base 58 = .ok (.aload 4, 2) := by decide +kernel
theorem dX7_base_60 : decode cX7_base 60 = .ok (.if_acmp .ne 9, 3) := by decide +kernel
theorem dX7_base_63 : decode cX7_base 63 = .ok (.aload_n 0, 1) := by decide +kernel
theorem dX7_base_64 : decode cX7_base 64 = .ok (.iload 5, 2) := by decide +kernel
theorem dX7_base_66 : decode cX7_base 66 = .ok (.invokevirtual 95, 3) := by decide +kernel
theorem dX7_base_69 : decode cX7_base 69 = .ok (.iinc 5 1, 3) := by decide +kernel
theorem dX7_base_72 : decode cX7_base 72 = .ok (.goto (-39), 3) := by decide +kernel
theorem dX7_base_75 : decode cX7_base 75 = .ok (.aload 4, 2) := by decide +kernel
theorem dX7_base_77 : decode cX7_base 77 = .ok (.getfield 98, 3) := by decide +kernel
theorem dX7_base_80 : decode cX7_base 80 = .ok (.ireturn, 1) := by decide +kernel
theorem dX7_of_0 : decode cX7_of 0 = .ok (.aload_n 0, 1) := by decide +kernel
theorem dX7_of_1 : decode cX7_of 1 = .ok (.iload_n 1, 1) := by decide +kernel
theorem dX7_of_2 : decode cX7_of 2 = .ok (.invokevirtual 75, 3) := by decide +kernel
theorem dX7_of_5 : decode cX7_of 5 = .ok (.astore_n 3, 1) := by decide +kernel
theorem dX7_of_6 : decode cX7_of 6 = .ok (.aload_n 3, 1) := by decide +kernel
theorem dX7_of_7 : decode cX7_of 7 = .ok (.ifnull 12, 3) := by decide +kernel
theorem dX7_of_10 : decode cX7_of 10 = .ok (.iload_n 2, 1) := by decide +kernel
theorem dX7_of_11 : decode cX7_of 11 = .ok (.iconst 0, 1) := by decide +kernel
theorem dX7_of_12 : decode cX7_of 12 = .ok (.iconst 2, 1) := by decide +kernel
theorem dX7_of_13 : decode cX7_of 13 = .ok (.invokestatic 102, 3) := by decide +kernel
theorem dX7_of_16 : decode cX7_of 16 = .ok (.ifCond .ne 6, 3) := by decide +kernel
theorem dX7_of_19 : decode cX7_of 19 = .ok (.bipush (-2), 2) := by decide +kernel
theorem dX7_of_21 : decode cX7_of 21 = .ok (.ireturn, 1) := by decide +kernel
theorem dX7_of_22 : decode cX7_of 22 = .ok (.iload_n 2, 1) := by decide +kernel
theorem dX7_of_23 : decode cX7_of 23 = .ok (.ifCond .ne 8, 3) := by decide +kernel
theorem dX7_of_26 : decode cX7_of 26 = .ok (.aload_n 3, 1) := by decide +kernel
theorem dX7_of_27 : decode cX7_of 27 = .ok (.invokevirtual 106, 3) := by decide +kernel
theorem dX7_of_30 : decode cX7_of 30 = .ok (.ireturn, 1) := by decide +kernel
theorem dX7_of_31 : decode cX7_of 31 = .ok (.iload_n 2, 1) := by decide +kernel
theorem dX7_of_32 : decode cX7_of 32 = .ok (.iconst 1, 1) := by decide +kernel
theorem dX7_of_33 : decode cX7_of 33 = .ok (.if_icmp .ne 10, 3) := by decide +kernel
theorem dX7_of_36 : decode cX7_of 36 = .ok (.aload_n 3, 1) := by decide +kernel
theorem dX7_of_37 : decode cX7_of 37 = .ok (.getfield 110, 3) := by decide +kernel
theorem dX7_of_40 : decode cX7_of 40 = .ok (.goto 7, 3) := by decide +kernel
theorem dX7_of_43 : decode cX7_of 43 = .ok (.aload_n 3, 1) := by decide +kernel
theorem dX7_of_44 : decode cX7_of 44 = .ok (.getfield 98, 3) := by decide +kernel
theorem dX7_of_47 : decode cX7_of 47 = .ok (.ireturn, 1) := by decide +kernel
theorem dX7_worth_0 : decode cX7_worth 0 = .ok (.aload_n 0, 1) := by decide +kernel
theorem dX7_worth_1 : decode cX7_worth 1 = .ok (.iload_n 1, 1) := by decide +kernel
theorem dX7_worth_2 : decode cX7_worth 2 = .ok (.invokevirtual 75, 3) := by decide +kernel
theorem dX7_worth_5 : decode cX7_worth 5 = .ok (.astore 4, 2) := by decide +kernel
theorem dX7_worth_7 : decode cX7_worth 7 = .ok (.aload 4, 2) := by decide +kernel
theorem dX7_worth_9 : decode cX7_worth 9 = .ok (.ifnull 21, 3) := by decide +kernel
theorem dX7_worth_12 : decode cX7_worth 12 = .ok (.aload 4, 2) := by decide +kernel
theorem dX7_worth_14 : decode cX7_worth 14 = .ok (.iload_n 2, 1) := by decide +kernel
theorem dX7_worth_15 : decode cX7_worth 15 = .ok (.invokevirtual 113, 3) := by decide +kernel
theorem dX7_worth_18 : decode cX7_worth 18 = .ok (.ifCond .eq 12, 3) := by decide +kernel
theorem dX7_worth_21 : decode cX7_worth 21 = .ok (.iload_n 3, 1) := by decide +kernel
theorem dX7_worth_22 : decode cX7_worth 22 = .ok (.iconst 0, 1) := by decide +kernel
theorem dX7_worth_23 : decode cX7_worth 23 = .ok (.iconst 1, 1) := by decide +kernel
theorem dX7_worth_24 : decode cX7_worth 24 = .ok (.invokestatic 102, 3) := by decide +kernel
theorem dX7_worth_27 : decode cX7_worth 27 = .ok (.ifCond .ne 7, 3) := by decide +kernel
theorem dX7_worth_30 : decode cX7_worth 30 = .ok (.ldc2_w 117, 3) := by decide +kernel
theorem dX7_worth_33 : decode cX7_worth 33 = .ok (.lreturn, 1) := by decide +kernel
theorem dX7_worth_34 : decode cX7_worth 34 = .ok (.iload_n 3, 1) := by decide +kernel
theorem dX7_worth_35 : decode cX7_worth 35 = .ok (.ifCond .ne 13, 3) := by decide +kernel
theorem dX7_worth_38 : decode cX7_worth 38 = .ok (.aload 4, 2) := by decide +kernel
theorem dX7_worth_40 : decode cX7_worth 40 = .ok (.getfield 119, 3) := by decide +kernel
theorem dX7_worth_43 : decode cX7_worth 43 = .ok (.iload_n 2, 1) := by decide +kernel
theorem dX7_worth_44 : decode cX7_worth 44 = .ok (.laload, 1) := by decide +kernel
theorem dX7_worth_45 : decode cX7_worth 45 = .ok (.goto 11, 3) := by decide +kernel
theorem dX7_worth_48 : decode cX7_worth 48 = .ok (.aload 4, 2) := by decide +kernel
theorem dX7_worth_50 : decode cX7_worth 50 = .ok (.getfield 123, 3) := by decide +kernel
theorem dX7_worth_53 : decode cX7_worth 53 = .ok (.iload_n 2, 1) := by decide +kernel
theorem dX7_worth_54 : decode cX7_worth 54 = .ok (.iaload, 1) := by decide +kernel
theorem dX7_worth_55 : decode cX7_worth 55 = .ok (.i2l, 1) := by decide +kernel
theorem dX7_worth_56 : decode cX7_worth 56 = .ok (.lreturn, 1) := by decide +kernel
theorem dX7_top_0 : decode cX7_top 0 = .ok (.aload_n 0, 1) := by decide +kernel
theorem dX7_top_1 : decode cX7_top 1 = .ok (.iload_n 1, 1) := by decide +kernel
theorem dX7_top_2 : decode cX7_top 2 = .ok (.invokevirtual 75, 3) := by decide +kernel
theorem dX7_top_5 : decode cX7_top 5 = .ok (.astore_n 2, 1) := by decide +kernel
theorem dX7_top_6 : decode cX7_top 6 = .ok (.aload_n 2, 1) := by decide +kernel
theorem dX7_top_7 : decode cX7_top 7 = .ok (.ifnonnull 9, 3) := by decide +kernel
theorem dX7_top_10 : decode cX7_top 10 = .ok (.ldc2_w 117, 3) := by decide +kernel
theorem dX7_top_13 : decode cX7_top 13 = .ok (.goto 7, 3) := by decide +kernel
theorem dX7_top_16 : decode cX7_top 16 = .ok (.aload_n 2, 1) := by decide +kernel
theorem dX7_top_17 : decode cX7_top 17 = .ok (.getfield 126, 3) := by decide +kernel
theorem dX7_top_20 : decode cX7_top 20 = .ok (.lreturn, 1) := by decide +kernel
theorem dX7_taken_0 : decode cX7_taken 0 = .ok (.aload_n 0, 1) := by decide +kernel
theorem dX7_taken_1 : decode cX7_taken 1 = .ok (.iload_n 1, 1) := by decide +kernel
theorem dX7_taken_2 : decode cX7_taken 2 = .ok (.invokevirtual 75, 3) := by decide +kernel
theorem dX7_taken_5 : decode cX7_taken 5 = .ok (.astore_n 3, 1) := by decide +kernel
theorem dX7_taken_6 : decode cX7_taken 6 = .ok (.aload_n 3, 1) := by decide +kernel
theorem dX7_taken_7 : decode cX7_taken 7 = .ok (.ifnull 12, 3) := by decide +kernel
theorem dX7_taken_10 : decode cX7_taken 10 = .ok (.iload_n 2, 1) := by decide +kernel
theorem dX7_taken_11 : decode cX7_taken 11 = .ok (.iconst 0, 1) := by decide +kernel
theorem dX7_taken_12 : decode cX7_taken 12 = .ok (.iconst 3, 1) := by decide +kernel
theorem dX7_taken_13 : decode cX7_taken 13 = .ok (.invokestatic 102, 3) := by decide +kernel
theorem dX7_taken_16 : decode cX7_taken 16 = .ok (.ifCond .ne 6, 3) := by decide +kernel
theorem dX7_taken_19 : decode cX7_taken 19 = .ok (.bipush (-2), 2) := by decide +kernel
theorem dX7_taken_21 : decode cX7_taken 21 = .ok (.ireturn, 1) := by decide +kernel
theorem dX7_taken_22 : decode cX7_taken 22 = .ok (.aload_n 3, 1) := by decide +kernel
theorem dX7_taken_23 : decode cX7_taken 23 = .ok (.invokevirtual 106, 3) := by decide +kernel
theorem dX7_taken_26 : decode cX7_taken 26 = .ok (.istore 4, 2) := by decide +kernel
theorem dX7_taken_28 : decode cX7_taken 28 = .ok (.iload 4, 2) := by decide +kernel
theorem dX7_taken_30 : decode cX7_taken 30 = .ok (.iload_n 2, 1) := by decide +kernel
theorem dX7_taken_31 : decode cX7_taken 31 = .ok (.invokestatic 130, 3) := by decide +kernel
theorem dX7_taken_34 : decode cX7_taken 34 = .ok (.ifCond .eq 8, 3) := by decide +kernel
theorem dX7_taken_37 : decode cX7_taken 37 = .ok (.iload 4, 2) := by decide +kernel
theorem dX7_taken_39 : decode cX7_taken 39 = .ok (.goto 5, 3) := by decide +kernel
theorem dX7_taken_42 : decode cX7_taken 42 = .ok (.bipush (-13), 2) := by decide +kernel
theorem dX7_taken_44 : decode cX7_taken 44 = .ok (.ireturn, 1) := by decide +kernel
theorem dX7_write_0 : decode cX7_write 0 = .ok (.aload_n 0, 1) := by decide +kernel
theorem dX7_write_1 : decode cX7_write 1 = .ok (.iload_n 2, 1) := by decide +kernel
theorem dX7_write_2 : decode cX7_write 2 = .ok (.invokevirtual 75, 3) := by decide +kernel
theorem dX7_write_5 : decode cX7_write 5 = .ok (.astore 5, 2) := by decide +kernel
theorem dX7_write_7 : decode cX7_write 7 = .ok (.aload_n 0, 1) := by decide +kernel
theorem dX7_write_8 : decode cX7_write 8 = .ok (.iload_n 1, 1) := by decide +kernel
theorem dX7_write_9 : decode cX7_write 9 = .ok (.invokevirtual 87, 3) := by decide +kernel
theorem dX7_write_12 : decode cX7_write 12 = .ok (.ifnull 14, 3) := by decide +kernel
theorem dX7_write_15 : decode cX7_write 15 = .ok (.aload 5, 2) := by decide +kernel
theorem dX7_write_17 : decode cX7_write 17 = .ok (.ifnull 9, 3) := by decide +kernel
theorem dX7_write_20 : decode cX7_write 20 = .ok (.lload_n 3, 1) := by decide +kernel
theorem dX7_write_21 : decode cX7_write 21 = .ok (.lconst 0, 1) := by decide +kernel
theorem dX7_write_22 : decode cX7_write 22 = .ok (.lcmp, 1) := by decide +kernel
theorem dX7_write_23 : decode cX7_write 23 = .ok (.ifCond .ge 6, 3) := by decide +kernel
theorem dX7_write_26 : decode cX7_write 26 = .ok (.bipush (-2), 2) := by decide +kernel
theorem dX7_write_28 : decode cX7_write 28 = .ok (.ireturn, 1) := by decide +kernel
theorem dX7_write_29 : decode cX7_write 29 = .ok (.lload_n 3, 1) := by decide +kernel
theorem dX7_write_30 : decode cX7_write 30 = .ok (.aload 5, 2) := by decide +kernel
theorem dX7_write_32 : decode cX7_write 32 = .ok (.getfield 126, 3) := by decide +kernel
theorem dX7_write_35 : decode cX7_write 35 = .ok (.lcmp, 1) := by decide +kernel
theorem dX7_write_36 : decode cX7_write 36 = .ok (.ifCond .le 6, 3) := by decide +kernel
theorem dX7_write_39 : decode cX7_write 39 = .ok (.bipush (-3), 2) := by decide +kernel
theorem dX7_write_41 : decode cX7_write 41 = .ok (.ireturn, 1) := by decide +kernel
theorem dX7_write_42 : decode cX7_write 42 = .ok (.aload 5, 2) := by decide +kernel
theorem dX7_write_44 : decode cX7_write 44 = .ok (.aload_n 0, 1) := by decide +kernel
theorem dX7_write_45 : decode cX7_write 45 = .ok (.getfield 60, 3) := by decide +kernel
theorem dX7_write_48 : decode cX7_write 48 = .ok (.lload_n 3, 1) := by decide +kernel
theorem dX7_write_49 : decode cX7_write 49 = .ok (.invokevirtual 133, 3) := by decide +kernel
theorem dX7_write_52 : decode cX7_write 52 = .ok (.aload_n 0, 1) := by decide +kernel
theorem dX7_write_53 : decode cX7_write 53 = .ok (.iload_n 1, 1) := by decide +kernel
theorem dX7_write_54 : decode cX7_write 54 = .ok (.aload 5, 2) := by decide +kernel
theorem dX7_write_56 : decode cX7_write 56 = .ok (.aload_n 0, 1) := by decide +kernel
theorem dX7_write_57 : decode cX7_write 57 = .ok (.getfield 60, 3) := by decide +kernel
theorem dX7_write_60 : decode cX7_write 60 = .ok (.invokevirtual 137, 3) := by decide +kernel
theorem dX7_write_63 : decode cX7_write 63 = .ok (.ireturn, 1) := by decide +kernel
theorem dX7_empty_0 : decode cX7_empty 0 = .ok (.aload_n 0, 1) := by decide +kernel
theorem dX7_empty_1 : decode cX7_empty 1 = .ok (.iload_n 1, 1) := by decide +kernel
theorem dX7_empty_2 : decode cX7_empty 2 = .ok (.invokevirtual 87, 3) := by decide +kernel
theorem dX7_empty_5 : decode cX7_empty 5 = .ok (.astore_n 2, 1) := by decide +kernel
theorem dX7_empty_6 : decode cX7_empty 6 = .ok (.aload_n 2, 1) := by decide +kernel
theorem dX7_empty_7 : decode cX7_empty 7 = .ok (.ifnonnull 6, 3) := by decide +kernel
theorem dX7_empty_10 : decode cX7_empty 10 = .ok (.bipush (-2), 2) := by decide +kernel
theorem dX7_empty_12 : decode cX7_empty 12 = .ok (.ireturn, 1) := by decide +kernel
theorem dX7_empty_13 : decode cX7_empty 13 = .ok (.aload_n 2, 1) := by decide +kernel
theorem dX7_empty_14 : decode cX7_empty 14 = .ok (.getfield 91, 3) := by decide +kernel
theorem dX7_empty_17 : decode cX7_empty 17 = .ok (.ifnonnull 6, 3) := by decide +kernel
theorem dX7_empty_20 : decode cX7_empty 20 = .ok (.bipush (-11), 2) := by decide +kernel
theorem dX7_empty_22 : decode cX7_empty 22 = .ok (.ireturn, 1) := by decide +kernel
theorem dX7_empty_23 : decode cX7_empty 23 = .ok (.aload_n 0, 1) := by decide +kernel
theorem dX7_empty_24 : decode cX7_empty 24 = .ok (.iload_n 1, 1) := by decide +kernel
theorem dX7_empty_25 : decode cX7_empty 25 = .ok (.invokevirtual 95, 3) := by decide +kernel
theorem dX7_empty_28 : decode cX7_empty 28 = .ok (.iconst 1, 1) := by decide +kernel
theorem dX7_empty_29 : decode cX7_empty 29 = .ok (.ireturn, 1) := by decide +kernel
theorem dX7_told_0 : decode cX7_told 0 = .ok (.aload_n 0, 1) := by decide +kernel
theorem dX7_told_1 : decode cX7_told 1 = .ok (.iload_n 1, 1) := by decide +kernel
theorem dX7_told_2 : decode cX7_told 2 = .ok (.invokevirtual 87, 3) := by decide +kernel
theorem dX7_told_5 : decode cX7_told 5 = .ok (.astore_n 3, 1) := by decide +kernel
theorem dX7_told_6 : decode cX7_told 6 = .ok (.aload_n 3, 1) := by decide +kernel
theorem dX7_told_7 : decode cX7_told 7 = .ok (.ifnull 12, 3) := by decide +kernel
theorem dX7_told_10 : decode cX7_told 10 = .ok (.iload_n 2, 1) := by decide +kernel
theorem dX7_told_11 : decode cX7_told 11 = .ok (.iconst 0, 1) := by decide +kernel
theorem dX7_told_12 : decode cX7_told 12 = .ok (.iconst 3, 1) := by decide +kernel
theorem dX7_told_13 : decode cX7_told 13 = .ok (.invokestatic 102, 3) := by decide +kernel
theorem dX7_told_16 : decode cX7_told 16 = .ok (.ifCond .ne 6, 3) := by decide +kernel
theorem dX7_told_19 : decode cX7_told 19 = .ok (.bipush (-2), 2) := by decide +kernel
theorem dX7_told_21 : decode cX7_told 21 = .ok (.ireturn, 1) := by decide +kernel
theorem dX7_told_22 : decode cX7_told 22 = .ok (.aload_n 3, 1) := by decide +kernel
theorem dX7_told_23 : decode cX7_told 23 = .ok (.getfield 91, 3) := by decide +kernel
theorem dX7_told_26 : decode cX7_told 26 = .ok (.astore 4, 2) := by decide +kernel
theorem dX7_told_28 : decode cX7_told 28 = .ok (.aload 4, 2) := by decide +kernel
theorem dX7_told_30 : decode cX7_told 30 = .ok (.ifnonnull 6, 3) := by decide +kernel
theorem dX7_told_33 : decode cX7_told 33 = .ok (.bipush (-11), 2) := by decide +kernel
theorem dX7_told_35 : decode cX7_told 35 = .ok (.ireturn, 1) := by decide +kernel
theorem dX7_told_36 : decode cX7_told 36 = .ok (.iload_n 2, 1) := by decide +kernel
theorem dX7_told_37 : decode cX7_told 37 = .ok (.tableswitch 59 0 2 #[27, 33, 51], 27) := by decide +kernel
theorem dX7_told_64 : decode cX7_told 64 = .ok (.aload 4, 2) := by decide +kernel
theorem dX7_told_66 : decode cX7_told 66 = .ok (.getfield 141, 3) := by decide +kernel
theorem dX7_told_69 : decode cX7_told 69 = .ok (.ireturn, 1) := by decide +kernel
theorem dX7_told_70 : decode cX7_told 70 = .ok (.aload 4, 2) := by decide +kernel
theorem dX7_told_72 : decode cX7_told 72 = .ok (.aload_n 3, 1) := by decide +kernel
theorem dX7_told_73 : decode cX7_told 73 = .ok (.getfield 144, 3) := by decide +kernel
theorem dX7_told_76 : decode cX7_told 76 = .ok (.invokevirtual 147, 3) := by decide +kernel
theorem dX7_told_79 : decode cX7_told 79 = .ok (.ifCond .eq 7, 3) := by decide +kernel
theorem dX7_told_82 : decode cX7_told 82 = .ok (.iconst 1, 1) := by decide +kernel
theorem dX7_told_83 : decode cX7_told 83 = .ok (.goto 4, 3) := by decide +kernel
theorem dX7_told_86 : decode cX7_told 86 = .ok (.iconst 0, 1) := by decide +kernel
theorem dX7_told_87 : decode cX7_told 87 = .ok (.ireturn, 1) := by decide +kernel
theorem dX7_told_88 : decode cX7_told 88 = .ok (.aload_n 3, 1) := by decide +kernel
theorem dX7_told_89 : decode cX7_told 89 = .ok (.getfield 144, 3) := by decide +kernel
theorem dX7_told_92 : decode cX7_told 92 = .ok (.invokestatic 151, 3) := by decide +kernel
theorem dX7_told_95 : decode cX7_told 95 = .ok (.ireturn, 1) := by decide +kernel
theorem dX7_told_96 : decode cX7_told 96 = .ok (.aload_n 3, 1) := by decide +kernel
theorem dX7_told_97 : decode cX7_told 97 = .ok (.getfield 144, 3) := by decide +kernel
theorem dX7_told_100 : decode cX7_told 100 = .ok (.invokestatic 155, 3) := by decide +kernel
theorem dX7_told_103 : decode cX7_told 103 = .ok (.ireturn, 1) := by decide +kernel
theorem dX7_at_0 : decode cX7_at 0 = .ok (.aload_n 0, 1) := by decide +kernel
theorem dX7_at_1 : decode cX7_at 1 = .ok (.iload_n 1, 1) := by decide +kernel
theorem dX7_at_2 : decode cX7_at 2 = .ok (.invokevirtual 87, 3) := by decide +kernel
theorem dX7_at_5 : decode cX7_at 5 = .ok (.astore_n 3, 1) := by decide +kernel
theorem dX7_at_6 : decode cX7_at 6 = .ok (.aload_n 3, 1) := by decide +kernel
theorem dX7_at_7 : decode cX7_at 7 = .ok (.ifnonnull 6, 3) := by decide +kernel
theorem dX7_at_10 : decode cX7_at 10 = .ok (.bipush (-2), 2) := by decide +kernel
theorem dX7_at_12 : decode cX7_at 12 = .ok (.ireturn, 1) := by decide +kernel
theorem dX7_at_13 : decode cX7_at 13 = .ok (.aload_n 3, 1) := by decide +kernel
theorem dX7_at_14 : decode cX7_at 14 = .ok (.getfield 91, 3) := by decide +kernel
theorem dX7_at_17 : decode cX7_at 17 = .ok (.astore 4, 2) := by decide +kernel
theorem dX7_at_19 : decode cX7_at 19 = .ok (.aload 4, 2) := by decide +kernel
theorem dX7_at_21 : decode cX7_at 21 = .ok (.ifnonnull 6, 3) := by decide +kernel
theorem dX7_at_24 : decode cX7_at 24 = .ok (.bipush (-11), 2) := by decide +kernel
theorem dX7_at_26 : decode cX7_at 26 = .ok (.ireturn, 1) := by decide +kernel
theorem dX7_at_27 : decode cX7_at 27 = .ok (.aload 4, 2) := by decide +kernel
theorem dX7_at_29 : decode cX7_at 29 = .ok (.iload_n 2, 1) := by decide +kernel
theorem dX7_at_30 : decode cX7_at 30 = .ok (.invokevirtual 113, 3) := by decide +kernel
theorem dX7_at_33 : decode cX7_at 33 = .ok (.ifCond .eq 12, 3) := by decide +kernel
theorem dX7_at_36 : decode cX7_at 36 = .ok (.aload_n 3, 1) := by decide +kernel
theorem dX7_at_37 : decode cX7_at 37 = .ok (.getfield 144, 3) := by decide +kernel
theorem dX7_at_40 : decode cX7_at 40 = .ok (.iload_n 2, 1) := by decide +kernel
theorem dX7_at_41 : decode cX7_at 41 = .ok (.iaload, 1) := by decide +kernel
theorem dX7_at_42 : decode cX7_at 42 = .ok (.goto 5, 3) := by decide +kernel
theorem dX7_at_45 : decode cX7_at 45 = .ok (.bipush (-12), 2) := by decide +kernel
theorem dX7_at_47 : decode cX7_at 47 = .ok (.ireturn, 1) := by decide +kernel
theorem dX7_value_0 : decode cX7_value 0 = .ok (.aload_n 0, 1) := by decide +kernel
theorem dX7_value_1 : decode cX7_value 1 = .ok (.iload_n 1, 1) := by decide +kernel
theorem dX7_value_2 : decode cX7_value 2 = .ok (.invokevirtual 87, 3) := by decide +kernel
theorem dX7_value_5 : decode cX7_value 5 = .ok (.astore_n 2, 1) := by decide +kernel
theorem dX7_value_6 : decode cX7_value 6 = .ok (.aload_n 2, 1) := by decide +kernel
theorem dX7_value_7 : decode cX7_value 7 = .ok (.ifnonnull 7, 3) := by decide +kernel
theorem dX7_value_10 : decode cX7_value 10 = .ok (.ldc2_w 117, 3) := by decide +kernel
theorem dX7_value_13 : decode cX7_value 13 = .ok (.lreturn, 1) := by decide +kernel
theorem dX7_value_14 : decode cX7_value 14 = .ok (.aload_n 2, 1) := by decide +kernel
theorem dX7_value_15 : decode cX7_value 15 = .ok (.getfield 91, 3) := by decide +kernel
theorem dX7_value_18 : decode cX7_value 18 = .ok (.astore_n 3, 1) := by decide +kernel
theorem dX7_value_19 : decode cX7_value 19 = .ok (.aload_n 3, 1) := by decide +kernel
theorem dX7_value_20 : decode cX7_value 20 = .ok (.ifnonnull 9, 3) := by decide +kernel
theorem dX7_value_23 : decode cX7_value 23 = .ok (.ldc2_w 117, 3) := by decide +kernel
theorem dX7_value_26 : decode cX7_value 26 = .ok (.goto 11, 3) := by decide +kernel
theorem dX7_value_29 : decode cX7_value 29 = .ok (.aload_n 3, 1) := by decide +kernel
theorem dX7_value_30 : decode cX7_value 30 = .ok (.aload_n 2, 1) := by decide +kernel
theorem dX7_value_31 : decode cX7_value 31 = .ok (.getfield 144, 3) := by decide +kernel
theorem dX7_value_34 : decode cX7_value 34 = .ok (.invokevirtual 158, 3) := by decide +kernel
theorem dX7_value_37 : decode cX7_value 37 = .ok (.lreturn, 1) := by decide +kernel
theorem dX7_digit_0 : decode cX7_digit 0 = .ok (.aload_n 0, 1) := by decide +kernel
theorem dX7_digit_1 : decode cX7_digit 1 = .ok (.iload_n 1, 1) := by decide +kernel
theorem dX7_digit_2 : decode cX7_digit 2 = .ok (.invokevirtual 87, 3) := by decide +kernel
theorem dX7_digit_5 : decode cX7_digit 5 = .ok (.astore 4, 2) := by decide +kernel
theorem dX7_digit_7 : decode cX7_digit 7 = .ok (.aload 4, 2) := by decide +kernel
theorem dX7_digit_9 : decode cX7_digit 9 = .ok (.ifnull 13, 3) := by decide +kernel
theorem dX7_digit_12 : decode cX7_digit 12 = .ok (.iload_n 3, 1) := by decide +kernel
theorem dX7_digit_13 : decode cX7_digit 13 = .ok (.iconst 0, 1) := by decide +kernel
theorem dX7_digit_14 : decode cX7_digit 14 = .ok (.bipush 99, 2) := by decide +kernel
theorem dX7_digit_16 : decode cX7_digit 16 = .ok (.invokestatic 102, 3) := by decide +kernel
theorem dX7_digit_19 : decode cX7_digit 19 = .ok (.ifCond .ne 6, 3) := by decide +kernel
theorem dX7_digit_22 : decode cX7_digit 22 = .ok (.bipush (-2), 2) := by decide +kernel
theorem dX7_digit_24 : decode cX7_digit 24 = .ok (.ireturn, 1) := by decide +kernel
theorem dX7_digit_25 : decode cX7_digit 25 = .ok (.aload 4, 2) := by decide +kernel
theorem dX7_digit_27 : decode cX7_digit 27 = .ok (.getfield 91, 3) := by decide +kernel
theorem dX7_digit_30 : decode cX7_digit 30 = .ok (.astore 5, 2) := by decide +kernel
theorem dX7_digit_32 : decode cX7_digit 32 = .ok (.aload 5, 2) := by decide +kernel
