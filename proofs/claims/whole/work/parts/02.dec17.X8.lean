theorem dX8_comes_68 : decode cX8_comes 68 = .ok (.lreturn, 1) := by decide +kernel
theorem dX8_sum_0 : decode cX8_sum 0 = .ok (.iload_n 1, 1) := by decide +kernel
theorem dX8_sum_1 : decode cX8_sum 1 = .ok (.invokestatic 149, 3) := by decide +kernel
theorem dX8_sum_4 : decode cX8_sum 4 = .ok (.ifCond .eq 30, 3) := by decide +kernel
theorem dX8_sum_7 : decode cX8_sum 7 = .ok (.iload_n 2, 1) := by decide +kernel
theorem dX8_sum_8 : decode cX8_sum 8 = .ok (.invokestatic 149, 3) := by decide +kernel
theorem dX8_sum_11 : decode cX8_sum 11 = .ok (.ifCond .eq 23, 3) := by decide +kernel
theorem dX8_sum_14 : decode cX8_sum 14 = .ok (.iload_n 3, 1) := by decide +kernel
theorem dX8_sum_15 : decode cX8_sum 15 = .ok (.invokestatic 149, 3) := by decide +kernel
theorem dX8_sum_18 : decode cX8_sum 18 = .ok (.ifCond .eq 16, 3) := by decide +kernel
theorem dX8_sum_21 : decode cX8_sum 21 = .ok (.iload 4, 2) := by decide +kernel
theorem dX8_sum_23 : decode cX8_sum 23 = .ok (.i2l, 1) := by decide +kernel
theorem dX8_sum_24 : decode cX8_sum 24 = .ok (.lconst 0, 1) := by decide +kernel
theorem dX8_sum_25 : decode cX8_sum 25 = .ok (.ldc2_w 209, 3) := by decide +kernel
theorem dX8_sum_28 : decode cX8_sum 28 = .ok (.invokestatic 104, 3) := by decide +kernel
theorem dX8_sum_31 : decode cX8_sum 31 = .ok (.ifCond .ne 6, 3) := by decide +kernel
theorem dX8_sum_34 : decode cX8_sum 34 = .ok (.bipush (-2), 2) := by decide +kernel
theorem dX8_sum_36 : decode cX8_sum 36 = .ok (.ireturn, 1) := by decide +kernel
theorem dX8_sum_37 : decode cX8_sum 37 = .ok (.aload_n 0, 1) := by decide +kernel
theorem dX8_sum_38 : decode cX8_sum 38 = .ok (.iload_n 1, 1) := by decide +kernel
theorem dX8_sum_39 : decode cX8_sum 39 = .ok (.invokevirtual 159, 3) := by decide +kernel
theorem dX8_sum_42 : decode cX8_sum 42 = .ok (.ifCond .ne 11, 3) := by decide +kernel
theorem dX8_sum_45 : decode cX8_sum 45 = .ok (.aload_n 0, 1) := by decide +kernel
theorem dX8_sum_46 : decode cX8_sum 46 = .ok (.iload_n 2, 1) := by decide +kernel
theorem dX8_sum_47 : decode cX8_sum 47 = .ok (.invokevirtual 159, 3) := by decide +kernel
theorem dX8_sum_50 : decode cX8_sum 50 = .ok (.ifCond .eq 6, 3) := by decide +kernel
theorem dX8_sum_53 : decode cX8_sum 53 = .ok (.bipush (-11), 2) := by decide +kernel
theorem dX8_sum_55 : decode cX8_sum 55 = .ok (.ireturn, 1) := by decide +kernel
theorem dX8_sum_56 : decode cX8_sum 56 = .ok (.aload_n 0, 1) := by decide +kernel
theorem dX8_sum_57 : decode cX8_sum 57 = .ok (.getfield 28, 3) := by decide +kernel
theorem dX8_sum_60 : decode cX8_sum 60 = .ok (.iload_n 1, 1) := by decide +kernel
theorem dX8_sum_61 : decode cX8_sum 61 = .ok (.iaload, 1) := by decide +kernel
theorem dX8_sum_62 : decode cX8_sum 62 = .ok (.aload_n 0, 1) := by decide +kernel
theorem dX8_sum_63 : decode cX8_sum 63 = .ok (.getfield 28, 3) := by decide +kernel
theorem dX8_sum_66 : decode cX8_sum 66 = .ok (.iload_n 2, 1) := by decide +kernel
theorem dX8_sum_67 : decode cX8_sum 67 = .ok (.iaload, 1) := by decide +kernel
theorem dX8_sum_68 : decode cX8_sum 68 = .ok (.if_icmp .eq 6, 3) := by decide +kernel
theorem dX8_sum_71 : decode cX8_sum 71 = .ok (.bipush (-13), 2) := by decide +kernel
theorem dX8_sum_73 : decode cX8_sum 73 = .ok (.ireturn, 1) := by decide +kernel
theorem dX8_sum_74 : decode cX8_sum 74 = .ok (.aload_n 0, 1) := by decide +kernel
theorem dX8_sum_75 : decode cX8_sum 75 = .ok (.getfield 28, 3) := by decide +kernel
theorem dX8_sum_78 : decode cX8_sum 78 = .ok (.iload_n 1, 1) := by decide +kernel
theorem dX8_sum_79 : decode cX8_sum 79 = .ok (.iaload, 1) := by decide +kernel
theorem dX8_sum_80 : decode cX8_sum 80 = .ok (.istore 5, 2) := by decide +kernel
theorem dX8_sum_82 : decode cX8_sum 82 = .ok (.iload 4, 2) := by decide +kernel
theorem dX8_sum_84 : decode cX8_sum 84 = .ok (.ifCond .le 62, 3) := by decide +kernel
theorem dX8_sum_87 : decode cX8_sum 87 = .ok (.aload_n 0, 1) := by decide +kernel
theorem dX8_sum_88 : decode cX8_sum 88 = .ok (.iload_n 1, 1) := by decide +kernel
theorem dX8_sum_89 : decode cX8_sum 89 = .ok (.invokevirtual 174, 3) := by decide +kernel
theorem dX8_sum_92 : decode cX8_sum 92 = .ok (.aload_n 0, 1) := by decide +kernel
theorem dX8_sum_93 : decode cX8_sum 93 = .ok (.iload_n 2, 1) := by decide +kernel
theorem dX8_sum_94 : decode cX8_sum 94 = .ok (.invokevirtual 174, 3) := by decide +kernel
theorem dX8_sum_97 : decode cX8_sum 97 = .ok (.iload 4, 2) := by decide +kernel
theorem dX8_sum_99 : decode cX8_sum 99 = .ok (.aload_n 0, 1) := by decide +kernel
theorem dX8_sum_100 : decode cX8_sum 100 = .ok (.getfield 25, 3) := by decide +kernel
theorem dX8_sum_103 : decode cX8_sum 103 = .ok (.iload 5, 2) := by decide +kernel
theorem dX8_sum_105 : decode cX8_sum 105 = .ok (.laload, 1) := by decide +kernel
theorem dX8_sum_106 : decode cX8_sum 106 = .ok (.invokestatic 211, 3) := by decide +kernel
theorem dX8_sum_109 : decode cX8_sum 109 = .ok (.lstore 6, 2) := by decide +kernel
theorem dX8_sum_111 : decode cX8_sum 111 = .ok (.lload 6, 2) := by decide +kernel
theorem dX8_sum_113 : decode cX8_sum 113 = .ok (.lconst 0, 1) := by decide +kernel
theorem dX8_sum_114 : decode cX8_sum 114 = .ok (.aload_n 0, 1) := by decide +kernel
theorem dX8_sum_115 : decode cX8_sum 115 = .ok (.getfield 25, 3) := by decide +kernel
theorem dX8_sum_118 : decode cX8_sum 118 = .ok (.iload 5, 2) := by decide +kernel
theorem dX8_sum_120 : decode cX8_sum 120 = .ok (.laload, 1) := by decide +kernel
theorem dX8_sum_121 : decode cX8_sum 121 = .ok (.invokestatic 104, 3) := by decide +kernel
theorem dX8_sum_124 : decode cX8_sum 124 = .ok (.ifCond .ne 6, 3) := by decide +kernel
theorem dX8_sum_127 : decode cX8_sum 127 = .ok (.bipush (-3), 2) := by decide +kernel
theorem dX8_sum_129 : decode cX8_sum 129 = .ok (.ireturn, 1) := by decide +kernel
theorem dX8_sum_130 : decode cX8_sum 130 = .ok (.aload_n 0, 1) := by decide +kernel
theorem dX8_sum_131 : decode cX8_sum 131 = .ok (.iload 5, 2) := by decide +kernel
theorem dX8_sum_133 : decode cX8_sum 133 = .ok (.lload 6, 2) := by decide +kernel
theorem dX8_sum_135 : decode cX8_sum 135 = .ok (.invokevirtual 152, 3) := by decide +kernel
theorem dX8_sum_138 : decode cX8_sum 138 = .ok (.aload_n 0, 1) := by decide +kernel
theorem dX8_sum_139 : decode cX8_sum 139 = .ok (.iload_n 3, 1) := by decide +kernel
theorem dX8_sum_140 : decode cX8_sum 140 = .ok (.iload 5, 2) := by decide +kernel
theorem dX8_sum_142 : decode cX8_sum 142 = .ok (.invokevirtual 156, 3) := by decide +kernel
theorem dX8_sum_145 : decode cX8_sum 145 = .ok (.ireturn, 1) := by decide +kernel
theorem dX8_sum_146 : decode cX8_sum 146 = .ok (.iconst 0, 1) := by decide +kernel
theorem dX8_sum_147 : decode cX8_sum 147 = .ok (.istore 6, 2) := by decide +kernel
theorem dX8_sum_149 : decode cX8_sum 149 = .ok (.iload 6, 2) := by decide +kernel
theorem dX8_sum_151 : decode cX8_sum 151 = .ok (.aload_n 0, 1) := by decide +kernel
theorem dX8_sum_152 : decode cX8_sum 152 = .ok (.getfield 18, 3) := by decide +kernel
theorem dX8_sum_155 : decode cX8_sum 155 = .ok (.iload 5, 2) := by decide +kernel
theorem dX8_sum_157 : decode cX8_sum 157 = .ok (.iaload, 1) := by decide +kernel
theorem dX8_sum_158 : decode cX8_sum 158 = .ok (.if_icmp .ge 46, 3) := by decide +kernel
theorem dX8_sum_161 : decode cX8_sum 161 = .ok (.aload_n 0, 1) := by decide +kernel
theorem dX8_sum_162 : decode cX8_sum 162 = .ok (.getfield 34, 3) := by decide +kernel
theorem dX8_sum_165 : decode cX8_sum 165 = .ok (.iload 6, 2) := by decide +kernel
theorem dX8_sum_167 : decode cX8_sum 167 = .ok (.aload_n 0, 1) := by decide +kernel
theorem dX8_sum_168 : decode cX8_sum 168 = .ok (.iload_n 1, 1) := by decide +kernel
theorem dX8_sum_169 : decode cX8_sum 169 = .ok (.iload 6, 2) := by decide +kernel
theorem dX8_sum_171 : decode cX8_sum 171 = .ok (.invokevirtual 140, 3) := by decide +kernel
theorem dX8_sum_174 : decode cX8_sum 174 = .ok (.aload_n 0, 1) := by decide +kernel
theorem dX8_sum_175 : decode cX8_sum 175 = .ok (.iload_n 2, 1) := by decide +kernel
theorem dX8_sum_176 : decode cX8_sum 176 = .ok (.iload 6, 2) := by decide +kernel
theorem dX8_sum_178 : decode cX8_sum 178 = .ok (.invokevirtual 140, 3) := by decide +kernel
theorem dX8_sum_181 : decode cX8_sum 181 = .ok (.iadd, 1) := by decide +kernel
theorem dX8_sum_182 : decode cX8_sum 182 = .ok (.iastore, 1) := by decide +kernel
theorem dX8_sum_183 : decode cX8_sum 183 = .ok (.aload_n 0, 1) := by decide +kernel
theorem dX8_sum_184 : decode cX8_sum 184 = .ok (.getfield 34, 3) := by decide +kernel
theorem dX8_sum_187 : decode cX8_sum 187 = .ok (.iload 6, 2) := by decide +kernel
theorem dX8_sum_189 : decode cX8_sum 189 = .ok (.iaload, 1) := by decide +kernel
theorem dX8_sum_190 : decode cX8_sum 190 = .ok (.bipush 99, 2) := by decide +kernel
theorem dX8_sum_192 : decode cX8_sum 192 = .ok (.if_icmp .le 6, 3) := by decide +kernel
theorem dX8_sum_195 : decode cX8_sum 195 = .ok (.bipush (-3), 2) := by decide +kernel
theorem dX8_sum_197 : decode cX8_sum 197 = .ok (.ireturn, 1) := by decide +kernel
theorem dX8_sum_198 : decode cX8_sum 198 = .ok (.iinc 6 1, 3) := by decide +kernel
theorem dX8_sum_201 : decode cX8_sum 201 = .ok (.goto (-52), 3) := by decide +kernel
theorem dX8_sum_204 : decode cX8_sum 204 = .ok (.aload_n 0, 1) := by decide +kernel
theorem dX8_sum_205 : decode cX8_sum 205 = .ok (.iload_n 3, 1) := by decide +kernel
theorem dX8_sum_206 : decode cX8_sum 206 = .ok (.iload 5, 2) := by decide +kernel
theorem dX8_sum_208 : decode cX8_sum 208 = .ok (.invokevirtual 156, 3) := by decide +kernel
theorem dX8_sum_211 : decode cX8_sum 211 = .ok (.ireturn, 1) := by decide +kernel
theorem dX8_like_0 : decode cX8_like 0 = .ok (.iload_n 1, 1) := by decide +kernel
theorem dX8_like_1 : decode cX8_like 1 = .ok (.invokestatic 149, 3) := by decide +kernel
theorem dX8_like_4 : decode cX8_like 4 = .ok (.ifCond .eq 20, 3) := by decide +kernel
theorem dX8_like_7 : decode cX8_like 7 = .ok (.iload_n 2, 1) := by decide +kernel
theorem dX8_like_8 : decode cX8_like 8 = .ok (.invokestatic 149, 3) := by decide +kernel
theorem dX8_like_11 : decode cX8_like 11 = .ok (.ifCond .eq 13, 3) := by decide +kernel
theorem dX8_like_14 : decode cX8_like 14 = .ok (.iload_n 3, 1) := by decide +kernel
theorem dX8_like_15 : decode cX8_like 15 = .ok (.i2l, 1) := by decide +kernel
theorem dX8_like_16 : decode cX8_like 16 = .ok (.lconst 0, 1) := by decide +kernel
theorem dX8_like_17 : decode cX8_like 17 = .ok (.lconst 1, 1) := by decide +kernel
theorem dX8_like_18 : decode cX8_like 18 = .ok (.invokestatic 104, 3) := by decide +kernel
theorem dX8_like_21 : decode cX8_like 21 = .ok (.ifCond .ne 6, 3) := by decide +kernel
theorem dX8_like_24 : decode cX8_like 24 = .ok (.bipush (-2), 2) := by decide +kernel
theorem dX8_like_26 : decode cX8_like 26 = .ok (.ireturn, 1) := by decide +kernel
theorem dX8_like_27 : decode cX8_like 27 = .ok (.aload_n 0, 1) := by decide +kernel
theorem dX8_like_28 : decode cX8_like 28 = .ok (.iload_n 1, 1) := by decide +kernel
theorem dX8_like_29 : decode cX8_like 29 = .ok (.invokevirtual 159, 3) := by decide +kernel
theorem dX8_like_32 : decode cX8_like 32 = .ok (.ifCond .ne 11, 3) := by decide +kernel
theorem dX8_like_35 : decode cX8_like 35 = .ok (.aload_n 0, 1) := by decide +kernel
theorem dX8_like_36 : decode cX8_like 36 = .ok (.iload_n 2, 1) := by decide +kernel
theorem dX8_like_37 : decode cX8_like 37 = .ok (.invokevirtual 159, 3) := by decide +kernel
theorem dX8_like_40 : decode cX8_like 40 = .ok (.ifCond .eq 6, 3) := by decide +kernel
theorem dX8_like_43 : decode cX8_like 43 = .ok (.bipush (-11), 2) := by decide +kernel
theorem dX8_like_45 : decode cX8_like 45 = .ok (.ireturn, 1) := by decide +kernel
theorem dX8_like_46 : decode cX8_like 46 = .ok (.iload_n 3, 1) := by decide +kernel
theorem dX8_like_47 : decode cX8_like 47 = .ok (.ifCond .ne 23, 3) := by decide +kernel
theorem dX8_like_50 : decode cX8_like 50 = .ok (.aload_n 0, 1) := by decide +kernel
theorem dX8_like_51 : decode cX8_like 51 = .ok (.iload_n 1, 1) := by decide +kernel
theorem dX8_like_52 : decode cX8_like 52 = .ok (.invokevirtual 174, 3) := by decide +kernel
theorem dX8_like_55 : decode cX8_like 55 = .ok (.aload_n 0, 1) := by decide +kernel
theorem dX8_like_56 : decode cX8_like 56 = .ok (.iload_n 2, 1) := by decide +kernel
theorem dX8_like_57 : decode cX8_like 57 = .ok (.invokevirtual 174, 3) := by decide +kernel
theorem dX8_like_60 : decode cX8_like 60 = .ok (.lcmp, 1) := by decide +kernel
theorem dX8_like_61 : decode cX8_like 61 = .ok (.ifCond .ne 7, 3) := by decide +kernel
theorem dX8_like_64 : decode cX8_like 64 = .ok (.iconst 1, 1) := by decide +kernel
theorem dX8_like_65 : decode cX8_like 65 = .ok (.goto 4, 3) := by decide +kernel
theorem dX8_like_68 : decode cX8_like 68 = .ok (.iconst 0, 1) := by decide +kernel
theorem dX8_like_69 : decode cX8_like 69 = .ok (.ireturn, 1) := by decide +kernel
theorem dX8_like_70 : decode cX8_like 70 = .ok (.aload_n 0, 1) := by decide +kernel
theorem dX8_like_71 : decode cX8_like 71 = .ok (.getfield 28, 3) := by decide +kernel
theorem dX8_like_74 : decode cX8_like 74 = .ok (.iload_n 1, 1) := by decide +kernel
theorem dX8_like_75 : decode cX8_like 75 = .ok (.iaload, 1) := by decide +kernel
theorem dX8_like_76 : decode cX8_like 76 = .ok (.aload_n 0, 1) := by decide +kernel
theorem dX8_like_77 : decode cX8_like 77 = .ok (.getfield 28, 3) := by decide +kernel
theorem dX8_like_80 : decode cX8_like 80 = .ok (.iload_n 2, 1) := by decide +kernel
theorem dX8_like_81 : decode cX8_like 81 = .ok (.iaload, 1) := by decide +kernel
theorem dX8_like_82 : decode cX8_like 82 = .ok (.if_icmp .ne 7, 3) := by decide +kernel
theorem dX8_like_85 : decode cX8_like 85 = .ok (.iconst 1, 1) := by decide +kernel
theorem dX8_like_86 : decode cX8_like 86 = .ok (.goto 4, 3) := by decide +kernel
theorem dX8_like_89 : decode cX8_like 89 = .ok (.iconst 0, 1) := by decide +kernel
theorem dX8_like_90 : decode cX8_like 90 = .ok (.istore 4, 2) := by decide +kernel
theorem dX8_like_92 : decode cX8_like 92 = .ok (.iconst 0, 1) := by decide +kernel
theorem dX8_like_93 : decode cX8_like 93 = .ok (.istore 5, 2) := by decide +kernel
theorem dX8_like_95 : decode cX8_like 95 = .ok (.iload 5, 2) := by decide +kernel
theorem dX8_like_97 : decode cX8_like 97 = .ok (.aload_n 0, 1) := by decide +kernel
theorem dX8_like_98 : decode cX8_like 98 = .ok (.iload_n 1, 1) := by decide +kernel
theorem dX8_like_99 : decode cX8_like 99 = .ok (.invokevirtual 137, 3) := by decide +kernel
theorem dX8_like_102 : decode cX8_like 102 = .ok (.if_icmp .ge 38, 3) := by decide +kernel
theorem dX8_like_105 : decode cX8_like 105 = .ok (.iload 4, 2) := by decide +kernel
theorem dX8_like_107 : decode cX8_like 107 = .ok (.ifCond .eq 33, 3) := by decide +kernel
theorem dX8_like_110 : decode cX8_like 110 = .ok (.aload_n 0, 1) := by decide +kernel
theorem dX8_like_111 : decode cX8_like 111 = .ok (.iload_n 1, 1) := by decide +kernel
theorem dX8_like_112 : decode cX8_like 112 = .ok (.iload 5, 2) := by decide +kernel
theorem dX8_like_114 : decode cX8_like 114 = .ok (.invokevirtual 140, 3) := by decide +kernel
theorem dX8_like_117 : decode cX8_like 117 = .ok (.aload_n 0, 1) := by decide +kernel
theorem dX8_like_118 : decode cX8_like 118 = .ok (.iload_n 2, 1) := by decide +kernel
theorem dX8_like_119 : decode cX8_like 119 = .ok (.iload 5, 2) := by decide +kernel
theorem dX8_like_121 : decode cX8_like 121 = .ok (.invokevirtual 140, 3) := by decide +kernel
theorem dX8_like_124 : decode cX8_like 124 = .ok (.if_icmp .ne 7, 3) := by decide +kernel
theorem dX8_like_127 : decode cX8_like 127 = .ok (.iconst 1, 1) := by decide +kernel
theorem dX8_like_128 : decode cX8_like 128 = .ok (.goto 4, 3) := by decide +kernel
theorem dX8_like_131 : decode cX8_like 131 = .ok (.iconst 0, 1) := by decide +kernel
theorem dX8_like_132 : decode cX8_like 132 = .ok (.istore 4, 2) := by decide +kernel
theorem dX8_like_134 : decode cX8_like 134 = .ok (.iinc 5 1, 3) := by decide +kernel
theorem dX8_like_137 : decode cX8_like 137 = .ok (.goto (-42), 3) := by decide +kernel
theorem dX8_like_140 : decode cX8_like 140 = .ok (.iload 4, 2) := by decide +kernel
theorem dX8_like_142 : decode cX8_like 142 = .ok (.ifCond .eq 7, 3) := by decide +kernel
theorem dX8_like_145 : decode cX8_like 145 = .ok (.iconst 1, 1) := by decide +kernel
theorem dX8_like_146 : decode cX8_like 146 = .ok (.goto 4, 3) := by decide +kernel
theorem dX8_like_149 : decode cX8_like 149 = .ok (.iconst 0, 1) := by decide +kernel
theorem dX8_like_150 : decode cX8_like 150 = .ok (.ireturn, 1) := by decide +kernel
theorem dX8_leaves_0 : decode cX8_leaves 0 = .ok (.lload_n 1, 1) := by decide +kernel
theorem dX8_leaves_1 : decode cX8_leaves 1 = .ok (.ldc2_w 215, 3) := by decide +kernel
theorem dX8_leaves_4 : decode cX8_leaves 4 = .ok (.lmul, 1) := by decide +kernel
theorem dX8_leaves_5 : decode cX8_leaves 5 = .ok (.ldc2_w 217, 3) := by decide +kernel
theorem dX8_leaves_8 : decode cX8_leaves 8 = .ok (.land, 1) := by decide +kernel
theorem dX8_leaves_9 : decode cX8_leaves 9 = .ok (.l2i, 1) := by decide +kernel
theorem dX8_leaves_10 : decode cX8_leaves 10 = .ok (.istore 6, 2) := by decide +kernel
theorem dX8_leaves_12 : decode cX8_leaves 12 = .ok (.aload_n 0, 1) := by decide +kernel
theorem dX8_leaves_13 : decode cX8_leaves 13 = .ok (.getfield 52, 3) := by decide +kernel
theorem dX8_leaves_16 : decode cX8_leaves 16 = .ok (.iload 6, 2) := by decide +kernel
theorem dX8_leaves_18 : decode cX8_leaves 18 = .ok (.iaload, 1) := by decide +kernel
theorem dX8_leaves_19 : decode cX8_leaves 19 = .ok (.ifCond .le 35, 3) := by decide +kernel
theorem dX8_leaves_22 : decode cX8_leaves 22 = .ok (.aload_n 0, 1) := by decide +kernel
theorem dX8_leaves_23 : decode cX8_leaves 23 = .ok (.getfield 55, 3) := by decide +kernel
theorem dX8_leaves_26 : decode cX8_leaves 26 = .ok (.aload_n 0, 1) := by decide +kernel
theorem dX8_leaves_27 : decode cX8_leaves 27 = .ok (.getfield 52, 3) := by decide +kernel
theorem dX8_leaves_30 : decode cX8_leaves 30 = .ok (.iload 6, 2) := by decide +kernel
theorem dX8_leaves_32 : decode cX8_leaves 32 = .ok (.iaload, 1) := by decide +kernel
theorem dX8_leaves_33 : decode cX8_leaves 33 = .ok (.iconst 1, 1) := by decide +kernel
theorem dX8_leaves_34 : decode cX8_leaves 34 = .ok (.isub, 1) := by decide +kernel
theorem dX8_leaves_35 : decode cX8_leaves 35 = .ok (.laload, 1) := by decide +kernel
theorem dX8_leaves_36 : decode cX8_leaves 36 = .ok (.lload_n 1, 1) := by decide +kernel
theorem dX8_leaves_37 : decode cX8_leaves 37 = .ok (.lcmp, 1) := by decide +kernel
theorem dX8_leaves_38 : decode cX8_leaves 38 = .ok (.ifCond .eq 16, 3) := by decide +kernel
theorem dX8_leaves_41 : decode cX8_leaves 41 = .ok (.iload 6, 2) := by decide +kernel
theorem dX8_leaves_43 : decode cX8_leaves 43 = .ok (.iconst 1, 1) := by decide +kernel
theorem dX8_leaves_44 : decode cX8_leaves 44 = .ok (.iadd, 1) := by decide +kernel
theorem dX8_leaves_45 : decode cX8_leaves 45 = .ok (.sipush 16383, 3) := by decide +kernel
theorem dX8_leaves_48 : decode cX8_leaves 48 = .ok (.iand, 1) := by decide +kernel
theorem dX8_leaves_49 : decode cX8_leaves 49 = .ok (.istore 6, 2) := by decide +kernel
theorem dX8_leaves_51 : decode cX8_leaves 51 = .ok (.goto (-39), 3) := by decide +kernel
theorem dX8_leaves_54 : decode cX8_leaves 54 = .ok (.aload_n 0, 1) := by decide +kernel
theorem dX8_leaves_55 : decode cX8_leaves 55 = .ok (.getfield 52, 3) := by decide +kernel
theorem dX8_leaves_58 : decode cX8_leaves 58 = .ok (.iload 6, 2) := by decide +kernel
theorem dX8_leaves_60 : decode cX8_leaves 60 = .ok (.iaload, 1) := by decide +kernel
theorem dX8_leaves_61 : decode cX8_leaves 61 = .ok (.ifCond .ne 55, 3) := by decide +kernel
theorem dX8_leaves_64 : decode cX8_leaves 64 = .ok (.aload_n 0, 1) := by decide +kernel
theorem dX8_leaves_65 : decode cX8_leaves 65 = .ok (.getfield 55, 3) := by decide +kernel
theorem dX8_leaves_68 : decode cX8_leaves 68 = .ok (.aload_n 0, 1) := by decide +kernel
theorem dX8_leaves_69 : decode cX8_leaves 69 = .ok (.getfield 219, 3) := by decide +kernel
theorem dX8_leaves_72 : decode cX8_leaves 72 = .ok (.lload_n 1, 1) := by decide +kernel
theorem dX8_leaves_73 : decode cX8_leaves 73 = .ok (.lastore, 1) := by decide +kernel
theorem dX8_leaves_74 : decode cX8_leaves 74 = .ok (.aload_n 0, 1) := by decide +kernel
theorem dX8_leaves_75 : decode cX8_leaves 75 = .ok (.getfield 58, 3) := by decide +kernel
theorem dX8_leaves_78 : decode cX8_leaves 78 = .ok (.aload_n 0, 1) := by decide +kernel
theorem dX8_leaves_79 : decode cX8_leaves 79 = .ok (.getfield 219, 3) := by decide +kernel
theorem dX8_leaves_82 : decode cX8_leaves 82 = .ok (.lconst 0, 1) := by decide +kernel
theorem dX8_leaves_83 : decode cX8_leaves 83 = .ok (.lastore, 1) := by decide +kernel
theorem dX8_leaves_84 : decode cX8_leaves 84 = .ok (.aload_n 0, 1) := by decide +kernel
theorem dX8_leaves_85 : decode cX8_leaves 85 = .ok (.getfield 61, 3) := by decide +kernel
theorem dX8_leaves_88 : decode cX8_leaves 88 = .ok (.aload_n 0, 1) := by decide +kernel
theorem dX8_leaves_89 : decode cX8_leaves 89 = .ok (.getfield 219, 3) := by decide +kernel
theorem dX8_leaves_92 : decode cX8_leaves 92 = .ok (.iload 5, 2) := by decide +kernel
theorem dX8_leaves_94 : decode cX8_leaves 94 = .ok (.iastore, 1) := by decide +kernel
theorem dX8_leaves_95 : decode cX8_leaves 95 = .ok (.aload_n 0, 1) := by decide +kernel
theorem dX8_leaves_96 : decode cX8_leaves 96 = .ok (.dup, 1) := by decide +kernel
theorem dX8_leaves_97 : decode cX8_leaves 97 = .ok (.getfield 219, 3) := by decide +kernel
theorem dX8_leaves_100 : decode cX8_leaves 100 = .ok (.iconst 1, 1) := by decide +kernel
theorem dX8_leaves_101 : decode cX8_leaves 101 = .ok (.iadd, 1) := by decide +kernel
theorem dX8_leaves_102 : decode cX8_leaves 102 = .ok (.putfield 219, 3) := by decide +kernel
theorem dX8_leaves_105 : decode cX8_leaves 105 = .ok (.aload_n 0, 1) := by decide +kernel
theorem dX8_leaves_106 : decode cX8_leaves 106 = .ok (.getfield 52, 3) := by decide +kernel
theorem dX8_leaves_109 : decode cX8_leaves 109 = .ok (.iload 6, 2) := by decide +kernel
theorem dX8_leaves_111 : decode cX8_leaves 111 = .ok (.aload_n 0, 1) := by decide +kernel
theorem dX8_leaves_112 : decode cX8_leaves 112 = .ok (.getfield 219, 3) := by decide +kernel
theorem dX8_leaves_115 : decode cX8_leaves 115 = .ok (.iastore, 1) := by decide +kernel
theorem dX8_leaves_116 : decode cX8_leaves 116 = .ok (.aload_n 0, 1) := by decide +kernel
theorem dX8_leaves_117 : decode cX8_leaves 117 = .ok (.getfield 52, 3) := by decide +kernel
theorem dX8_leaves_120 : decode cX8_leaves 120 = .ok (.iload 6, 2) := by decide +kernel
theorem dX8_leaves_122 : decode cX8_leaves 122 = .ok (.iaload, 1) := by decide +kernel
theorem dX8_leaves_123 : decode cX8_leaves 123 = .ok (.iconst 1, 1) := by decide +kernel
theorem dX8_leaves_124 : decode cX8_leaves 124 = .ok (.isub, 1) := by decide +kernel
theorem dX8_leaves_125 : decode cX8_leaves 125 = .ok (.istore 7, 2) := by decide +kernel
theorem dX8_leaves_127 : decode cX8_leaves 127 = .ok (.aload_n 0, 1) := by decide +kernel
theorem dX8_leaves_128 : decode cX8_leaves 128 = .ok (.getfield 58, 3) := by decide +kernel
theorem dX8_leaves_131 : decode cX8_leaves 131 = .ok (.iload 7, 2) := by decide +kernel
theorem dX8_leaves_133 : decode cX8_leaves 133 = .ok (.dup2, 1) := by decide +kernel
theorem dX8_leaves_134 : decode cX8_leaves 134 = .ok (.laload, 1) := by decide +kernel
theorem dX8_leaves_135 : decode cX8_leaves 135 = .ok (.lload_n 3, 1) := by decide +kernel
theorem dX8_leaves_136 : decode cX8_leaves 136 = .ok (.ladd, 1) := by decide +kernel
theorem dX8_leaves_137 : decode cX8_leaves 137 = .ok (.lastore, 1) := by decide +kernel
theorem dX8_leaves_138 : decode cX8_leaves 138 = .ok (.aload_n 0, 1) := by decide +kernel
theorem dX8_leaves_139 : decode cX8_leaves 139 = .ok (.getfield 61, 3) := by decide +kernel
theorem dX8_leaves_142 : decode cX8_leaves 142 = .ok (.iload 7, 2) := by decide +kernel
theorem dX8_leaves_144 : decode cX8_leaves 144 = .ok (.iload 5, 2) := by decide +kernel
theorem dX8_leaves_146 : decode cX8_leaves 146 = .ok (.aload_n 0, 1) := by decide +kernel
theorem dX8_leaves_147 : decode cX8_leaves 147 = .ok (.getfield 61, 3) := by decide +kernel
theorem dX8_leaves_150 : decode cX8_leaves 150 = .ok (.iload 7, 2) := by decide +kernel
theorem dX8_leaves_152 : decode cX8_leaves 152 = .ok (.iaload, 1) := by decide +kernel
theorem dX8_leaves_153 : decode cX8_leaves 153 = .ok (.if_icmp .ge 8, 3) := by decide +kernel
theorem dX8_leaves_156 : decode cX8_leaves 156 = .ok (.iload 5, 2) := by decide +kernel
theorem dX8_leaves_158 : decode cX8_leaves 158 = .ok (.goto 10, 3) := by decide +kernel
theorem dX8_leaves_161 : decode cX8_leaves 161 = .ok (.aload_n 0, 1) := by decide +kernel
theorem dX8_leaves_162 : decode cX8_leaves 162 = .ok (.getfield 61, 3) := by decide +kernel
theorem dX8_leaves_165 : decode cX8_leaves 165 = .ok (.iload 7, 2) := by decide +kernel
theorem dX8_leaves_167 : decode cX8_leaves 167 = .ok (.iaload, 1) := by decide +kernel
theorem dX8_leaves_168 : decode cX8_leaves 168 = .ok (.iastore, 1) := by decide +kernel
theorem dX8_leaves_169 : decode cX8_leaves 169 = .ok (.return_, 1) := by decide +kernel
theorem dX8_ways_0 : decode cX8_ways 0 = .ok (.iload_n 1, 1) := by decide +kernel
theorem dX8_ways_1 : decode cX8_ways 1 = .ok (.invokestatic 114, 3) := by decide +kernel
theorem dX8_ways_4 : decode cX8_ways 4 = .ok (.ifCond .eq 38, 3) := by decide +kernel
theorem dX8_ways_7 : decode cX8_ways 7 = .ok (.lload_n 2, 1) := by decide +kernel
theorem dX8_ways_8 : decode cX8_ways 8 = .ok (.lconst 0, 1) := by decide +kernel
theorem dX8_ways_9 : decode cX8_ways 9 = .ok (.ldc2_w 108, 3) := by decide +kernel
theorem dX8_ways_12 : decode cX8_ways 12 = .ok (.invokestatic 104, 3) := by decide +kernel
theorem dX8_ways_15 : decode cX8_ways 15 = .ok (.ifCond .eq 27, 3) := by decide +kernel
theorem dX8_ways_18 : decode cX8_ways 18 = .ok (.iload 4, 2) := by decide +kernel
theorem dX8_ways_20 : decode cX8_ways 20 = .ok (.i2l, 1) := by decide +kernel
theorem dX8_ways_21 : decode cX8_ways 21 = .ok (.lconst 1, 1) := by decide +kernel
theorem dX8_ways_22 : decode cX8_ways 22 = .ok (.ldc2_w 201, 3) := by decide +kernel
theorem dX8_ways_25 : decode cX8_ways 25 = .ok (.invokestatic 104, 3) := by decide +kernel
theorem dX8_ways_28 : decode cX8_ways 28 = .ok (.ifCond .eq 14, 3) := by decide +kernel
theorem dX8_ways_31 : decode cX8_ways 31 = .ok (.iload 5, 2) := by decide +kernel
theorem dX8_ways_33 : decode cX8_ways 33 = .ok (.i2l, 1) := by decide +kernel
theorem dX8_ways_34 : decode cX8_ways 34 = .ok (.lconst 0, 1) := by decide +kernel
theorem dX8_ways_35 : decode cX8_ways 35 = .ok (.lconst 1, 1) := by decide +kernel
theorem dX8_ways_36 : decode cX8_ways 36 = .ok (.invokestatic 104, 3) := by decide +kernel
theorem dX8_ways_39 : decode cX8_ways 39 = .ok (.ifCond .ne 7, 3) := by decide +kernel
theorem dX8_ways_42 : decode cX8_ways 42 = .ok (.ldc2_w 127, 3) := by decide +kernel
theorem dX8_ways_45 : decode cX8_ways 45 = .ok (.lreturn, 1) := by decide +kernel
theorem dX8_ways_46 : decode cX8_ways 46 = .ok (.lconst 0, 1) := by decide +kernel
theorem dX8_ways_47 : decode cX8_ways 47 = .ok (.lstore 6, 2) := by decide +kernel
theorem dX8_ways_49 : decode cX8_ways 49 = .ok (.iconst 0, 1) := by decide +kernel
theorem dX8_ways_50 : decode cX8_ways 50 = .ok (.istore 8, 2) := by decide +kernel
theorem dX8_ways_52 : decode cX8_ways 52 = .ok (.iload 8, 2) := by decide +kernel
theorem dX8_ways_54 : decode cX8_ways 54 = .ok (.aload_n 0, 1) := by decide +kernel
theorem dX8_ways_55 : decode cX8_ways 55 = .ok (.getfield 18, 3) := by decide +kernel
theorem dX8_ways_58 : decode cX8_ways 58 = .ok (.iload_n 1, 1) := by decide +kernel
theorem dX8_ways_59 : decode cX8_ways 59 = .ok (.iaload, 1) := by decide +kernel
theorem dX8_ways_60 : decode cX8_ways 60 = .ok (.if_icmp .ge 25, 3) := by decide +kernel
theorem dX8_ways_63 : decode cX8_ways 63 = .ok (.lload 6, 2) := by decide +kernel
theorem dX8_ways_65 : decode cX8_ways 65 = .ok (.iload 4, 2) := by decide +kernel
theorem dX8_ways_67 : decode cX8_ways 67 = .ok (.i2l, 1) := by decide +kernel
theorem dX8_ways_68 : decode cX8_ways 68 = .ok (.aload_n 0, 1) := by decide +kernel
theorem dX8_ways_69 : decode cX8_ways 69 = .ok (.iload_n 1, 1) := by decide +kernel
theorem dX8_ways_70 : decode cX8_ways 70 = .ok (.iload 8, 2) := by decide +kernel
theorem dX8_ways_72 : decode cX8_ways 72 = .ok (.invokevirtual 129, 3) := by decide +kernel
theorem dX8_ways_75 : decode cX8_ways 75 = .ok (.lmul, 1) := by decide +kernel
theorem dX8_ways_76 : decode cX8_ways 76 = .ok (.ladd, 1) := by decide +kernel
theorem dX8_ways_77 : decode cX8_ways 77 = .ok (.lstore 6, 2) := by decide +kernel
theorem dX8_ways_79 : decode cX8_ways 79 = .ok (.iinc 8 1, 3) := by decide +kernel
theorem dX8_ways_82 : decode cX8_ways 82 = .ok (.goto (-30), 3) := by decide +kernel
theorem dX8_ways_85 : decode cX8_ways 85 = .ok (.aload_n 0, 1) := by decide +kernel
theorem dX8_ways_86 : decode cX8_ways 86 = .ok (.iconst 1, 1) := by decide +kernel
theorem dX8_ways_87 : decode cX8_ways 87 = .ok (.putfield 222, 3) := by decide +kernel
theorem dX8_ways_90 : decode cX8_ways 90 = .ok (.aload_n 0, 1) := by decide +kernel
theorem dX8_ways_91 : decode cX8_ways 91 = .ok (.getfield 43, 3) := by decide +kernel
theorem dX8_ways_94 : decode cX8_ways 94 = .ok (.iconst 0, 1) := by decide +kernel
theorem dX8_ways_95 : decode cX8_ways 95 = .ok (.lload_n 2, 1) := by decide +kernel
theorem dX8_ways_96 : decode cX8_ways 96 = .ok (.lastore, 1) := by decide +kernel
theorem dX8_ways_97 : decode cX8_ways 97 = .ok (.aload_n 0, 1) := by decide +kernel
theorem dX8_ways_98 : decode cX8_ways 98 = .ok (.getfield 46, 3) := by decide +kernel
theorem dX8_ways_101 : decode cX8_ways 101 = .ok (.iconst 0, 1) := by decide +kernel
theorem dX8_ways_102 : decode cX8_ways 102 = .ok (.lconst 1, 1) := by decide +kernel
theorem dX8_ways_103 : decode cX8_ways 103 = .ok (.lastore, 1) := by decide +kernel
theorem dX8_ways_104 : decode cX8_ways 104 = .ok (.aload_n 0, 1) := by decide +kernel
theorem dX8_ways_105 : decode cX8_ways 105 = .ok (.getfield 49, 3) := by decide +kernel
theorem dX8_ways_108 : decode cX8_ways 108 = .ok (.iconst 0, 1) := by decide +kernel
theorem dX8_ways_109 : decode cX8_ways 109 = .ok (.iconst 0, 1) := by decide +kernel
theorem dX8_ways_110 : decode cX8_ways 110 = .ok (.iastore, 1) := by decide +kernel
theorem dX8_ways_111 : decode cX8_ways 111 = .ok (.aload_n 0, 1) := by decide +kernel
theorem dX8_ways_112 : decode cX8_ways 112 = .ok (.getfield 18, 3) := by decide +kernel
theorem dX8_ways_115 : decode cX8_ways 115 = .ok (.iload_n 1, 1) := by decide +kernel
theorem dX8_ways_116 : decode cX8_ways 116 = .ok (.iaload, 1) := by decide +kernel
theorem dX8_ways_117 : decode cX8_ways 117 = .ok (.iconst 1, 1) := by decide +kernel
theorem dX8_ways_118 : decode cX8_ways 118 = .ok (.isub, 1) := by decide +kernel
theorem dX8_ways_119 : decode cX8_ways 119 = .ok (.istore 8, 2) := by decide +kernel
theorem dX8_ways_121 : decode cX8_ways 121 = .ok (.iload 8, 2) := by decide +kernel
theorem dX8_ways_123 : decode cX8_ways 123 = .ok (.ifCond .lt 233, 3) := by decide +kernel
theorem dX8_ways_126 : decode cX8_ways 126 = .ok (.aload_n 0, 1) := by decide +kernel
theorem dX8_ways_127 : decode cX8_ways 127 = .ok (.iload_n 1, 1) := by decide +kernel
theorem dX8_ways_128 : decode cX8_ways 128 = .ok (.iload 8, 2) := by decide +kernel
theorem dX8_ways_130 : decode cX8_ways 130 = .ok (.invokevirtual 129, 3) := by decide +kernel
theorem dX8_ways_133 : decode cX8_ways 133 = .ok (.lstore 9, 2) := by decide +kernel
theorem dX8_ways_135 : decode cX8_ways 135 = .ok (.lload 6, 2) := by decide +kernel
theorem dX8_ways_137 : decode cX8_ways 137 = .ok (.iload 4, 2) := by decide +kernel
theorem dX8_ways_139 : decode cX8_ways 139 = .ok (.i2l, 1) := by decide +kernel
theorem dX8_ways_140 : decode cX8_ways 140 = .ok (.lload 9, 2) := by decide +kernel
theorem dX8_ways_142 : decode cX8_ways 142 = .ok (.lmul, 1) := by decide +kernel
theorem dX8_ways_143 : decode cX8_ways 143 = .ok (.lsub, 1) := by decide +kernel
theorem dX8_ways_144 : decode cX8_ways 144 = .ok (.lstore 6, 2) := by decide +kernel
theorem dX8_ways_146 : decode cX8_ways 146 = .ok (.aload_n 0, 1) := by decide +kernel
theorem dX8_ways_147 : decode cX8_ways 147 = .ok (.iconst 0, 1) := by decide +kernel
theorem dX8_ways_148 : decode cX8_ways 148 = .ok (.putfield 219, 3) := by decide +kernel
theorem dX8_ways_151 : decode cX8_ways 151 = .ok (.iconst 0, 1) := by decide +kernel
theorem dX8_ways_152 : decode cX8_ways 152 = .ok (.istore 11, 2) := by decide +kernel
theorem dX8_ways_154 : decode cX8_ways 154 = .ok (.iload 11, 2) := by decide +kernel
theorem dX8_ways_156 : decode cX8_ways 156 = .ok (.sipush 16384, 3) := by decide +kernel
theorem dX8_ways_159 : decode cX8_ways 159 = .ok (.if_icmp .ge 17, 3) := by decide +kernel
theorem dX8_ways_162 : decode cX8_ways 162 = .ok (.aload_n 0, 1) := by decide +kernel
theorem dX8_ways_163 : decode cX8_ways 163 = .ok (.getfield 52, 3) := by decide +kernel
theorem dX8_ways_166 : decode cX8_ways 166 = .ok (.iload 11, 2) := by decide +kernel
theorem dX8_ways_168 : decode cX8_ways 168 = .ok (.iconst 0, 1) := by decide +kernel
theorem dX8_ways_169 : decode cX8_ways 169 = .ok (.iastore, 1) := by decide +kernel
theorem dX8_ways_170 : decode cX8_ways 170 = .ok (.iinc 11 1, 3) := by decide +kernel
theorem dX8_ways_173 : decode cX8_ways 173 = .ok (.goto (-19), 3) := by decide +kernel
theorem dX8_ways_176 : decode cX8_ways 176 = .ok (.iconst 0, 1) := by decide +kernel
theorem dX8_ways_177 : decode cX8_ways 177 = .ok (.istore 11, 2) := by decide +kernel
theorem dX8_ways_179 : decode cX8_ways 179 = .ok (.iload 11, 2) := by decide +kernel
theorem dX8_ways_181 : decode cX8_ways 181 = .ok (.aload_n 0, 1) := by decide +kernel
theorem dX8_ways_182 : decode cX8_ways 182 = .ok (.getfield 222, 3) := by decide +kernel
theorem dX8_ways_185 : decode cX8_ways 185 = .ok (.if_icmp .ge 97, 3) := by decide +kernel
theorem dX8_ways_188 : decode cX8_ways 188 = .ok (.iconst 0, 1) := by decide +kernel
theorem dX8_ways_189 : decode cX8_ways 189 = .ok (.istore 12, 2) := by decide +kernel
theorem dX8_ways_191 : decode cX8_ways 191 = .ok (.iload 12, 2) := by decide +kernel
