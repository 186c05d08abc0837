theorem dX3_init_0 : decode cX3_init 0 = .ok (.aload_n 0, 1) := by decide +kernel
theorem dX3_init_1 : decode cX3_init 1 = .ok (.invokespecial 3, 3) := by decide +kernel
theorem dX3_init_4 : decode cX3_init 4 = .ok (.aload_n 0, 1) := by decide +kernel
theorem dX3_init_5 : decode cX3_init 5 = .ok (.new 9, 3) := by decide +kernel
theorem dX3_init_8 : decode cX3_init 8 = .ok (.dup, 1) := by decide +kernel
theorem dX3_init_9 : decode cX3_init 9 = .ok (.invokespecial 11, 3) := by decide +kernel
theorem dX3_init_12 : decode cX3_init 12 = .ok (.putfield 12, 3) := by decide +kernel
theorem dX3_init_15 : decode cX3_init 15 = .ok (.aload_n 0, 1) := by decide +kernel
theorem dX3_init_16 : decode cX3_init 16 = .ok (.new 9, 3) := by decide +kernel
theorem dX3_init_19 : decode cX3_init 19 = .ok (.dup, 1) := by decide +kernel
theorem dX3_init_20 : decode cX3_init 20 = .ok (.invokespecial 11, 3) := by decide +kernel
theorem dX3_init_23 : decode cX3_init 23 = .ok (.putfield 18, 3) := by decide +kernel
theorem dX3_init_26 : decode cX3_init 26 = .ok (.aload_n 0, 1) := by decide +kernel
theorem dX3_init_27 : decode cX3_init 27 = .ok (.bipush 10, 2) := by decide +kernel
theorem dX3_init_29 : decode cX3_init 29 = .ok (.newarray .int, 2) := by decide +kernel
theorem dX3_init_31 : decode cX3_init 31 = .ok (.putfield 21, 3) := by decide +kernel
theorem dX3_init_34 : decode cX3_init 34 = .ok (.return_, 1) := by decide +kernel
theorem dX3_make_0 : decode cX3_make 0 = .ok (.lconst 0, 1) := by decide +kernel
theorem dX3_make_1 : decode cX3_make 1 = .ok (.lstore 5, 2) := by decide +kernel
theorem dX3_make_3 : decode cX3_make 3 = .ok (.iconst 0, 1) := by decide +kernel
theorem dX3_make_4 : decode cX3_make 4 = .ok (.istore 7, 2) := by decide +kernel
theorem dX3_make_6 : decode cX3_make 6 = .ok (.iload 7, 2) := by decide +kernel
theorem dX3_make_8 : decode cX3_make 8 = .ok (.bipush 43, 2) := by decide +kernel
theorem dX3_make_10 : decode cX3_make 10 = .ok (.if_icmp .ge 34, 3) := by decide +kernel
theorem dX3_make_13 : decode cX3_make 13 = .ok (.aload_n 1, 1) := by decide +kernel
theorem dX3_make_14 : decode cX3_make 14 = .ok (.iload 7, 2) := by decide +kernel
theorem dX3_make_16 : decode cX3_make 16 = .ok (.invokevirtual 25, 3) := by decide +kernel
theorem dX3_make_19 : decode cX3_make 19 = .ok (.ifCond .eq 25, 3) := by decide +kernel
theorem dX3_make_22 : decode cX3_make 22 = .ok (.lload 5, 2) := by decide +kernel
theorem dX3_make_24 : decode cX3_make 24 = .ok (.iload 4, 2) := by decide +kernel
theorem dX3_make_26 : decode cX3_make 26 = .ok (.i2l, 1) := by decide +kernel
theorem dX3_make_27 : decode cX3_make 27 = .ok (.aload_n 1, 1) := by decide +kernel
theorem dX3_make_28 : decode cX3_make 28 = .ok (.getfield 31, 3) := by decide +kernel
theorem dX3_make_31 : decode cX3_make 31 = .ok (.iload 7, 2) := by decide +kernel
theorem dX3_make_33 : decode cX3_make 33 = .ok (.laload, 1) := by decide +kernel
theorem dX3_make_34 : decode cX3_make 34 = .ok (.lmul, 1) := by decide +kernel
theorem dX3_make_35 : decode cX3_make 35 = .ok (.ladd, 1) := by decide +kernel
theorem dX3_make_36 : decode cX3_make 36 = .ok (.lstore 5, 2) := by decide +kernel
theorem dX3_make_38 : decode cX3_make 38 = .ok (.iinc 7 1, 3) := by decide +kernel
theorem dX3_make_41 : decode cX3_make 41 = .ok (.goto (-35), 3) := by decide +kernel
theorem dX3_make_44 : decode cX3_make 44 = .ok (.aload_n 0, 1) := by decide +kernel
theorem dX3_make_45 : decode cX3_make 45 = .ok (.getfield 18, 3) := by decide +kernel
theorem dX3_make_48 : decode cX3_make 48 = .ok (.iconst 0, 1) := by decide +kernel
theorem dX3_make_49 : decode cX3_make 49 = .ok (.putfield 35, 3) := by decide +kernel
theorem dX3_make_52 : decode cX3_make 52 = .ok (.aload_n 0, 1) := by decide +kernel
theorem dX3_make_53 : decode cX3_make 53 = .ok (.getfield 18, 3) := by decide +kernel
theorem dX3_make_56 : decode cX3_make 56 = .ok (.lload_n 2, 1) := by decide +kernel
theorem dX3_make_57 : decode cX3_make 57 = .ok (.lconst 1, 1) := by decide +kernel
theorem dX3_make_58 : decode cX3_make 58 = .ok (.iconst 0, 1) := by decide +kernel
theorem dX3_make_59 : decode cX3_make 59 = .ok (.invokevirtual 39, 3) := by decide +kernel
theorem dX3_make_62 : decode cX3_make 62 = .ok (.aload_n 1, 1) := by decide +kernel
theorem dX3_make_63 : decode cX3_make 63 = .ok (.getfield 43, 3) := by decide +kernel
theorem dX3_make_66 : decode cX3_make 66 = .ok (.iconst 1, 1) := by decide +kernel
theorem dX3_make_67 : decode cX3_make 67 = .ok (.isub, 1) := by decide +kernel
theorem dX3_make_68 : decode cX3_make 68 = .ok (.istore 7, 2) := by decide +kernel
theorem dX3_make_70 : decode cX3_make 70 = .ok (.iload 7, 2) := by decide +kernel
theorem dX3_make_72 : decode cX3_make 72 = .ok (.ifCond .lt 69, 3) := by decide +kernel
theorem dX3_make_75 : decode cX3_make 75 = .ok (.aload_n 1, 1) := by decide +kernel
theorem dX3_make_76 : decode cX3_make 76 = .ok (.iload 7, 2) := by decide +kernel
theorem dX3_make_78 : decode cX3_make 78 = .ok (.invokevirtual 25, 3) := by decide +kernel
theorem dX3_make_81 : decode cX3_make 81 = .ok (.ifCond .eq 60, 3) := by decide +kernel
theorem dX3_make_84 : decode cX3_make 84 = .ok (.lload 5, 2) := by decide +kernel
theorem dX3_make_86 : decode cX3_make 86 = .ok (.iload 4, 2) := by decide +kernel
theorem dX3_make_88 : decode cX3_make 88 = .ok (.i2l, 1) := by decide +kernel
theorem dX3_make_89 : decode cX3_make 89 = .ok (.aload_n 1, 1) := by decide +kernel
theorem dX3_make_90 : decode cX3_make 90 = .ok (.getfield 31, 3) := by decide +kernel
theorem dX3_make_93 : decode cX3_make 93 = .ok (.iload 7, 2) := by decide +kernel
theorem dX3_make_95 : decode cX3_make 95 = .ok (.laload, 1) := by decide +kernel
theorem dX3_make_96 : decode cX3_make 96 = .ok (.lmul, 1) := by decide +kernel
theorem dX3_make_97 : decode cX3_make 97 = .ok (.lsub, 1) := by decide +kernel
theorem dX3_make_98 : decode cX3_make 98 = .ok (.lstore 5, 2) := by decide +kernel
theorem dX3_make_100 : decode cX3_make 100 = .ok (.aload_n 0, 1) := by decide +kernel
theorem dX3_make_101 : decode cX3_make 101 = .ok (.getfield 18, 3) := by decide +kernel
theorem dX3_make_104 : decode cX3_make 104 = .ok (.astore 8, 2) := by decide +kernel
theorem dX3_make_106 : decode cX3_make 106 = .ok (.aload_n 0, 1) := by decide +kernel
theorem dX3_make_107 : decode cX3_make 107 = .ok (.aload_n 0, 1) := by decide +kernel
theorem dX3_make_108 : decode cX3_make 108 = .ok (.getfield 12, 3) := by decide +kernel
theorem dX3_make_111 : decode cX3_make 111 = .ok (.putfield 18, 3) := by decide +kernel
theorem dX3_make_114 : decode cX3_make 114 = .ok (.aload_n 0, 1) := by decide +kernel
theorem dX3_make_115 : decode cX3_make 115 = .ok (.aload 8, 2) := by decide +kernel
theorem dX3_make_117 : decode cX3_make 117 = .ok (.putfield 12, 3) := by decide +kernel
theorem dX3_make_120 : decode cX3_make 120 = .ok (.aload_n 0, 1) := by decide +kernel
theorem dX3_make_121 : decode cX3_make 121 = .ok (.aload_n 1, 1) := by decide +kernel
theorem dX3_make_122 : decode cX3_make 122 = .ok (.getfield 31, 3) := by decide +kernel
theorem dX3_make_125 : decode cX3_make 125 = .ok (.iload 7, 2) := by decide +kernel
theorem dX3_make_127 : decode cX3_make 127 = .ok (.laload, 1) := by decide +kernel
theorem dX3_make_128 : decode cX3_make 128 = .ok (.iload 4, 2) := by decide +kernel
theorem dX3_make_130 : decode cX3_make 130 = .ok (.lload 5, 2) := by decide +kernel
theorem dX3_make_132 : decode cX3_make 132 = .ok (.invokevirtual 46, 3) := by decide +kernel
theorem dX3_make_135 : decode cX3_make 135 = .ok (.iinc 7 (-1), 3) := by decide +kernel
theorem dX3_make_138 : decode cX3_make 138 = .ok (.goto (-68), 3) := by decide +kernel
theorem dX3_make_141 : decode cX3_make 141 = .ok (.aload_n 0, 1) := by decide +kernel
theorem dX3_make_142 : decode cX3_make 142 = .ok (.getfield 18, 3) := by decide +kernel
theorem dX3_make_145 : decode cX3_make 145 = .ok (.areturn, 1) := by decide +kernel
theorem dX3_take_0 : decode cX3_take 0 = .ok (.aload_n 0, 1) := by decide +kernel
theorem dX3_take_1 : decode cX3_take 1 = .ok (.getfield 18, 3) := by decide +kernel
theorem dX3_take_4 : decode cX3_take 4 = .ok (.iconst 0, 1) := by decide +kernel
theorem dX3_take_5 : decode cX3_take 5 = .ok (.putfield 35, 3) := by decide +kernel
theorem dX3_take_8 : decode cX3_take 8 = .ok (.iconst 0, 1) := by decide +kernel
theorem dX3_take_9 : decode cX3_take 9 = .ok (.istore 6, 2) := by decide +kernel
theorem dX3_take_11 : decode cX3_take 11 = .ok (.iload 6, 2) := by decide +kernel
theorem dX3_take_13 : decode cX3_take 13 = .ok (.iload_n 3, 1) := by decide +kernel
theorem dX3_take_14 : decode cX3_take 14 = .ok (.if_icmp .gt 35, 3) := by decide +kernel
theorem dX3_take_17 : decode cX3_take 17 = .ok (.iload 6, 2) := by decide +kernel
theorem dX3_take_19 : decode cX3_take 19 = .ok (.aload_n 0, 1) := by decide +kernel
theorem dX3_take_20 : decode cX3_take 20 = .ok (.getfield 21, 3) := by decide +kernel
theorem dX3_take_23 : decode cX3_take 23 = .ok (.arraylength, 1) := by decide +kernel
theorem dX3_take_24 : decode cX3_take 24 = .ok (.if_icmp .ge 25, 3) := by decide +kernel
theorem dX3_take_27 : decode cX3_take 27 = .ok (.aload_n 0, 1) := by decide +kernel
theorem dX3_take_28 : decode cX3_take 28 = .ok (.getfield 21, 3) := by decide +kernel
theorem dX3_take_31 : decode cX3_take 31 = .ok (.iload 6, 2) := by decide +kernel
theorem dX3_take_33 : decode cX3_take 33 = .ok (.aload_n 0, 1) := by decide +kernel
theorem dX3_take_34 : decode cX3_take 34 = .ok (.iload 6, 2) := by decide +kernel
theorem dX3_take_36 : decode cX3_take 36 = .ok (.i2l, 1) := by decide +kernel
theorem dX3_take_37 : decode cX3_take 37 = .ok (.lload_n 1, 1) := by decide +kernel
theorem dX3_take_38 : decode cX3_take 38 = .ok (.lmul, 1) := by decide +kernel
theorem dX3_take_39 : decode cX3_take 39 = .ok (.invokevirtual 50, 3) := by decide +kernel
theorem dX3_take_42 : decode cX3_take 42 = .ok (.iastore, 1) := by decide +kernel
theorem dX3_take_43 : decode cX3_take 43 = .ok (.iinc 6 1, 3) := by decide +kernel
theorem dX3_take_46 : decode cX3_take 46 = .ok (.goto (-35), 3) := by decide +kernel
theorem dX3_take_49 : decode cX3_take 49 = .ok (.aload_n 0, 1) := by decide +kernel
theorem dX3_take_50 : decode cX3_take 50 = .ok (.getfield 12, 3) := by decide +kernel
theorem dX3_take_53 : decode cX3_take 53 = .ok (.getfield 35, 3) := by decide +kernel
theorem dX3_take_56 : decode cX3_take 56 = .ok (.iload_n 3, 1) := by decide +kernel
theorem dX3_take_57 : decode cX3_take 57 = .ok (.iconst 1, 1) := by decide +kernel
theorem dX3_take_58 : decode cX3_take 58 = .ok (.iadd, 1) := by decide +kernel
theorem dX3_take_59 : decode cX3_take 59 = .ok (.imul, 1) := by decide +kernel
theorem dX3_take_60 : decode cX3_take 60 = .ok (.istore 6, 2) := by decide +kernel
theorem dX3_take_62 : decode cX3_take 62 = .ok (.iconst 0, 1) := by decide +kernel
theorem dX3_take_63 : decode cX3_take 63 = .ok (.istore 7, 2) := by decide +kernel
theorem dX3_take_65 : decode cX3_take 65 = .ok (.iload 7, 2) := by decide +kernel
theorem dX3_take_67 : decode cX3_take 67 = .ok (.iload 6, 2) := by decide +kernel
theorem dX3_take_69 : decode cX3_take 69 = .ok (.if_icmp .ge 139, 3) := by decide +kernel
theorem dX3_take_72 : decode cX3_take 72 = .ok (.aload_n 0, 1) := by decide +kernel
theorem dX3_take_73 : decode cX3_take 73 = .ok (.lload_n 1, 1) := by decide +kernel
theorem dX3_take_74 : decode cX3_take 74 = .ok (.iload_n 3, 1) := by decide +kernel
theorem dX3_take_75 : decode cX3_take 75 = .ok (.invokevirtual 54, 3) := by decide +kernel
theorem dX3_take_78 : decode cX3_take 78 = .ok (.istore 8, 2) := by decide +kernel
theorem dX3_take_80 : decode cX3_take 80 = .ok (.iload 8, 2) := by decide +kernel
theorem dX3_take_82 : decode cX3_take 82 = .ok (.ifCond .lt 40, 3) := by decide +kernel
theorem dX3_take_85 : decode cX3_take 85 = .ok (.iload 8, 2) := by decide +kernel
theorem dX3_take_87 : decode cX3_take 87 = .ok (.aload_n 0, 1) := by decide +kernel
theorem dX3_take_88 : decode cX3_take 88 = .ok (.getfield 21, 3) := by decide +kernel
theorem dX3_take_91 : decode cX3_take 91 = .ok (.arraylength, 1) := by decide +kernel
theorem dX3_take_92 : decode cX3_take 92 = .ok (.if_icmp .ge 30, 3) := by decide +kernel
theorem dX3_take_95 : decode cX3_take 95 = .ok (.aload_n 0, 1) := by decide +kernel
theorem dX3_take_96 : decode cX3_take 96 = .ok (.getfield 21, 3) := by decide +kernel
theorem dX3_take_99 : decode cX3_take 99 = .ok (.iload 8, 2) := by decide +kernel
theorem dX3_take_101 : decode cX3_take 101 = .ok (.iaload, 1) := by decide +kernel
theorem dX3_take_102 : decode cX3_take 102 = .ok (.ifCond .lt 20, 3) := by decide +kernel
theorem dX3_take_105 : decode cX3_take 105 = .ok (.aload_n 0, 1) := by decide +kernel
theorem dX3_take_106 : decode cX3_take 106 = .ok (.getfield 21, 3) := by decide +kernel
theorem dX3_take_109 : decode cX3_take 109 = .ok (.iload 8, 2) := by decide +kernel
theorem dX3_take_111 : decode cX3_take 111 = .ok (.iaload, 1) := by decide +kernel
theorem dX3_take_112 : decode cX3_take 112 = .ok (.aload_n 0, 1) := by decide +kernel
theorem dX3_take_113 : decode cX3_take 113 = .ok (.getfield 12, 3) := by decide +kernel
theorem dX3_take_116 : decode cX3_take 116 = .ok (.getfield 35, 3) := by decide +kernel
theorem dX3_take_119 : decode cX3_take 119 = .ok (.if_icmp .lt 4, 3) := by decide +kernel
theorem dX3_take_122 : decode cX3_take 122 = .ok (.return_, 1) := by decide +kernel
theorem dX3_take_123 : decode cX3_take 123 = .ok (.aload_n 0, 1) := by decide +kernel
theorem dX3_take_124 : decode cX3_take 124 = .ok (.getfield 21, 3) := by decide +kernel
theorem dX3_take_127 : decode cX3_take 127 = .ok (.iload 8, 2) := by decide +kernel
theorem dX3_take_129 : decode cX3_take 129 = .ok (.iaload, 1) := by decide +kernel
theorem dX3_take_130 : decode cX3_take 130 = .ok (.istore 9, 2) := by decide +kernel
theorem dX3_take_132 : decode cX3_take 132 = .ok (.aload_n 0, 1) := by decide +kernel
theorem dX3_take_133 : decode cX3_take 133 = .ok (.getfield 12, 3) := by decide +kernel
theorem dX3_take_136 : decode cX3_take 136 = .ok (.getfield 58, 3) := by decide +kernel
theorem dX3_take_139 : decode cX3_take 139 = .ok (.iload 9, 2) := by decide +kernel
theorem dX3_take_141 : decode cX3_take 141 = .ok (.laload, 1) := by decide +kernel
theorem dX3_take_142 : decode cX3_take 142 = .ok (.iload 8, 2) := by decide +kernel
theorem dX3_take_144 : decode cX3_take 144 = .ok (.i2l, 1) := by decide +kernel
theorem dX3_take_145 : decode cX3_take 145 = .ok (.lload_n 1, 1) := by decide +kernel
theorem dX3_take_146 : decode cX3_take 146 = .ok (.lmul, 1) := by decide +kernel
theorem dX3_take_147 : decode cX3_take 147 = .ok (.lsub, 1) := by decide +kernel
theorem dX3_take_148 : decode cX3_take 148 = .ok (.lstore 10, 2) := by decide +kernel
theorem dX3_take_150 : decode cX3_take 150 = .ok (.lload 10, 2) := by decide +kernel
theorem dX3_take_152 : decode cX3_take 152 = .ok (.lload 4, 2) := by decide +kernel
theorem dX3_take_154 : decode cX3_take 154 = .ok (.lcmp, 1) := by decide +kernel
theorem dX3_take_155 : decode cX3_take 155 = .ok (.ifCond .le 4, 3) := by decide +kernel
theorem dX3_take_158 : decode cX3_take 158 = .ok (.return_, 1) := by decide +kernel
theorem dX3_take_159 : decode cX3_take 159 = .ok (.aload_n 0, 1) := by decide +kernel
theorem dX3_take_160 : decode cX3_take 160 = .ok (.getfield 18, 3) := by decide +kernel
theorem dX3_take_163 : decode cX3_take 163 = .ok (.lload 10, 2) := by decide +kernel
theorem dX3_take_165 : decode cX3_take 165 = .ok (.aload_n 0, 1) := by decide +kernel
theorem dX3_take_166 : decode cX3_take 166 = .ok (.getfield 12, 3) := by decide +kernel
theorem dX3_take_169 : decode cX3_take 169 = .ok (.getfield 61, 3) := by decide +kernel
theorem dX3_take_172 : decode cX3_take 172 = .ok (.iload 9, 2) := by decide +kernel
theorem dX3_take_174 : decode cX3_take 174 = .ok (.laload, 1) := by decide +kernel
theorem dX3_take_175 : decode cX3_take 175 = .ok (.aload_n 0, 1) := by decide +kernel
theorem dX3_take_176 : decode cX3_take 176 = .ok (.getfield 12, 3) := by decide +kernel
theorem dX3_take_179 : decode cX3_take 179 = .ok (.getfield 64, 3) := by decide +kernel
theorem dX3_take_182 : decode cX3_take 182 = .ok (.iload 9, 2) := by decide +kernel
theorem dX3_take_184 : decode cX3_take 184 = .ok (.iaload, 1) := by decide +kernel
theorem dX3_take_185 : decode cX3_take 185 = .ok (.iload 8, 2) := by decide +kernel
theorem dX3_take_187 : decode cX3_take 187 = .ok (.iadd, 1) := by decide +kernel
theorem dX3_take_188 : decode cX3_take 188 = .ok (.invokevirtual 39, 3) := by decide +kernel
theorem dX3_take_191 : decode cX3_take 191 = .ok (.aload_n 0, 1) := by decide +kernel
theorem dX3_take_192 : decode cX3_take 192 = .ok (.getfield 21, 3) := by decide +kernel
theorem dX3_take_195 : decode cX3_take 195 = .ok (.iload 8, 2) := by decide +kernel
theorem dX3_take_197 : decode cX3_take 197 = .ok (.dup2, 1) := by decide +kernel
theorem dX3_take_198 : decode cX3_take 198 = .ok (.iaload, 1) := by decide +kernel
theorem dX3_take_199 : decode cX3_take 199 = .ok (.iconst 1, 1) := by decide +kernel
theorem dX3_take_200 : decode cX3_take 200 = .ok (.iadd, 1) := by decide +kernel
theorem dX3_take_201 : decode cX3_take 201 = .ok (.iastore, 1) := by decide +kernel
theorem dX3_take_202 : decode cX3_take 202 = .ok (.iinc 7 1, 3) := by decide +kernel
theorem dX3_take_205 : decode cX3_take 205 = .ok (.goto (-140), 3) := by decide +kernel
theorem dX3_take_208 : decode cX3_take 208 = .ok (.return_, 1) := by decide +kernel
theorem dX3_firstFrom_0 : decode cX3_firstFrom 0 = .ok (.iconst 0, 1) := by decide +kernel
theorem dX3_firstFrom_1 : decode cX3_firstFrom 1 = .ok (.istore_n 3, 1) := by decide +kernel
theorem dX3_firstFrom_2 : decode cX3_firstFrom 2 = .ok (.iload_n 3, 1) := by decide +kernel
theorem dX3_firstFrom_3 : decode cX3_firstFrom 3 = .ok (.aload_n 0, 1) := by decide +kernel
theorem dX3_firstFrom_4 : decode cX3_firstFrom 4 = .ok (.getfield 12, 3) := by decide +kernel
theorem dX3_firstFrom_7 : decode cX3_firstFrom 7 = .ok (.getfield 35, 3) := by decide +kernel
theorem dX3_firstFrom_10 : decode cX3_firstFrom 10 = .ok (.if_icmp .ge 32, 3) := by decide +kernel
theorem dX3_firstFrom_13 : decode cX3_firstFrom 13 = .ok (.iload_n 3, 1) := by decide +kernel
theorem dX3_firstFrom_14 : decode cX3_firstFrom 14 = .ok (.sipush 1300, 3) := by decide +kernel
theorem dX3_firstFrom_17 : decode cX3_firstFrom 17 = .ok (.if_icmp .ge 25, 3) := by decide +kernel
theorem dX3_firstFrom_20 : decode cX3_firstFrom 20 = .ok (.aload_n 0, 1) := by decide +kernel
theorem dX3_firstFrom_21 : decode cX3_firstFrom 21 = .ok (.getfield 12, 3) := by decide +kernel
theorem dX3_firstFrom_24 : decode cX3_firstFrom 24 = .ok (.getfield 58, 3) := by decide +kernel
theorem dX3_firstFrom_27 : decode cX3_firstFrom 27 = .ok (.iload_n 3, 1) := by decide +kernel
theorem dX3_firstFrom_28 : decode cX3_firstFrom 28 = .ok (.laload, 1) := by decide +kernel
theorem dX3_firstFrom_29 : decode cX3_firstFrom 29 = .ok (.lload_n 1, 1) := by decide +kernel
theorem dX3_firstFrom_30 : decode cX3_firstFrom 30 = .ok (.lcmp, 1) := by decide +kernel
theorem dX3_firstFrom_31 : decode cX3_firstFrom 31 = .ok (.ifCond .lt 5, 3) := by decide +kernel
theorem dX3_firstFrom_34 : decode cX3_firstFrom 34 = .ok (.iload_n 3, 1) := by decide +kernel
theorem dX3_firstFrom_35 : decode cX3_firstFrom 35 = .ok (.ireturn, 1) := by decide +kernel
theorem dX3_firstFrom_36 : decode cX3_firstFrom 36 = .ok (.iinc 3 1, 3) := by decide +kernel
theorem dX3_firstFrom_39 : decode cX3_firstFrom 39 = .ok (.goto (-37), 3) := by decide +kernel
theorem dX3_firstFrom_42 : decode cX3_firstFrom 42 = .ok (.aload_n 0, 1) := by decide +kernel
theorem dX3_firstFrom_43 : decode cX3_firstFrom 43 = .ok (.getfield 12, 3) := by decide +kernel
theorem dX3_firstFrom_46 : decode cX3_firstFrom 46 = .ok (.getfield 35, 3) := by decide +kernel
theorem dX3_firstFrom_49 : decode cX3_firstFrom 49 = .ok (.ireturn, 1) := by decide +kernel
theorem dX3_nextLeast_0 : decode cX3_nextLeast 0 = .ok (.iconst (-1), 1) := by decide +kernel
theorem dX3_nextLeast_1 : decode cX3_nextLeast 1 = .ok (.istore 4, 2) := by decide +kernel
theorem dX3_nextLeast_3 : decode cX3_nextLeast 3 = .ok (.lconst 0, 1) := by decide +kernel
theorem dX3_nextLeast_4 : decode cX3_nextLeast 4 = .ok (.lstore 5, 2) := by decide +kernel
theorem dX3_nextLeast_6 : decode cX3_nextLeast 6 = .ok (.iconst 0, 1) := by decide +kernel
theorem dX3_nextLeast_7 : decode cX3_nextLeast 7 = .ok (.istore 7, 2) := by decide +kernel
theorem dX3_nextLeast_9 : decode cX3_nextLeast 9 = .ok (.iload 7, 2) := by decide +kernel
theorem dX3_nextLeast_11 : decode cX3_nextLeast 11 = .ok (.iload_n 3, 1) := by decide +kernel
theorem dX3_nextLeast_12 : decode cX3_nextLeast 12 = .ok (.if_icmp .gt 96, 3) := by decide +kernel
theorem dX3_nextLeast_15 : decode cX3_nextLeast 15 = .ok (.iload 7, 2) := by decide +kernel
theorem dX3_nextLeast_17 : decode cX3_nextLeast 17 = .ok (.aload_n 0, 1) := by decide +kernel
theorem dX3_nextLeast_18 : decode cX3_nextLeast 18 = .ok (.getfield 21, 3) := by decide +kernel
theorem dX3_nextLeast_21 : decode cX3_nextLeast 21 = .ok (.arraylength, 1) := by decide +kernel
theorem dX3_nextLeast_22 : decode cX3_nextLeast 22 = .ok (.if_icmp .ge 86, 3) := by decide +kernel
theorem dX3_nextLeast_25 : decode cX3_nextLeast 25 = .ok (.aload_n 0, 1) := by decide +kernel
theorem dX3_nextLeast_26 : decode cX3_nextLeast 26 = .ok (.getfield 21, 3) := by decide +kernel
theorem dX3_nextLeast_29 : decode cX3_nextLeast 29 = .ok (.iload 7, 2) := by decide +kernel
theorem dX3_nextLeast_31 : decode cX3_nextLeast 31 = .ok (.iaload, 1) := by decide +kernel
theorem dX3_nextLeast_32 : decode cX3_nextLeast 32 = .ok (.istore 8, 2) := by decide +kernel
theorem dX3_nextLeast_34 : decode cX3_nextLeast 34 = .ok (.iload 8, 2) := by decide +kernel
theorem dX3_nextLeast_36 : decode cX3_nextLeast 36 = .ok (.ifCond .lt 66, 3) := by decide +kernel
theorem dX3_nextLeast_39 : decode cX3_nextLeast 39 = .ok (.iload 8, 2) := by decide +kernel
theorem dX3_nextLeast_41 : decode cX3_nextLeast 41 = .ok (.aload_n 0, 1) := by decide +kernel
theorem dX3_nextLeast_42 : decode cX3_nextLeast 42 = .ok (.getfield 12, 3) := by decide +kernel
theorem dX3_nextLeast_45 : decode cX3_nextLeast 45 = .ok (.getfield 35, 3) := by decide +kernel
theorem dX3_nextLeast_48 : decode cX3_nextLeast 48 = .ok (.if_icmp .ge 54, 3) := by decide +kernel
theorem dX3_nextLeast_51 : decode cX3_nextLeast 51 = .ok (.iload 8, 2) := by decide +kernel
theorem dX3_nextLeast_53 : decode cX3_nextLeast 53 = .ok (.sipush 1300, 3) := by decide +kernel
theorem dX3_nextLeast_56 : decode cX3_nextLeast 56 = .ok (.if_icmp .lt 6, 3) := by decide +kernel
theorem dX3_nextLeast_59 : decode cX3_nextLeast 59 = .ok (.goto 43, 3) := by decide +kernel
theorem dX3_nextLeast_62 : decode cX3_nextLeast 62 = .ok (.aload_n 0, 1) := by decide +kernel
theorem dX3_nextLeast_63 : decode cX3_nextLeast 63 = .ok (.getfield 12, 3) := by decide +kernel
theorem dX3_nextLeast_66 : decode cX3_nextLeast 66 = .ok (.getfield 58, 3) := by decide +kernel
theorem dX3_nextLeast_69 : decode cX3_nextLeast 69 = .ok (.iload 8, 2) := by decide +kernel
theorem dX3_nextLeast_71 : decode cX3_nextLeast 71 = .ok (.laload, 1) := by decide +kernel
theorem dX3_nextLeast_72 : decode cX3_nextLeast 72 = .ok (.iload 7, 2) := by decide +kernel
theorem dX3_nextLeast_74 : decode cX3_nextLeast 74 = .ok (.i2l, 1) := by decide +kernel
theorem dX3_nextLeast_75 : decode cX3_nextLeast 75 = .ok (.lload_n 1, 1) := by decide +kernel
theorem dX3_nextLeast_76 : decode cX3_nextLeast 76 = .ok (.lmul, 1) := by decide +kernel
theorem dX3_nextLeast_77 : decode cX3_nextLeast 77 = .ok (.lsub, 1) := by decide +kernel
theorem dX3_nextLeast_78 : decode cX3_nextLeast 78 = .ok (.lstore 9, 2) := by decide +kernel
theorem dX3_nextLeast_80 : decode cX3_nextLeast 80 = .ok (.iload 4, 2) := by decide +kernel
theorem dX3_nextLeast_82 : decode cX3_nextLeast 82 = .ok (.iconst (-1), 1) := by decide +kernel
theorem dX3_nextLeast_83 : decode cX3_nextLeast 83 = .ok (.if_icmp .eq 11, 3) := by decide +kernel
theorem dX3_nextLeast_86 : decode cX3_nextLeast 86 = .ok (.lload 9, 2) := by decide +kernel
theorem dX3_nextLeast_88 : decode cX3_nextLeast 88 = .ok (.lload 5, 2) := by decide +kernel
theorem dX3_nextLeast_90 : decode cX3_nextLeast 90 = .ok (.lcmp, 1) := by decide +kernel
theorem dX3_nextLeast_91 : decode cX3_nextLeast 91 = .ok (.ifCond .ge 11, 3) := by decide +kernel
theorem dX3_nextLeast_94 : decode cX3_nextLeast 94 = .ok (.lload 9, 2) := by decide +kernel
theorem dX3_nextLeast_96 : decode cX3_nextLeast 96 = .ok (.lstore 5, 2) := by decide +kernel
theorem dX3_nextLeast_98 : decode cX3_nextLeast 98 = .ok (.iload 7, 2) := by decide +kernel
theorem dX3_nextLeast_100 : decode cX3_nextLeast 100 = .ok (.istore 4, 2) := by decide +kernel
theorem dX3_nextLeast_102 : decode cX3_nextLeast 102 = .ok (.iinc 7 1, 3) := by decide +kernel
theorem dX3_nextLeast_105 : decode cX3_nextLeast 105 = .ok (.goto (-96), 3) := by decide +kernel
theorem dX3_nextLeast_108 : decode cX3_nextLeast 108 = .ok (.iload 4, 2) := by decide +kernel
theorem dX3_nextLeast_110 : decode cX3_nextLeast 110 = .ok (.ireturn, 1) := by decide +kernel
