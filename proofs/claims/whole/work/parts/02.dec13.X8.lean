theorem dX8_in_0 : decode cX8_in 0 = .ok (.lload_n 0, 1) := by decide +kernel
theorem dX8_in_1 : decode cX8_in 1 = .ok (.lload_n 2, 1) := by decide +kernel
theorem dX8_in_2 : decode cX8_in 2 = .ok (.lcmp, 1) := by decide +kernel
theorem dX8_in_3 : decode cX8_in 3 = .ok (.ifCond .lt 14, 3) := by decide +kernel
theorem dX8_in_6 : decode cX8_in 6 = .ok (.lload_n 0, 1) := by decide +kernel
theorem dX8_in_7 : decode cX8_in 7 = .ok (.lload 4, 2) := by decide +kernel
theorem dX8_in_9 : decode cX8_in 9 = .ok (.lcmp, 1) := by decide +kernel
theorem dX8_in_10 : decode cX8_in 10 = .ok (.ifCond .gt 7, 3) := by decide +kernel
theorem dX8_in_13 : decode cX8_in 13 = .ok (.iconst 1, 1) := by decide +kernel
theorem dX8_in_14 : decode cX8_in 14 = .ok (.goto 4, 3) := by decide +kernel
theorem dX8_in_17 : decode cX8_in 17 = .ok (.iconst 0, 1) := by decide +kernel
theorem dX8_in_18 : decode cX8_in 18 = .ok (.ireturn, 1) := by decide +kernel
theorem dX8_init_0 : decode cX8_init 0 = .ok (.aload_n 0, 1) := by decide +kernel
theorem dX8_init_1 : decode cX8_init 1 = .ok (.invokespecial 3, 3) := by decide +kernel
theorem dX8_init_4 : decode cX8_init 4 = .ok (.aload_n 0, 1) := by decide +kernel
theorem dX8_init_5 : decode cX8_init 5 = .ok (.bipush 24, 2) := by decide +kernel
theorem dX8_init_7 : decode cX8_init 7 = .ok (.newarray .int, 2) := by decide +kernel
theorem dX8_init_9 : decode cX8_init 9 = .ok (.putfield 11, 3) := by decide +kernel
theorem dX8_init_12 : decode cX8_init 12 = .ok (.aload_n 0, 1) := by decide +kernel
theorem dX8_init_13 : decode cX8_init 13 = .ok (.iconst 3, 1) := by decide +kernel
theorem dX8_init_14 : decode cX8_init 14 = .ok (.newarray .int, 2) := by decide +kernel
theorem dX8_init_16 : decode cX8_init 16 = .ok (.putfield 15, 3) := by decide +kernel
theorem dX8_init_19 : decode cX8_init 19 = .ok (.aload_n 0, 1) := by decide +kernel
theorem dX8_init_20 : decode cX8_init 20 = .ok (.iconst 3, 1) := by decide +kernel
theorem dX8_init_21 : decode cX8_init 21 = .ok (.newarray .int, 2) := by decide +kernel
theorem dX8_init_23 : decode cX8_init 23 = .ok (.putfield 18, 3) := by decide +kernel
theorem dX8_init_26 : decode cX8_init 26 = .ok (.aload_n 0, 1) := by decide +kernel
theorem dX8_init_27 : decode cX8_init 27 = .ok (.sipush 150, 3) := by decide +kernel
theorem dX8_init_30 : decode cX8_init 30 = .ok (.newarray .long, 2) := by decide +kernel
theorem dX8_init_32 : decode cX8_init 32 = .ok (.putfield 21, 3) := by decide +kernel
theorem dX8_init_35 : decode cX8_init 35 = .ok (.aload_n 0, 1) := by decide +kernel
theorem dX8_init_36 : decode cX8_init 36 = .ok (.iconst 3, 1) := by decide +kernel
theorem dX8_init_37 : decode cX8_init 37 = .ok (.newarray .long, 2) := by decide +kernel
theorem dX8_init_39 : decode cX8_init 39 = .ok (.putfield 25, 3) := by decide +kernel
theorem dX8_init_42 : decode cX8_init 42 = .ok (.aload_n 0, 1) := by decide +kernel
theorem dX8_init_43 : decode cX8_init 43 = .ok (.bipush 6, 2) := by decide +kernel
theorem dX8_init_45 : decode cX8_init 45 = .ok (.newarray .int, 2) := by decide +kernel
theorem dX8_init_47 : decode cX8_init 47 = .ok (.putfield 28, 3) := by decide +kernel
theorem dX8_init_50 : decode cX8_init 50 = .ok (.aload_n 0, 1) := by decide +kernel
theorem dX8_init_51 : decode cX8_init 51 = .ok (.sipush 300, 3) := by decide +kernel
theorem dX8_init_54 : decode cX8_init 54 = .ok (.newarray .int, 2) := by decide +kernel
theorem dX8_init_56 : decode cX8_init 56 = .ok (.putfield 31, 3) := by decide +kernel
theorem dX8_init_59 : decode cX8_init 59 = .ok (.aload_n 0, 1) := by decide +kernel
theorem dX8_init_60 : decode cX8_init 60 = .ok (.bipush 50, 2) := by decide +kernel
theorem dX8_init_62 : decode cX8_init 62 = .ok (.newarray .int, 2) := by decide +kernel
theorem dX8_init_64 : decode cX8_init 64 = .ok (.putfield 34, 3) := by decide +kernel
theorem dX8_init_67 : decode cX8_init 67 = .ok (.aload_n 0, 1) := by decide +kernel
theorem dX8_init_68 : decode cX8_init 68 = .ok (.bipush 12, 2) := by decide +kernel
theorem dX8_init_70 : decode cX8_init 70 = .ok (.newarray .int, 2) := by decide +kernel
theorem dX8_init_72 : decode cX8_init 72 = .ok (.putfield 37, 3) := by decide +kernel
theorem dX8_init_75 : decode cX8_init 75 = .ok (.aload_n 0, 1) := by decide +kernel
theorem dX8_init_76 : decode cX8_init 76 = .ok (.sipush 600, 3) := by decide +kernel
theorem dX8_init_79 : decode cX8_init 79 = .ok (.newarray .int, 2) := by decide +kernel
theorem dX8_init_81 : decode cX8_init 81 = .ok (.putfield 40, 3) := by decide +kernel
theorem dX8_init_84 : decode cX8_init 84 = .ok (.aload_n 0, 1) := by decide +kernel
theorem dX8_init_85 : decode cX8_init 85 = .ok (.sipush 16384, 3) := by decide +kernel
theorem dX8_init_88 : decode cX8_init 88 = .ok (.newarray .long, 2) := by decide +kernel
theorem dX8_init_90 : decode cX8_init 90 = .ok (.putfield 43, 3) := by decide +kernel
theorem dX8_init_93 : decode cX8_init 93 = .ok (.aload_n 0, 1) := by decide +kernel
theorem dX8_init_94 : decode cX8_init 94 = .ok (.sipush 16384, 3) := by decide +kernel
theorem dX8_init_97 : decode cX8_init 97 = .ok (.newarray .long, 2) := by decide +kernel
theorem dX8_init_99 : decode cX8_init 99 = .ok (.putfield 46, 3) := by decide +kernel
theorem dX8_init_102 : decode cX8_init 102 = .ok (.aload_n 0, 1) := by decide +kernel
theorem dX8_init_103 : decode cX8_init 103 = .ok (.sipush 16384, 3) := by decide +kernel
theorem dX8_init_106 : decode cX8_init 106 = .ok (.newarray .int, 2) := by decide +kernel
theorem dX8_init_108 : decode cX8_init 108 = .ok (.putfield 49, 3) := by decide +kernel
theorem dX8_init_111 : decode cX8_init 111 = .ok (.aload_n 0, 1) := by decide +kernel
theorem dX8_init_112 : decode cX8_init 112 = .ok (.sipush 16384, 3) := by decide +kernel
theorem dX8_init_115 : decode cX8_init 115 = .ok (.newarray .int, 2) := by decide +kernel
theorem dX8_init_117 : decode cX8_init 117 = .ok (.putfield 52, 3) := by decide +kernel
theorem dX8_init_120 : decode cX8_init 120 = .ok (.aload_n 0, 1) := by decide +kernel
theorem dX8_init_121 : decode cX8_init 121 = .ok (.sipush 16384, 3) := by decide +kernel
theorem dX8_init_124 : decode cX8_init 124 = .ok (.newarray .long, 2) := by decide +kernel
theorem dX8_init_126 : decode cX8_init 126 = .ok (.putfield 55, 3) := by decide +kernel
theorem dX8_init_129 : decode cX8_init 129 = .ok (.aload_n 0, 1) := by decide +kernel
theorem dX8_init_130 : decode cX8_init 130 = .ok (.sipush 16384, 3) := by decide +kernel
theorem dX8_init_133 : decode cX8_init 133 = .ok (.newarray .long, 2) := by decide +kernel
theorem dX8_init_135 : decode cX8_init 135 = .ok (.putfield 58, 3) := by decide +kernel
theorem dX8_init_138 : decode cX8_init 138 = .ok (.aload_n 0, 1) := by decide +kernel
theorem dX8_init_139 : decode cX8_init 139 = .ok (.sipush 16384, 3) := by decide +kernel
theorem dX8_init_142 : decode cX8_init 142 = .ok (.newarray .int, 2) := by decide +kernel
theorem dX8_init_144 : decode cX8_init 144 = .ok (.putfield 61, 3) := by decide +kernel
theorem dX8_init_147 : decode cX8_init 147 = .ok (.aload_n 0, 1) := by decide +kernel
theorem dX8_init_148 : decode cX8_init 148 = .ok (.bipush 50, 2) := by decide +kernel
theorem dX8_init_150 : decode cX8_init 150 = .ok (.newarray .int, 2) := by decide +kernel
theorem dX8_init_152 : decode cX8_init 152 = .ok (.putfield 64, 3) := by decide +kernel
theorem dX8_init_155 : decode cX8_init 155 = .ok (.aload_n 0, 1) := by decide +kernel
theorem dX8_init_156 : decode cX8_init 156 = .ok (.sipush 160, 3) := by decide +kernel
theorem dX8_init_159 : decode cX8_init 159 = .ok (.newarray .int, 2) := by decide +kernel
theorem dX8_init_161 : decode cX8_init 161 = .ok (.putfield 67, 3) := by decide +kernel
theorem dX8_init_164 : decode cX8_init 164 = .ok (.aload_n 0, 1) := by decide +kernel
theorem dX8_init_165 : decode cX8_init 165 = .ok (.bipush 80, 2) := by decide +kernel
theorem dX8_init_167 : decode cX8_init 167 = .ok (.newarray .int, 2) := by decide +kernel
theorem dX8_init_169 : decode cX8_init 169 = .ok (.putfield 70, 3) := by decide +kernel
theorem dX8_init_172 : decode cX8_init 172 = .ok (.aload_n 0, 1) := by decide +kernel
theorem dX8_init_173 : decode cX8_init 173 = .ok (.iconst 3, 1) := by decide +kernel
theorem dX8_init_174 : decode cX8_init 174 = .ok (.newarray .boolean, 2) := by decide +kernel
theorem dX8_init_176 : decode cX8_init 176 = .ok (.putfield 73, 3) := by decide +kernel
theorem dX8_init_179 : decode cX8_init 179 = .ok (.aload_n 0, 1) := by decide +kernel
theorem dX8_init_180 : decode cX8_init 180 = .ok (.iconst 3, 1) := by decide +kernel
theorem dX8_init_181 : decode cX8_init 181 = .ok (.newarray .int, 2) := by decide +kernel
theorem dX8_init_183 : decode cX8_init 183 = .ok (.putfield 77, 3) := by decide +kernel
theorem dX8_init_186 : decode cX8_init 186 = .ok (.aload_n 0, 1) := by decide +kernel
theorem dX8_init_187 : decode cX8_init 187 = .ok (.sipush 180, 3) := by decide +kernel
theorem dX8_init_190 : decode cX8_init 190 = .ok (.newarray .long, 2) := by decide +kernel
theorem dX8_init_192 : decode cX8_init 192 = .ok (.putfield 80, 3) := by decide +kernel
theorem dX8_init_195 : decode cX8_init 195 = .ok (.aload_n 0, 1) := by decide +kernel
theorem dX8_init_196 : decode cX8_init 196 = .ok (.bipush 60, 2) := by decide +kernel
theorem dX8_init_198 : decode cX8_init 198 = .ok (.newarray .long, 2) := by decide +kernel
theorem dX8_init_200 : decode cX8_init 200 = .ok (.putfield 83, 3) := by decide +kernel
theorem dX8_init_203 : decode cX8_init 203 = .ok (.aload_n 0, 1) := by decide +kernel
theorem dX8_init_204 : decode cX8_init 204 = .ok (.bipush 24, 2) := by decide +kernel
theorem dX8_init_206 : decode cX8_init 206 = .ok (.newarray .int, 2) := by decide +kernel
theorem dX8_init_208 : decode cX8_init 208 = .ok (.putfield 86, 3) := by decide +kernel
theorem dX8_init_211 : decode cX8_init 211 = .ok (.aload_n 0, 1) := by decide +kernel
theorem dX8_init_212 : decode cX8_init 212 = .ok (.iconst 3, 1) := by decide +kernel
theorem dX8_init_213 : decode cX8_init 213 = .ok (.newarray .int, 2) := by decide +kernel
theorem dX8_init_215 : decode cX8_init 215 = .ok (.putfield 89, 3) := by decide +kernel
theorem dX8_init_218 : decode cX8_init 218 = .ok (.aload_n 0, 1) := by decide +kernel
theorem dX8_init_219 : decode cX8_init 219 = .ok (.bipush 6, 2) := by decide +kernel
theorem dX8_init_221 : decode cX8_init 221 = .ok (.newarray .int, 2) := by decide +kernel
theorem dX8_init_223 : decode cX8_init 223 = .ok (.putfield 92, 3) := by decide +kernel
theorem dX8_init_226 : decode cX8_init 226 = .ok (.aload_n 0, 1) := by decide +kernel
theorem dX8_init_227 : decode cX8_init 227 = .ok (.sipush 300, 3) := by decide +kernel
theorem dX8_init_230 : decode cX8_init 230 = .ok (.newarray .int, 2) := by decide +kernel
theorem dX8_init_232 : decode cX8_init 232 = .ok (.putfield 95, 3) := by decide +kernel
theorem dX8_init_235 : decode cX8_init 235 = .ok (.iconst 0, 1) := by decide +kernel
theorem dX8_init_236 : decode cX8_init 236 = .ok (.istore_n 1, 1) := by decide +kernel
theorem dX8_init_237 : decode cX8_init 237 = .ok (.iload_n 1, 1) := by decide +kernel
theorem dX8_init_238 : decode cX8_init 238 = .ok (.iconst 3, 1) := by decide +kernel
theorem dX8_init_239 : decode cX8_init 239 = .ok (.if_icmp .ge 31, 3) := by decide +kernel
theorem dX8_init_242 : decode cX8_init 242 = .ok (.aload_n 0, 1) := by decide +kernel
theorem dX8_init_243 : decode cX8_init 243 = .ok (.getfield 15, 3) := by decide +kernel
theorem dX8_init_246 : decode cX8_init 246 = .ok (.iload_n 1, 1) := by decide +kernel
theorem dX8_init_247 : decode cX8_init 247 = .ok (.iconst 1, 1) := by decide +kernel
theorem dX8_init_248 : decode cX8_init 248 = .ok (.iastore, 1) := by decide +kernel
theorem dX8_init_249 : decode cX8_init 249 = .ok (.aload_n 0, 1) := by decide +kernel
theorem dX8_init_250 : decode cX8_init 250 = .ok (.getfield 11, 3) := by decide +kernel
theorem dX8_init_253 : decode cX8_init 253 = .ok (.bipush 8, 2) := by decide +kernel
theorem dX8_init_255 : decode cX8_init 255 = .ok (.iload_n 1, 1) := by decide +kernel
theorem dX8_init_256 : decode cX8_init 256 = .ok (.imul, 1) := by decide +kernel
theorem dX8_init_257 : decode cX8_init 257 = .ok (.iconst 1, 1) := by decide +kernel
theorem dX8_init_258 : decode cX8_init 258 = .ok (.iastore, 1) := by decide +kernel
theorem dX8_init_259 : decode cX8_init 259 = .ok (.aload_n 0, 1) := by decide +kernel
theorem dX8_init_260 : decode cX8_init 260 = .ok (.iload_n 1, 1) := by decide +kernel
theorem dX8_init_261 : decode cX8_init 261 = .ok (.invokevirtual 98, 3) := by decide +kernel
theorem dX8_init_264 : decode cX8_init 264 = .ok (.iinc 1 1, 3) := by decide +kernel
theorem dX8_init_267 : decode cX8_init 267 = .ok (.goto (-30), 3) := by decide +kernel
theorem dX8_init_270 : decode cX8_init 270 = .ok (.iconst 0, 1) := by decide +kernel
theorem dX8_init_271 : decode cX8_init 271 = .ok (.istore_n 1, 1) := by decide +kernel
theorem dX8_init_272 : decode cX8_init 272 = .ok (.iload_n 1, 1) := by decide +kernel
theorem dX8_init_273 : decode cX8_init 273 = .ok (.bipush 6, 2) := by decide +kernel
theorem dX8_init_275 : decode cX8_init 275 = .ok (.if_icmp .ge 16, 3) := by decide +kernel
theorem dX8_init_278 : decode cX8_init 278 = .ok (.aload_n 0, 1) := by decide +kernel
theorem dX8_init_279 : decode cX8_init 279 = .ok (.getfield 28, 3) := by decide +kernel
theorem dX8_init_282 : decode cX8_init 282 = .ok (.iload_n 1, 1) := by decide +kernel
theorem dX8_init_283 : decode cX8_init 283 = .ok (.iconst (-1), 1) := by decide +kernel
theorem dX8_init_284 : decode cX8_init 284 = .ok (.iastore, 1) := by decide +kernel
theorem dX8_init_285 : decode cX8_init 285 = .ok (.iinc 1 1, 3) := by decide +kernel
theorem dX8_init_288 : decode cX8_init 288 = .ok (.goto (-16), 3) := by decide +kernel
theorem dX8_init_291 : decode cX8_init 291 = .ok (.return_, 1) := by decide +kernel
theorem dX8_isBase_0 : decode cX8_isBase 0 = .ok (.iload_n 0, 1) := by decide +kernel
theorem dX8_isBase_1 : decode cX8_isBase 1 = .ok (.i2l, 1) := by decide +kernel
theorem dX8_isBase_2 : decode cX8_isBase 2 = .ok (.lconst 0, 1) := by decide +kernel
theorem dX8_isBase_3 : decode cX8_isBase 3 = .ok (.ldc2_w 102, 3) := by decide +kernel
theorem dX8_isBase_6 : decode cX8_isBase 6 = .ok (.invokestatic 104, 3) := by decide +kernel
theorem dX8_isBase_9 : decode cX8_isBase 9 = .ok (.ireturn, 1) := by decide +kernel
theorem dX8_step_0 : decode cX8_step 0 = .ok (.aload_n 0, 1) := by decide +kernel
theorem dX8_step_1 : decode cX8_step 1 = .ok (.getfield 11, 3) := by decide +kernel
theorem dX8_step_4 : decode cX8_step 4 = .ok (.bipush 8, 2) := by decide +kernel
theorem dX8_step_6 : decode cX8_step 6 = .ok (.iload_n 1, 1) := by decide +kernel
theorem dX8_step_7 : decode cX8_step 7 = .ok (.imul, 1) := by decide +kernel
theorem dX8_step_8 : decode cX8_step 8 = .ok (.iload_n 2, 1) := by decide +kernel
theorem dX8_step_9 : decode cX8_step 9 = .ok (.aload_n 0, 1) := by decide +kernel
theorem dX8_step_10 : decode cX8_step 10 = .ok (.getfield 15, 3) := by decide +kernel
theorem dX8_step_13 : decode cX8_step 13 = .ok (.iload_n 1, 1) := by decide +kernel
theorem dX8_step_14 : decode cX8_step 14 = .ok (.iaload, 1) := by decide +kernel
theorem dX8_step_15 : decode cX8_step 15 = .ok (.irem, 1) := by decide +kernel
theorem dX8_step_16 : decode cX8_step 16 = .ok (.iadd, 1) := by decide +kernel
theorem dX8_step_17 : decode cX8_step 17 = .ok (.iaload, 1) := by decide +kernel
theorem dX8_step_18 : decode cX8_step 18 = .ok (.ireturn, 1) := by decide +kernel
theorem dX8_worth_0 : decode cX8_worth 0 = .ok (.aload_n 0, 1) := by decide +kernel
theorem dX8_worth_1 : decode cX8_worth 1 = .ok (.getfield 21, 3) := by decide +kernel
theorem dX8_worth_4 : decode cX8_worth 4 = .ok (.bipush 50, 2) := by decide +kernel
theorem dX8_worth_6 : decode cX8_worth 6 = .ok (.iload_n 1, 1) := by decide +kernel
theorem dX8_worth_7 : decode cX8_worth 7 = .ok (.imul, 1) := by decide +kernel
theorem dX8_worth_8 : decode cX8_worth 8 = .ok (.iload_n 2, 1) := by decide +kernel
theorem dX8_worth_9 : decode cX8_worth 9 = .ok (.iadd, 1) := by decide +kernel
theorem dX8_worth_10 : decode cX8_worth 10 = .ok (.laload, 1) := by decide +kernel
theorem dX8_worth_11 : decode cX8_worth 11 = .ok (.lreturn, 1) := by decide +kernel
theorem dX8_fills_0 : decode cX8_fills 0 = .ok (.lconst 1, 1) := by decide +kernel
theorem dX8_fills_1 : decode cX8_fills 1 = .ok (.lstore_n 2, 1) := by decide +kernel
theorem dX8_fills_2 : decode cX8_fills 2 = .ok (.lconst 1, 1) := by decide +kernel
theorem dX8_fills_3 : decode cX8_fills 3 = .ok (.lstore 4, 2) := by decide +kernel
theorem dX8_fills_5 : decode cX8_fills 5 = .ok (.iconst 0, 1) := by decide +kernel
theorem dX8_fills_6 : decode cX8_fills 6 = .ok (.istore 6, 2) := by decide +kernel
theorem dX8_fills_8 : decode cX8_fills 8 = .ok (.lload 4, 2) := by decide +kernel
theorem dX8_fills_10 : decode cX8_fills 10 = .ok (.ldc2_w 108, 3) := by decide +kernel
theorem dX8_fills_13 : decode cX8_fills 13 = .ok (.lcmp, 1) := by decide +kernel
theorem dX8_fills_14 : decode cX8_fills 14 = .ok (.ifCond .gt 62, 3) := by decide +kernel
theorem dX8_fills_17 : decode cX8_fills 17 = .ok (.aload_n 0, 1) := by decide +kernel
theorem dX8_fills_18 : decode cX8_fills 18 = .ok (.getfield 21, 3) := by decide +kernel
theorem dX8_fills_21 : decode cX8_fills 21 = .ok (.bipush 50, 2) := by decide +kernel
theorem dX8_fills_23 : decode cX8_fills 23 = .ok (.iload_n 1, 1) := by decide +kernel
theorem dX8_fills_24 : decode cX8_fills 24 = .ok (.imul, 1) := by decide +kernel
theorem dX8_fills_25 : decode cX8_fills 25 = .ok (.iload 6, 2) := by decide +kernel
theorem dX8_fills_27 : decode cX8_fills 27 = .ok (.iadd, 1) := by decide +kernel
theorem dX8_fills_28 : decode cX8_fills 28 = .ok (.lload 4, 2) := by decide +kernel
theorem dX8_fills_30 : decode cX8_fills 30 = .ok (.lastore, 1) := by decide +kernel
theorem dX8_fills_31 : decode cX8_fills 31 = .ok (.iload 6, 2) := by decide +kernel
theorem dX8_fills_33 : decode cX8_fills 33 = .ok (.ifCond .ne 15, 3) := by decide +kernel
theorem dX8_fills_36 : decode cX8_fills 36 = .ok (.aload_n 0, 1) := by decide +kernel
theorem dX8_fills_37 : decode cX8_fills 37 = .ok (.iload_n 1, 1) := by decide +kernel
theorem dX8_fills_38 : decode cX8_fills 38 = .ok (.iconst 0, 1) := by decide +kernel
theorem dX8_fills_39 : decode cX8_fills 39 = .ok (.invokevirtual 110, 3) := by decide +kernel
theorem dX8_fills_42 : decode cX8_fills 42 = .ok (.i2l, 1) := by decide +kernel
theorem dX8_fills_43 : decode cX8_fills 43 = .ok (.lconst 1, 1) := by decide +kernel
theorem dX8_fills_44 : decode cX8_fills 44 = .ok (.ladd, 1) := by decide +kernel
theorem dX8_fills_45 : decode cX8_fills 45 = .ok (.goto 16, 3) := by decide +kernel
theorem dX8_fills_48 : decode cX8_fills 48 = .ok (.aload_n 0, 1) := by decide +kernel
theorem dX8_fills_49 : decode cX8_fills 49 = .ok (.iload_n 1, 1) := by decide +kernel
theorem dX8_fills_50 : decode cX8_fills 50 = .ok (.iload 6, 2) := by decide +kernel
theorem dX8_fills_52 : decode cX8_fills 52 = .ok (.invokevirtual 110, 3) := by decide +kernel
theorem dX8_fills_55 : decode cX8_fills 55 = .ok (.i2l, 1) := by decide +kernel
theorem dX8_fills_56 : decode cX8_fills 56 = .ok (.lload 4, 2) := by decide +kernel
theorem dX8_fills_58 : decode cX8_fills 58 = .ok (.lmul, 1) := by decide +kernel
theorem dX8_fills_59 : decode cX8_fills 59 = .ok (.lload_n 2, 1) := by decide +kernel
theorem dX8_fills_60 : decode cX8_fills 60 = .ok (.ladd, 1) := by decide +kernel
theorem dX8_fills_61 : decode cX8_fills 61 = .ok (.lstore 7, 2) := by decide +kernel
theorem dX8_fills_63 : decode cX8_fills 63 = .ok (.lload 4, 2) := by decide +kernel
theorem dX8_fills_65 : decode cX8_fills 65 = .ok (.lstore_n 2, 1) := by decide +kernel
theorem dX8_fills_66 : decode cX8_fills 66 = .ok (.lload 7, 2) := by decide +kernel
theorem dX8_fills_68 : decode cX8_fills 68 = .ok (.lstore 4, 2) := by decide +kernel
theorem dX8_fills_70 : decode cX8_fills 70 = .ok (.iinc 6 1, 3) := by decide +kernel
theorem dX8_fills_73 : decode cX8_fills 73 = .ok (.goto (-65), 3) := by decide +kernel
theorem dX8_fills_76 : decode cX8_fills 76 = .ok (.aload_n 0, 1) := by decide +kernel
theorem dX8_fills_77 : decode cX8_fills 77 = .ok (.getfield 18, 3) := by decide +kernel
theorem dX8_fills_80 : decode cX8_fills 80 = .ok (.iload_n 1, 1) := by decide +kernel
theorem dX8_fills_81 : decode cX8_fills 81 = .ok (.iload 6, 2) := by decide +kernel
theorem dX8_fills_83 : decode cX8_fills 83 = .ok (.iastore, 1) := by decide +kernel
theorem dX8_fills_84 : decode cX8_fills 84 = .ok (.aload_n 0, 1) := by decide +kernel
theorem dX8_fills_85 : decode cX8_fills 85 = .ok (.getfield 25, 3) := by decide +kernel
theorem dX8_fills_88 : decode cX8_fills 88 = .ok (.iload_n 1, 1) := by decide +kernel
theorem dX8_fills_89 : decode cX8_fills 89 = .ok (.lload 4, 2) := by decide +kernel
theorem dX8_fills_91 : decode cX8_fills 91 = .ok (.lconst 1, 1) := by decide +kernel
theorem dX8_fills_92 : decode cX8_fills 92 = .ok (.lsub, 1) := by decide +kernel
theorem dX8_fills_93 : decode cX8_fills 93 = .ok (.lastore, 1) := by decide +kernel
theorem dX8_fills_94 : decode cX8_fills 94 = .ok (.return_, 1) := by decide +kernel
theorem dX8_base_0 : decode cX8_base 0 = .ok (.iload_n 1, 1) := by decide +kernel
theorem dX8_base_1 : decode cX8_base 1 = .ok (.invokestatic 114, 3) := by decide +kernel
theorem dX8_base_4 : decode cX8_base 4 = .ok (.ifCond .eq 19, 3) := by decide +kernel
theorem dX8_base_7 : decode cX8_base 7 = .ok (.iload_n 2, 1) := by decide +kernel
theorem dX8_base_8 : decode cX8_base 8 = .ok (.i2l, 1) := by decide +kernel
theorem dX8_base_9 : decode cX8_base 9 = .ok (.lconst 1, 1) := by decide +kernel
theorem dX8_base_10 : decode cX8_base 10 = .ok (.ldc2_w 118, 3) := by decide +kernel
theorem dX8_base_13 : decode cX8_base 13 = .ok (.invokestatic 104, 3) := by decide +kernel
theorem dX8_base_16 : decode cX8_base 16 = .ok (.ifCond .eq 7, 3) := by decide +kernel
theorem dX8_base_19 : decode cX8_base 19 = .ok (.iload_n 3, 1) := by decide +kernel
theorem dX8_base_20 : decode cX8_base 20 = .ok (.ifCond .ge 6, 3) := by decide +kernel
theorem dX8_base_23 : decode cX8_base 23 = .ok (.bipush (-2), 2) := by decide +kernel
theorem dX8_base_25 : decode cX8_base 25 = .ok (.ireturn, 1) := by decide +kernel
theorem dX8_base_26 : decode cX8_base 26 = .ok (.iload_n 3, 1) := by decide +kernel
theorem dX8_base_27 : decode cX8_base 27 = .ok (.istore 4, 2) := by decide +kernel
theorem dX8_base_29 : decode cX8_base 29 = .ok (.iconst 0, 1) := by decide +kernel
theorem dX8_base_30 : decode cX8_base 30 = .ok (.istore 5, 2) := by decide +kernel
theorem dX8_base_32 : decode cX8_base 32 = .ok (.iload 5, 2) := by decide +kernel
theorem dX8_base_34 : decode cX8_base 34 = .ok (.iload_n 2, 1) := by decide +kernel
theorem dX8_base_35 : decode cX8_base 35 = .ok (.if_icmp .ge 27, 3) := by decide +kernel
theorem dX8_base_38 : decode cX8_base 38 = .ok (.iload 4, 2) := by decide +kernel
theorem dX8_base_40 : decode cX8_base 40 = .ok (.bipush 10, 2) := by decide +kernel
theorem dX8_base_42 : decode cX8_base 42 = .ok (.irem, 1) := by decide +kernel
theorem dX8_base_43 : decode cX8_base 43 = .ok (.ifCond .ne 6, 3) := by decide +kernel
theorem dX8_base_46 : decode cX8_base 46 = .ok (.bipush (-2), 2) := by decide +kernel
theorem dX8_base_48 : decode cX8_base 48 = .ok (.ireturn, 1) := by decide +kernel
theorem dX8_base_49 : decode cX8_base 49 = .ok (.iload 4, 2) := by decide +kernel
theorem dX8_base_51 : decode cX8_base 51 = .ok (.bipush 10, 2) := by decide +kernel
theorem dX8_base_53 : decode cX8_base 53 = .ok (.idiv, 1) := by decide +kernel
theorem dX8_base_54 : decode cX8_base 54 = .ok (.istore 4, 2) := by decide +kernel
theorem dX8_base_56 : decode cX8_base 56 = .ok (.iinc 5 1, 3) := by decide +kernel
theorem dX8_base_59 : decode cX8_base 59 = .ok (.goto (-27), 3) := by decide +kernel
theorem dX8_base_62 : decode cX8_base 62 = .ok (.iload 4, 2) := by decide +kernel
theorem dX8_base_64 : decode cX8_base 64 = .ok (.ifCond .le 6, 3) := by decide +kernel
theorem dX8_base_67 : decode cX8_base 67 = .ok (.bipush (-2), 2) := by decide +kernel
theorem dX8_base_69 : decode cX8_base 69 = .ok (.ireturn, 1) := by decide +kernel
theorem dX8_base_70 : decode cX8_base 70 = .ok (.iload_n 3, 1) := by decide +kernel
theorem dX8_base_71 : decode cX8_base 71 = .ok (.istore 4, 2) := by decide +kernel
theorem dX8_base_73 : decode cX8_base 73 = .ok (.aload_n 0, 1) := by decide +kernel
theorem dX8_base_74 : decode cX8_base 74 = .ok (.getfield 15, 3) := by decide +kernel
theorem dX8_base_77 : decode cX8_base 77 = .ok (.iload_n 1, 1) := by decide +kernel
theorem dX8_base_78 : decode cX8_base 78 = .ok (.iload_n 2, 1) := by decide +kernel
theorem dX8_base_79 : decode cX8_base 79 = .ok (.iastore, 1) := by decide +kernel
theorem dX8_base_80 : decode cX8_base 80 = .ok (.iload_n 2, 1) := by decide +kernel
theorem dX8_base_81 : decode cX8_base 81 = .ok (.iconst 1, 1) := by decide +kernel
theorem dX8_base_82 : decode cX8_base 82 = .ok (.isub, 1) := by decide +kernel
theorem dX8_base_83 : decode cX8_base 83 = .ok (.istore 5, 2) := by decide +kernel
theorem dX8_base_85 : decode cX8_base 85 = .ok (.iload 5, 2) := by decide +kernel
theorem dX8_base_87 : decode cX8_base 87 = .ok (.ifCond .lt 33, 3) := by decide +kernel
theorem dX8_base_90 : decode cX8_base 90 = .ok (.aload_n 0, 1) := by decide +kernel
theorem dX8_base_91 : decode cX8_base 91 = .ok (.getfield 11, 3) := by decide +kernel
theorem dX8_base_94 : decode cX8_base 94 = .ok (.bipush 8, 2) := by decide +kernel
theorem dX8_base_96 : decode cX8_base 96 = .ok (.iload_n 1, 1) := by decide +kernel
theorem dX8_base_97 : decode cX8_base 97 = .ok (.imul, 1) := by decide +kernel
theorem dX8_base_98 : decode cX8_base 98 = .ok (.iload 5, 2) := by decide +kernel
theorem dX8_base_100 : decode cX8_base 100 = .ok (.iadd, 1) := by decide +kernel
theorem dX8_base_101 : decode cX8_base 101 = .ok (.iload 4, 2) := by decide +kernel
theorem dX8_base_103 : decode cX8_base 103 = .ok (.bipush 10, 2) := by decide +kernel
theorem dX8_base_105 : decode cX8_base 105 = .ok (.irem, 1) := by decide +kernel
theorem dX8_base_106 : decode cX8_base 106 = .ok (.iastore, 1) := by decide +kernel
theorem dX8_base_107 : decode cX8_base 107 = .ok (.iload 4, 2) := by decide +kernel
theorem dX8_base_109 : decode cX8_base 109 = .ok (.bipush 10, 2) := by decide +kernel
theorem dX8_base_111 : decode cX8_base 111 = .ok (.idiv, 1) := by decide +kernel
theorem dX8_base_112 : decode cX8_base 112 = .ok (.istore 4, 2) := by decide +kernel
theorem dX8_base_114 : decode cX8_base 114 = .ok (.iinc 5 (-1), 3) := by decide +kernel
theorem dX8_base_117 : decode cX8_base 117 = .ok (.goto (-32), 3) := by decide +kernel
theorem dX8_base_120 : decode cX8_base 120 = .ok (.aload_n 0, 1) := by decide +kernel
theorem dX8_base_121 : decode cX8_base 121 = .ok (.iload_n 1, 1) := by decide +kernel
theorem dX8_base_122 : decode cX8_base 122 = .ok (.invokevirtual 98, 3) := by decide +kernel
theorem dX8_base_125 : decode cX8_base 125 = .ok (.iconst 0, 1) := by decide +kernel
theorem dX8_base_126 : decode cX8_base 126 = .ok (.istore 5, 2) := by decide +kernel
theorem dX8_base_128 : decode cX8_base 128 = .ok (.iload 5, 2) := by decide +kernel
theorem dX8_base_130 : decode cX8_base 130 = .ok (.bipush 6, 2) := by decide +kernel
theorem dX8_base_132 : decode cX8_base 132 = .ok (.if_icmp .ge 34, 3) := by decide +kernel
theorem dX8_base_135 : decode cX8_base 135 = .ok (.aload_n 0, 1) := by decide +kernel
theorem dX8_base_136 : decode cX8_base 136 = .ok (.getfield 28, 3) := by decide +kernel
theorem dX8_base_139 : decode cX8_base 139 = .ok (.iload 5, 2) := by decide +kernel
theorem dX8_base_141 : decode cX8_base 141 = .ok (.iaload, 1) := by decide +kernel
theorem dX8_base_142 : decode cX8_base 142 = .ok (.iload_n 1, 1) := by decide +kernel
theorem dX8_base_143 : decode cX8_base 143 = .ok (.if_icmp .ne 17, 3) := by decide +kernel
theorem dX8_base_146 : decode cX8_base 146 = .ok (.aload_n 0, 1) := by decide +kernel
theorem dX8_base_147 : decode cX8_base 147 = .ok (.getfield 28, 3) := by decide +kernel
theorem dX8_base_150 : decode cX8_base 150 = .ok (.iload 5, 2) := by decide +kernel
theorem dX8_base_152 : decode cX8_base 152 = .ok (.iconst (-1), 1) := by decide +kernel
theorem dX8_base_153 : decode cX8_base 153 = .ok (.iastore, 1) := by decide +kernel
theorem dX8_base_154 : decode cX8_base 154 = .ok (.aload_n 0, 1) := by decide +kernel
theorem dX8_base_155 : decode cX8_base 155 = .ok (.iload 5, 2) := by decide +kernel
theorem dX8_base_157 : decode cX8_base 157 = .ok (.invokevirtual 120, 3) := by decide +kernel
theorem dX8_base_160 : decode cX8_base 160 = .ok (.iinc 5 1, 3) := by decide +kernel
theorem dX8_base_163 : decode cX8_base 163 = .ok (.goto (-35), 3) := by decide +kernel
theorem dX8_base_166 : decode cX8_base 166 = .ok (.aload_n 0, 1) := by decide +kernel
theorem dX8_base_167 : decode cX8_base 167 = .ok (.getfield 18, 3) := by decide +kernel
theorem dX8_base_170 : decode cX8_base 170 = .ok (.iload_n 1, 1) := by decide +kernel
theorem dX8_base_171 : decode cX8_base 171 = .ok (.iaload, 1) := by decide +kernel
theorem dX8_base_172 : decode cX8_base 172 = .ok (.ireturn, 1) := by decide +kernel
theorem dX8_kind_0 : decode cX8_kind 0 = .ok (.iconst 1, 1) := by decide +kernel
theorem dX8_kind_1 : decode cX8_kind 1 = .ok (.istore_n 2, 1) := by decide +kernel
theorem dX8_kind_2 : decode cX8_kind 2 = .ok (.iload_n 2, 1) := by decide +kernel
theorem dX8_kind_3 : decode cX8_kind 3 = .ok (.aload_n 0, 1) := by decide +kernel
theorem dX8_kind_4 : decode cX8_kind 4 = .ok (.getfield 15, 3) := by decide +kernel
theorem dX8_kind_7 : decode cX8_kind 7 = .ok (.iload_n 1, 1) := by decide +kernel
theorem dX8_kind_8 : decode cX8_kind 8 = .ok (.iaload, 1) := by decide +kernel
theorem dX8_kind_9 : decode cX8_kind 9 = .ok (.if_icmp .ge 26, 3) := by decide +kernel
theorem dX8_kind_12 : decode cX8_kind 12 = .ok (.aload_n 0, 1) := by decide +kernel
theorem dX8_kind_13 : decode cX8_kind 13 = .ok (.iload_n 1, 1) := by decide +kernel
theorem dX8_kind_14 : decode cX8_kind 14 = .ok (.iload_n 2, 1) := by decide +kernel
theorem dX8_kind_15 : decode cX8_kind 15 = .ok (.invokevirtual 110, 3) := by decide +kernel
theorem dX8_kind_18 : decode cX8_kind 18 = .ok (.aload_n 0, 1) := by decide +kernel
theorem dX8_kind_19 : decode cX8_kind 19 = .ok (.iload_n 1, 1) := by decide +kernel
theorem dX8_kind_20 : decode cX8_kind 20 = .ok (.iconst 0, 1) := by decide +kernel
theorem dX8_kind_21 : decode cX8_kind 21 = .ok (.invokevirtual 110, 3) := by decide +kernel
theorem dX8_kind_24 : decode cX8_kind 24 = .ok (.if_icmp .eq 5, 3) := by decide +kernel
theorem dX8_kind_27 : decode cX8_kind 27 = .ok (.iconst 0, 1) := by decide +kernel
theorem dX8_kind_28 : decode cX8_kind 28 = .ok (.ireturn, 1) := by decide +kernel
theorem dX8_kind_29 : decode cX8_kind 29 = .ok (.iinc 2 1, 3) := by decide +kernel
theorem dX8_kind_32 : decode cX8_kind 32 = .ok (.goto (-30), 3) := by decide +kernel
theorem dX8_kind_35 : decode cX8_kind 35 = .ok (.aload_n 0, 1) := by decide +kernel
theorem dX8_kind_36 : decode cX8_kind 36 = .ok (.iload_n 1, 1) := by decide +kernel
theorem dX8_kind_37 : decode cX8_kind 37 = .ok (.iconst 0, 1) := by decide +kernel
theorem dX8_kind_38 : decode cX8_kind 38 = .ok (.invokevirtual 110, 3) := by decide +kernel
theorem dX8_kind_41 : decode cX8_kind 41 = .ok (.iconst 1, 1) := by decide +kernel
theorem dX8_kind_42 : decode cX8_kind 42 = .ok (.if_icmp .ne 7, 3) := by decide +kernel
theorem dX8_kind_45 : decode cX8_kind 45 = .ok (.iconst 2, 1) := by decide +kernel
theorem dX8_kind_46 : decode cX8_kind 46 = .ok (.goto 18, 3) := by decide +kernel
theorem dX8_kind_49 : decode cX8_kind 49 = .ok (.aload_n 0, 1) := by decide +kernel
theorem dX8_kind_50 : decode cX8_kind 50 = .ok (.iload_n 1, 1) := by decide +kernel
theorem dX8_kind_51 : decode cX8_kind 51 = .ok (.iconst 0, 1) := by decide +kernel
theorem dX8_kind_52 : decode cX8_kind 52 = .ok (.invokevirtual 110, 3) := by decide +kernel
theorem dX8_kind_55 : decode cX8_kind 55 = .ok (.iconst 2, 1) := by decide +kernel
theorem dX8_kind_56 : decode cX8_kind 56 = .ok (.if_icmp .ne 7, 3) := by decide +kernel
theorem dX8_kind_59 : decode cX8_kind 59 = .ok (.iconst 3, 1) := by decide +kernel
theorem dX8_kind_60 : decode cX8_kind 60 = .ok (.goto 4, 3) := by decide +kernel
theorem dX8_kind_63 : decode cX8_kind 63 = .ok (.iconst 1, 1) := by decide +kernel
theorem dX8_kind_64 : decode cX8_kind 64 = .ok (.ireturn, 1) := by decide +kernel
theorem dX8_of_0 : decode cX8_of 0 = .ok (.iload_n 1, 1) := by decide +kernel
theorem dX8_of_1 : decode cX8_of 1 = .ok (.invokestatic 114, 3) := by decide +kernel
theorem dX8_of_4 : decode cX8_of 4 = .ok (.ifCond .eq 15, 3) := by decide +kernel
theorem dX8_of_7 : decode cX8_of 7 = .ok (.iload_n 2, 1) := by decide +kernel
theorem dX8_of_8 : decode cX8_of 8 = .ok (.i2l, 1) := by decide +kernel
theorem dX8_of_9 : decode cX8_of 9 = .ok (.lconst 0, 1) := by decide +kernel
theorem dX8_of_10 : decode cX8_of 10 = .ok (.ldc2_w 102, 3) := by decide +kernel
theorem dX8_of_13 : decode cX8_of 13 = .ok (.invokestatic 104, 3) := by decide +kernel
theorem dX8_of_16 : decode cX8_of 16 = .ok (.ifCond .ne 6, 3) := by decide +kernel
theorem dX8_of_19 : decode cX8_of 19 = .ok (.bipush (-2), 2) := by decide +kernel
theorem dX8_of_21 : decode cX8_of 21 = .ok (.ireturn, 1) := by decide +kernel
theorem dX8_of_22 : decode cX8_of 22 = .ok (.iload_n 2, 1) := by decide +kernel
theorem dX8_of_23 : decode cX8_of 23 = .ok (.ifCond .ne 11, 3) := by decide +kernel
theorem dX8_of_26 : decode cX8_of 26 = .ok (.aload_n 0, 1) := by decide +kernel
theorem dX8_of_27 : decode cX8_of 27 = .ok (.iload_n 1, 1) := by decide +kernel
theorem dX8_of_28 : decode cX8_of 28 = .ok (.invokevirtual 123, 3) := by decide +kernel
theorem dX8_of_31 : decode cX8_of 31 = .ok (.goto 23, 3) := by decide +kernel
theorem dX8_of_34 : decode cX8_of 34 = .ok (.iload_n 2, 1) := by decide +kernel
