theorem dX9_init_0 : decode cX9_init 0 = .ok (.aload_n 0, 1) := by decide +kernel
theorem dX9_init_1 : decode cX9_init 1 = .ok (.invokespecial 1, 3) := by decide +kernel
theorem dX9_init_4 : decode cX9_init 4 = .ok (.aload_n 0, 1) := by decide +kernel
theorem dX9_init_5 : decode cX9_init 5 = .ok (.sipush 160, 3) := by decide +kernel
theorem dX9_init_8 : decode cX9_init 8 = .ok (.newarray .byte, 2) := by decide +kernel
theorem dX9_init_10 : decode cX9_init 10 = .ok (.putfield 9, 3) := by decide +kernel
theorem dX9_init_13 : decode cX9_init 13 = .ok (.aload_n 0, 1) := by decide +kernel
theorem dX9_init_14 : decode cX9_init 14 = .ok (.sipush 640, 3) := by decide +kernel
theorem dX9_init_17 : decode cX9_init 17 = .ok (.newarray .byte, 2) := by decide +kernel
theorem dX9_init_19 : decode cX9_init 19 = .ok (.putfield 13, 3) := by decide +kernel
theorem dX9_init_22 : decode cX9_init 22 = .ok (.aload_n 0, 1) := by decide +kernel
theorem dX9_init_23 : decode cX9_init 23 = .ok (.iconst 4, 1) := by decide +kernel
theorem dX9_init_24 : decode cX9_init 24 = .ok (.newarray .int, 2) := by decide +kernel
theorem dX9_init_26 : decode cX9_init 26 = .ok (.putfield 16, 3) := by decide +kernel
theorem dX9_init_29 : decode cX9_init 29 = .ok (.aload_n 0, 1) := by decide +kernel
theorem dX9_init_30 : decode cX9_init 30 = .ok (.sipush 128, 3) := by decide +kernel
theorem dX9_init_33 : decode cX9_init 33 = .ok (.newarray .int, 2) := by decide +kernel
theorem dX9_init_35 : decode cX9_init 35 = .ok (.putfield 20, 3) := by decide +kernel
theorem dX9_init_38 : decode cX9_init 38 = .ok (.aload_n 0, 1) := by decide +kernel
theorem dX9_init_39 : decode cX9_init 39 = .ok (.aload_n 0, 1) := by decide +kernel
theorem dX9_init_40 : decode cX9_init 40 = .ok (.getfield 9, 3) := by decide +kernel
theorem dX9_init_43 : decode cX9_init 43 = .ok (.putfield 23, 3) := by decide +kernel
theorem dX9_init_46 : decode cX9_init 46 = .ok (.aload_n 0, 1) := by decide +kernel
theorem dX9_init_47 : decode cX9_init 47 = .ok (.ldc 26, 2) := by decide +kernel
theorem dX9_init_49 : decode cX9_init 49 = .ok (.putfield 28, 3) := by decide +kernel
theorem dX9_init_52 : decode cX9_init 52 = .ok (.aload_n 0, 1) := by decide +kernel
theorem dX9_init_53 : decode cX9_init 53 = .ok (.ldc 32, 2) := by decide +kernel
theorem dX9_init_55 : decode cX9_init 55 = .ok (.putfield 34, 3) := by decide +kernel
theorem dX9_init_58 : decode cX9_init 58 = .ok (.aload_n 0, 1) := by decide +kernel
theorem dX9_init_59 : decode cX9_init 59 = .ok (.bipush 6, 2) := by decide +kernel
theorem dX9_init_61 : decode cX9_init 61 = .ok (.newarray .int, 2) := by decide +kernel
theorem dX9_init_63 : decode cX9_init 63 = .ok (.putfield 37, 3) := by decide +kernel
theorem dX9_init_66 : decode cX9_init 66 = .ok (.aload_n 0, 1) := by decide +kernel
theorem dX9_init_67 : decode cX9_init 67 = .ok (.bipush 6, 2) := by decide +kernel
theorem dX9_init_69 : decode cX9_init 69 = .ok (.newarray .int, 2) := by decide +kernel
theorem dX9_init_71 : decode cX9_init 71 = .ok (.putfield 40, 3) := by decide +kernel
theorem dX9_init_74 : decode cX9_init 74 = .ok (.aload_n 0, 1) := by decide +kernel
theorem dX9_init_75 : decode cX9_init 75 = .ok (.bipush 36, 2) := by decide +kernel
theorem dX9_init_77 : decode cX9_init 77 = .ok (.newarray .int, 2) := by decide +kernel
theorem dX9_init_79 : decode cX9_init 79 = .ok (.putfield 43, 3) := by decide +kernel
theorem dX9_init_82 : decode cX9_init 82 = .ok (.aload_n 0, 1) := by decide +kernel
theorem dX9_init_83 : decode cX9_init 83 = .ok (.bipush 36, 2) := by decide +kernel
theorem dX9_init_85 : decode cX9_init 85 = .ok (.newarray .int, 2) := by decide +kernel
theorem dX9_init_87 : decode cX9_init 87 = .ok (.putfield 46, 3) := by decide +kernel
theorem dX9_init_90 : decode cX9_init 90 = .ok (.aload_n 0, 1) := by decide +kernel
theorem dX9_init_91 : decode cX9_init 91 = .ok (.bipush 6, 2) := by decide +kernel
theorem dX9_init_93 : decode cX9_init 93 = .ok (.newarray .int, 2) := by decide +kernel
theorem dX9_init_95 : decode cX9_init 95 = .ok (.putfield 49, 3) := by decide +kernel
theorem dX9_init_98 : decode cX9_init 98 = .ok (.aload_n 0, 1) := by decide +kernel
theorem dX9_init_99 : decode cX9_init 99 = .ok (.bipush 20, 2) := by decide +kernel
theorem dX9_init_101 : decode cX9_init 101 = .ok (.newarray .int, 2) := by decide +kernel
theorem dX9_init_103 : decode cX9_init 103 = .ok (.putfield 52, 3) := by decide +kernel
theorem dX9_init_106 : decode cX9_init 106 = .ok (.aload_n 0, 1) := by decide +kernel
theorem dX9_init_107 : decode cX9_init 107 = .ok (.bipush 20, 2) := by decide +kernel
theorem dX9_init_109 : decode cX9_init 109 = .ok (.newarray .int, 2) := by decide +kernel
theorem dX9_init_111 : decode cX9_init 111 = .ok (.putfield 55, 3) := by decide +kernel
theorem dX9_init_114 : decode cX9_init 114 = .ok (.aload_n 0, 1) := by decide +kernel
theorem dX9_init_115 : decode cX9_init 115 = .ok (.bipush 20, 2) := by decide +kernel
theorem dX9_init_117 : decode cX9_init 117 = .ok (.newarray .int, 2) := by decide +kernel
theorem dX9_init_119 : decode cX9_init 119 = .ok (.putfield 58, 3) := by decide +kernel
theorem dX9_init_122 : decode cX9_init 122 = .ok (.aload_n 0, 1) := by decide +kernel
theorem dX9_init_123 : decode cX9_init 123 = .ok (.iconst (-1), 1) := by decide +kernel
theorem dX9_init_124 : decode cX9_init 124 = .ok (.putfield 61, 3) := by decide +kernel
theorem dX9_init_127 : decode cX9_init 127 = .ok (.aload_n 0, 1) := by decide +kernel
theorem dX9_init_128 : decode cX9_init 128 = .ok (.bipush 9, 2) := by decide +kernel
theorem dX9_init_130 : decode cX9_init 130 = .ok (.putfield 65, 3) := by decide +kernel
theorem dX9_init_133 : decode cX9_init 133 = .ok (.aload_n 0, 1) := by decide +kernel
theorem dX9_init_134 : decode cX9_init 134 = .ok (.sipush 201, 3) := by decide +kernel
theorem dX9_init_137 : decode cX9_init 137 = .ok (.newarray .boolean, 2) := by decide +kernel
theorem dX9_init_139 : decode cX9_init 139 = .ok (.putfield 68, 3) := by decide +kernel
theorem dX9_init_142 : decode cX9_init 142 = .ok (.aload_n 0, 1) := by decide +kernel
theorem dX9_init_143 : decode cX9_init 143 = .ok (.sipush 12261, 3) := by decide +kernel
theorem dX9_init_146 : decode cX9_init 146 = .ok (.newarray .boolean, 2) := by decide +kernel
theorem dX9_init_148 : decode cX9_init 148 = .ok (.putfield 72, 3) := by decide +kernel
theorem dX9_init_151 : decode cX9_init 151 = .ok (.aload_n 0, 1) := by decide +kernel
theorem dX9_init_152 : decode cX9_init 152 = .ok (.sipush 201, 3) := by decide +kernel
theorem dX9_init_155 : decode cX9_init 155 = .ok (.newarray .long, 2) := by decide +kernel
theorem dX9_init_157 : decode cX9_init 157 = .ok (.putfield 75, 3) := by decide +kernel
theorem dX9_init_160 : decode cX9_init 160 = .ok (.aload_n 0, 1) := by decide +kernel
theorem dX9_init_161 : decode cX9_init 161 = .ok (.sipush 201, 3) := by decide +kernel
theorem dX9_init_164 : decode cX9_init 164 = .ok (.newarray .long, 2) := by decide +kernel
theorem dX9_init_166 : decode cX9_init 166 = .ok (.putfield 79, 3) := by decide +kernel
theorem dX9_init_169 : decode cX9_init 169 = .ok (.aload_n 0, 1) := by decide +kernel
theorem dX9_init_170 : decode cX9_init 170 = .ok (.bipush 100, 2) := by decide +kernel
theorem dX9_init_172 : decode cX9_init 172 = .ok (.newarray .int, 2) := by decide +kernel
theorem dX9_init_174 : decode cX9_init 174 = .ok (.putfield 82, 3) := by decide +kernel
theorem dX9_init_177 : decode cX9_init 177 = .ok (.aload_n 0, 1) := by decide +kernel
theorem dX9_init_178 : decode cX9_init 178 = .ok (.bipush 18, 2) := by decide +kernel
theorem dX9_init_180 : decode cX9_init 180 = .ok (.newarray .int, 2) := by decide +kernel
theorem dX9_init_182 : decode cX9_init 182 = .ok (.putfield 85, 3) := by decide +kernel
theorem dX9_init_185 : decode cX9_init 185 = .ok (.aload_n 0, 1) := by decide +kernel
theorem dX9_init_186 : decode cX9_init 186 = .ok (.ldc 88, 2) := by decide +kernel
theorem dX9_init_188 : decode cX9_init 188 = .ok (.newarray .boolean, 2) := by decide +kernel
theorem dX9_init_190 : decode cX9_init 190 = .ok (.putfield 89, 3) := by decide +kernel
theorem dX9_init_193 : decode cX9_init 193 = .ok (.aload_n 0, 1) := by decide +kernel
theorem dX9_init_194 : decode cX9_init 194 = .ok (.sipush 600, 3) := by decide +kernel
theorem dX9_init_197 : decode cX9_init 197 = .ok (.newarray .boolean, 2) := by decide +kernel
theorem dX9_init_199 : decode cX9_init 199 = .ok (.putfield 92, 3) := by decide +kernel
theorem dX9_init_202 : decode cX9_init 202 = .ok (.aload_n 0, 1) := by decide +kernel
theorem dX9_init_203 : decode cX9_init 203 = .ok (.sipush 12600, 3) := by decide +kernel
theorem dX9_init_206 : decode cX9_init 206 = .ok (.newarray .byte, 2) := by decide +kernel
theorem dX9_init_208 : decode cX9_init 208 = .ok (.putfield 95, 3) := by decide +kernel
theorem dX9_init_211 : decode cX9_init 211 = .ok (.aload_n 0, 1) := by decide +kernel
theorem dX9_init_212 : decode cX9_init 212 = .ok (.bipush 9, 2) := by decide +kernel
theorem dX9_init_214 : decode cX9_init 214 = .ok (.newarray .int, 2) := by decide +kernel
theorem dX9_init_216 : decode cX9_init 216 = .ok (.putfield 98, 3) := by decide +kernel
theorem dX9_init_219 : decode cX9_init 219 = .ok (.aload_n 0, 1) := by decide +kernel
theorem dX9_init_220 : decode cX9_init 220 = .ok (.bipush 9, 2) := by decide +kernel
theorem dX9_init_222 : decode cX9_init 222 = .ok (.newarray .int, 2) := by decide +kernel
theorem dX9_init_224 : decode cX9_init 224 = .ok (.putfield 101, 3) := by decide +kernel
theorem dX9_init_227 : decode cX9_init 227 = .ok (.aload_n 0, 1) := by decide +kernel
theorem dX9_init_228 : decode cX9_init 228 = .ok (.bipush 40, 2) := by decide +kernel
theorem dX9_init_230 : decode cX9_init 230 = .ok (.newarray .int, 2) := by decide +kernel
theorem dX9_init_232 : decode cX9_init 232 = .ok (.putfield 104, 3) := by decide +kernel
theorem dX9_init_235 : decode cX9_init 235 = .ok (.aload_n 0, 1) := by decide +kernel
theorem dX9_init_236 : decode cX9_init 236 = .ok (.bipush 40, 2) := by decide +kernel
theorem dX9_init_238 : decode cX9_init 238 = .ok (.newarray .int, 2) := by decide +kernel
theorem dX9_init_240 : decode cX9_init 240 = .ok (.putfield 107, 3) := by decide +kernel
theorem dX9_init_243 : decode cX9_init 243 = .ok (.aload_n 0, 1) := by decide +kernel
theorem dX9_init_244 : decode cX9_init 244 = .ok (.bipush 40, 2) := by decide +kernel
theorem dX9_init_246 : decode cX9_init 246 = .ok (.newarray .int, 2) := by decide +kernel
theorem dX9_init_248 : decode cX9_init 248 = .ok (.putfield 110, 3) := by decide +kernel
theorem dX9_init_251 : decode cX9_init 251 = .ok (.aload_n 0, 1) := by decide +kernel
theorem dX9_init_252 : decode cX9_init 252 = .ok (.sipush 201, 3) := by decide +kernel
theorem dX9_init_255 : decode cX9_init 255 = .ok (.newarray .boolean, 2) := by decide +kernel
theorem dX9_init_257 : decode cX9_init 257 = .ok (.putfield 113, 3) := by decide +kernel
theorem dX9_init_260 : decode cX9_init 260 = .ok (.aload_n 0, 1) := by decide +kernel
theorem dX9_init_261 : decode cX9_init 261 = .ok (.sipush 201, 3) := by decide +kernel
theorem dX9_init_264 : decode cX9_init 264 = .ok (.newarray .boolean, 2) := by decide +kernel
theorem dX9_init_266 : decode cX9_init 266 = .ok (.putfield 116, 3) := by decide +kernel
theorem dX9_init_269 : decode cX9_init 269 = .ok (.aload_n 0, 1) := by decide +kernel
theorem dX9_init_270 : decode cX9_init 270 = .ok (.bipush 61, 2) := by decide +kernel
theorem dX9_init_272 : decode cX9_init 272 = .ok (.newarray .int, 2) := by decide +kernel
theorem dX9_init_274 : decode cX9_init 274 = .ok (.putfield 119, 3) := by decide +kernel
theorem dX9_init_277 : decode cX9_init 277 = .ok (.aload_n 0, 1) := by decide +kernel
theorem dX9_init_278 : decode cX9_init 278 = .ok (.bipush 61, 2) := by decide +kernel
theorem dX9_init_280 : decode cX9_init 280 = .ok (.newarray .int, 2) := by decide +kernel
theorem dX9_init_282 : decode cX9_init 282 = .ok (.putfield 122, 3) := by decide +kernel
theorem dX9_init_285 : decode cX9_init 285 = .ok (.aload_n 0, 1) := by decide +kernel
theorem dX9_init_286 : decode cX9_init 286 = .ok (.sipush 180, 3) := by decide +kernel
theorem dX9_init_289 : decode cX9_init 289 = .ok (.newarray .int, 2) := by decide +kernel
theorem dX9_init_291 : decode cX9_init 291 = .ok (.putfield 125, 3) := by decide +kernel
theorem dX9_init_294 : decode cX9_init 294 = .ok (.return_, 1) := by decide +kernel
theorem dX9_thrown_0 : decode cX9_thrown 0 = .ok (.aload_n 0, 1) := by decide +kernel
theorem dX9_thrown_1 : decode cX9_thrown 1 = .ok (.getfield 128, 3) := by decide +kernel
theorem dX9_thrown_4 : decode cX9_thrown 4 = .ok (.ireturn, 1) := by decide +kernel
theorem dX9_isIn_0 : decode cX9_isIn 0 = .ok (.lload_n 0, 1) := by decide +kernel
theorem dX9_isIn_1 : decode cX9_isIn 1 = .ok (.lload_n 2, 1) := by decide +kernel
theorem dX9_isIn_2 : decode cX9_isIn 2 = .ok (.lcmp, 1) := by decide +kernel
theorem dX9_isIn_3 : decode cX9_isIn 3 = .ok (.ifCond .lt 14, 3) := by decide +kernel
theorem dX9_isIn_6 : decode cX9_isIn 6 = .ok (.lload_n 0, 1) := by decide +kernel
theorem dX9_isIn_7 : decode cX9_isIn 7 = .ok (.lload 4, 2) := by decide +kernel
theorem dX9_isIn_9 : decode cX9_isIn 9 = .ok (.lcmp, 1) := by decide +kernel
theorem dX9_isIn_10 : decode cX9_isIn 10 = .ok (.ifCond .gt 7, 3) := by decide +kernel
theorem dX9_isIn_13 : decode cX9_isIn 13 = .ok (.iconst 1, 1) := by decide +kernel
theorem dX9_isIn_14 : decode cX9_isIn 14 = .ok (.goto 4, 3) := by decide +kernel
theorem dX9_isIn_17 : decode cX9_isIn 17 = .ok (.iconst 0, 1) := by decide +kernel
theorem dX9_isIn_18 : decode cX9_isIn 18 = .ok (.ireturn, 1) := by decide +kernel
theorem dX9_has_0 : decode cX9_has 0 = .ok (.iload_n 0, 1) := by decide +kernel
theorem dX9_has_1 : decode cX9_has 1 = .ok (.iload_n 1, 1) := by decide +kernel
theorem dX9_has_2 : decode cX9_has 2 = .ok (.ishr, 1) := by decide +kernel
theorem dX9_has_3 : decode cX9_has 3 = .ok (.iconst 1, 1) := by decide +kernel
theorem dX9_has_4 : decode cX9_has 4 = .ok (.iand, 1) := by decide +kernel
theorem dX9_has_5 : decode cX9_has 5 = .ok (.iconst 1, 1) := by decide +kernel
theorem dX9_has_6 : decode cX9_has 6 = .ok (.if_icmp .ne 7, 3) := by decide +kernel
theorem dX9_has_9 : decode cX9_has 9 = .ok (.iconst 1, 1) := by decide +kernel
theorem dX9_has_10 : decode cX9_has 10 = .ok (.goto 4, 3) := by decide +kernel
theorem dX9_has_13 : decode cX9_has 13 = .ok (.iconst 0, 1) := by decide +kernel
theorem dX9_has_14 : decode cX9_has 14 = .ok (.ireturn, 1) := by decide +kernel
theorem dX9_isAmong_0 : decode cX9_isAmong 0 = .ok (.iconst 0, 1) := by decide +kernel
theorem dX9_isAmong_1 : decode cX9_isAmong 1 = .ok (.istore_n 2, 1) := by decide +kernel
theorem dX9_isAmong_2 : decode cX9_isAmong 2 = .ok (.iload_n 2, 1) := by decide +kernel
theorem dX9_isAmong_3 : decode cX9_isAmong 3 = .ok (.aload_n 0, 1) := by decide +kernel
theorem dX9_isAmong_4 : decode cX9_isAmong 4 = .ok (.invokevirtual 131, 3) := by decide +kernel
theorem dX9_isAmong_7 : decode cX9_isAmong 7 = .ok (.if_icmp .ge 20, 3) := by decide +kernel
theorem dX9_isAmong_10 : decode cX9_isAmong 10 = .ok (.aload_n 0, 1) := by decide +kernel
theorem dX9_isAmong_11 : decode cX9_isAmong 11 = .ok (.iload_n 2, 1) := by decide +kernel
theorem dX9_isAmong_12 : decode cX9_isAmong 12 = .ok (.invokevirtual 137, 3) := by decide +kernel
theorem dX9_isAmong_15 : decode cX9_isAmong 15 = .ok (.iload_n 1, 1) := by decide +kernel
theorem dX9_isAmong_16 : decode cX9_isAmong 16 = .ok (.if_icmp .ne 5, 3) := by decide +kernel
theorem dX9_isAmong_19 : decode cX9_isAmong 19 = .ok (.iconst 1, 1) := by decide +kernel
theorem dX9_isAmong_20 : decode cX9_isAmong 20 = .ok (.ireturn, 1) := by decide +kernel
theorem dX9_isAmong_21 : decode cX9_isAmong 21 = .ok (.iinc 2 1, 3) := by decide +kernel
theorem dX9_isAmong_24 : decode cX9_isAmong 24 = .ok (.goto (-22), 3) := by decide +kernel
theorem dX9_isAmong_27 : decode cX9_isAmong 27 = .ok (.iconst 0, 1) := by decide +kernel
theorem dX9_isAmong_28 : decode cX9_isAmong 28 = .ok (.ireturn, 1) := by decide +kernel
theorem dX9_bytesIn_0 : decode cX9_bytesIn 0 = .ok (.iconst 0, 1) := by decide +kernel
theorem dX9_bytesIn_1 : decode cX9_bytesIn 1 = .ok (.istore_n 1, 1) := by decide +kernel
theorem dX9_bytesIn_2 : decode cX9_bytesIn 2 = .ok (.bipush 24, 2) := by decide +kernel
theorem dX9_bytesIn_4 : decode cX9_bytesIn 4 = .ok (.istore_n 2, 1) := by decide +kernel
theorem dX9_bytesIn_5 : decode cX9_bytesIn 5 = .ok (.iload_n 2, 1) := by decide +kernel
theorem dX9_bytesIn_6 : decode cX9_bytesIn 6 = .ok (.ifCond .lt 27, 3) := by decide +kernel
theorem dX9_bytesIn_9 : decode cX9_bytesIn 9 = .ok (.iload_n 1, 1) := by decide +kernel
theorem dX9_bytesIn_10 : decode cX9_bytesIn 10 = .ok (.iload_n 0, 1) := by decide +kernel
theorem dX9_bytesIn_11 : decode cX9_bytesIn 11 = .ok (.iload_n 2, 1) := by decide +kernel
theorem dX9_bytesIn_12 : decode cX9_bytesIn 12 = .ok (.ishr, 1) := by decide +kernel
theorem dX9_bytesIn_13 : decode cX9_bytesIn 13 = .ok (.sipush 255, 3) := by decide +kernel
theorem dX9_bytesIn_16 : decode cX9_bytesIn 16 = .ok (.iand, 1) := by decide +kernel
theorem dX9_bytesIn_17 : decode cX9_bytesIn 17 = .ok (.ifCond .eq 7, 3) := by decide +kernel
theorem dX9_bytesIn_20 : decode cX9_bytesIn 20 = .ok (.iconst 1, 1) := by decide +kernel
theorem dX9_bytesIn_21 : decode cX9_bytesIn 21 = .ok (.goto 4, 3) := by decide +kernel
theorem dX9_bytesIn_24 : decode cX9_bytesIn 24 = .ok (.iconst 0, 1) := by decide +kernel
theorem dX9_bytesIn_25 : decode cX9_bytesIn 25 = .ok (.iadd, 1) := by decide +kernel
theorem dX9_bytesIn_26 : decode cX9_bytesIn 26 = .ok (.istore_n 1, 1) := by decide +kernel
theorem dX9_bytesIn_27 : decode cX9_bytesIn 27 = .ok (.iinc 2 (-8), 3) := by decide +kernel
theorem dX9_bytesIn_30 : decode cX9_bytesIn 30 = .ok (.goto (-25), 3) := by decide +kernel
theorem dX9_bytesIn_33 : decode cX9_bytesIn 33 = .ok (.iload_n 1, 1) := by decide +kernel
theorem dX9_bytesIn_34 : decode cX9_bytesIn 34 = .ok (.ireturn, 1) := by decide +kernel
theorem dX9_put_0 : decode cX9_put 0 = .ok (.bipush 24, 2) := by decide +kernel
theorem dX9_put_2 : decode cX9_put 2 = .ok (.istore_n 2, 1) := by decide +kernel
theorem dX9_put_3 : decode cX9_put 3 = .ok (.iload_n 2, 1) := by decide +kernel
theorem dX9_put_4 : decode cX9_put 4 = .ok (.ifCond .lt 45, 3) := by decide +kernel
theorem dX9_put_7 : decode cX9_put 7 = .ok (.iload_n 1, 1) := by decide +kernel
theorem dX9_put_8 : decode cX9_put 8 = .ok (.iload_n 2, 1) := by decide +kernel
theorem dX9_put_9 : decode cX9_put 9 = .ok (.ishr, 1) := by decide +kernel
theorem dX9_put_10 : decode cX9_put 10 = .ok (.sipush 255, 3) := by decide +kernel
theorem dX9_put_13 : decode cX9_put 13 = .ok (.iand, 1) := by decide +kernel
theorem dX9_put_14 : decode cX9_put 14 = .ok (.ifCond .ne 6, 3) := by decide +kernel
theorem dX9_put_17 : decode cX9_put 17 = .ok (.goto 26, 3) := by decide +kernel
theorem dX9_put_20 : decode cX9_put 20 = .ok (.aload_n 0, 1) := by decide +kernel
theorem dX9_put_21 : decode cX9_put 21 = .ok (.getfield 9, 3) := by decide +kernel
theorem dX9_put_24 : decode cX9_put 24 = .ok (.aload_n 0, 1) := by decide +kernel
theorem dX9_put_25 : decode cX9_put 25 = .ok (.getfield 141, 3) := by decide +kernel
theorem dX9_put_28 : decode cX9_put 28 = .ok (.iload_n 1, 1) := by decide +kernel
theorem dX9_put_29 : decode cX9_put 29 = .ok (.iload_n 2, 1) := by decide +kernel
theorem dX9_put_30 : decode cX9_put 30 = .ok (.ishr, 1) := by decide +kernel
theorem dX9_put_31 : decode cX9_put 31 = .ok (.i2b, 1) := by decide +kernel
theorem dX9_put_32 : decode cX9_put 32 = .ok (.bastore, 1) := by decide +kernel
theorem dX9_put_33 : decode cX9_put 33 = .ok (.aload_n 0, 1) := by decide +kernel
theorem dX9_put_34 : decode cX9_put 34 = .ok (.dup, 1) := by decide +kernel
theorem dX9_put_35 : decode cX9_put 35 = .ok (.getfield 141, 3) := by decide +kernel
theorem dX9_put_38 : decode cX9_put 38 = .ok (.iconst 1, 1) := by decide +kernel
theorem dX9_put_39 : decode cX9_put 39 = .ok (.iadd, 1) := by decide +kernel
theorem dX9_put_40 : decode cX9_put 40 = .ok (.putfield 141, 3) := by decide +kernel
theorem dX9_put_43 : decode cX9_put 43 = .ok (.iinc 2 (-8), 3) := by decide +kernel
theorem dX9_put_46 : decode cX9_put 46 = .ok (.goto (-43), 3) := by decide +kernel
theorem dX9_put_49 : decode cX9_put 49 = .ok (.return_, 1) := by decide +kernel
theorem dX9_feed_0 : decode cX9_feed 0 = .ok (.aload_n 0, 1) := by decide +kernel
theorem dX9_feed_1 : decode cX9_feed 1 = .ok (.iconst 0, 1) := by decide +kernel
theorem dX9_feed_2 : decode cX9_feed 2 = .ok (.putfield 128, 3) := by decide +kernel
theorem dX9_feed_5 : decode cX9_feed 5 = .ok (.aload_n 0, 1) := by decide +kernel
theorem dX9_feed_6 : decode cX9_feed 6 = .ok (.getfield 141, 3) := by decide +kernel
theorem dX9_feed_9 : decode cX9_feed 9 = .ok (.iload_n 1, 1) := by decide +kernel
theorem dX9_feed_10 : decode cX9_feed 10 = .ok (.invokestatic 143, 3) := by decide +kernel
theorem dX9_feed_13 : decode cX9_feed 13 = .ok (.iadd, 1) := by decide +kernel
theorem dX9_feed_14 : decode cX9_feed 14 = .ok (.iload_n 2, 1) := by decide +kernel
theorem dX9_feed_15 : decode cX9_feed 15 = .ok (.invokestatic 143, 3) := by decide +kernel
theorem dX9_feed_18 : decode cX9_feed 18 = .ok (.iadd, 1) := by decide +kernel
theorem dX9_feed_19 : decode cX9_feed 19 = .ok (.iload_n 3, 1) := by decide +kernel
theorem dX9_feed_20 : decode cX9_feed 20 = .ok (.invokestatic 143, 3) := by decide +kernel
theorem dX9_feed_23 : decode cX9_feed 23 = .ok (.iadd, 1) := by decide +kernel
theorem dX9_feed_24 : decode cX9_feed 24 = .ok (.iload 4, 2) := by decide +kernel
theorem dX9_feed_26 : decode cX9_feed 26 = .ok (.invokestatic 143, 3) := by decide +kernel
theorem dX9_feed_29 : decode cX9_feed 29 = .ok (.iadd, 1) := by decide +kernel
theorem dX9_feed_30 : decode cX9_feed 30 = .ok (.iload 5, 2) := by decide +kernel
theorem dX9_feed_32 : decode cX9_feed 32 = .ok (.invokestatic 143, 3) := by decide +kernel
theorem dX9_feed_35 : decode cX9_feed 35 = .ok (.iadd, 1) := by decide +kernel
theorem dX9_feed_36 : decode cX9_feed 36 = .ok (.sipush 160, 3) := by decide +kernel
theorem dX9_feed_39 : decode cX9_feed 39 = .ok (.if_icmp .le 5, 3) := by decide +kernel
theorem dX9_feed_42 : decode cX9_feed 42 = .ok (.iconst (-1), 1) := by decide +kernel
theorem dX9_feed_43 : decode cX9_feed 43 = .ok (.ireturn, 1) := by decide +kernel
theorem dX9_feed_44 : decode cX9_feed 44 = .ok (.aload_n 0, 1) := by decide +kernel
theorem dX9_feed_45 : decode cX9_feed 45 = .ok (.iload_n 1, 1) := by decide +kernel
theorem dX9_feed_46 : decode cX9_feed 46 = .ok (.invokevirtual 147, 3) := by decide +kernel
theorem dX9_feed_49 : decode cX9_feed 49 = .ok (.aload_n 0, 1) := by decide +kernel
theorem dX9_feed_50 : decode cX9_feed 50 = .ok (.iload_n 2, 1) := by decide +kernel
theorem dX9_feed_51 : decode cX9_feed 51 = .ok (.invokevirtual 147, 3) := by decide +kernel
theorem dX9_feed_54 : decode cX9_feed 54 = .ok (.aload_n 0, 1) := by decide +kernel
theorem dX9_feed_55 : decode cX9_feed 55 = .ok (.iload_n 3, 1) := by decide +kernel
theorem dX9_feed_56 : decode cX9_feed 56 = .ok (.invokevirtual 147, 3) := by decide +kernel
theorem dX9_feed_59 : decode cX9_feed 59 = .ok (.aload_n 0, 1) := by decide +kernel
theorem dX9_feed_60 : decode cX9_feed 60 = .ok (.iload 4, 2) := by decide +kernel
theorem dX9_feed_62 : decode cX9_feed 62 = .ok (.invokevirtual 147, 3) := by decide +kernel
theorem dX9_feed_65 : decode cX9_feed 65 = .ok (.aload_n 0, 1) := by decide +kernel
theorem dX9_feed_66 : decode cX9_feed 66 = .ok (.iload 5, 2) := by decide +kernel
theorem dX9_feed_68 : decode cX9_feed 68 = .ok (.invokevirtual 147, 3) := by decide +kernel
theorem dX9_feed_71 : decode cX9_feed 71 = .ok (.aload_n 0, 1) := by decide +kernel
theorem dX9_feed_72 : decode cX9_feed 72 = .ok (.getfield 141, 3) := by decide +kernel
theorem dX9_feed_75 : decode cX9_feed 75 = .ok (.ireturn, 1) := by decide +kernel
theorem dX9_end_0 : decode cX9_end 0 = .ok (.aload_n 0, 1) := by decide +kernel
theorem dX9_end_1 : decode cX9_end 1 = .ok (.iconst 0, 1) := by decide +kernel
theorem dX9_end_2 : decode cX9_end 2 = .ok (.putfield 128, 3) := by decide +kernel
theorem dX9_end_5 : decode cX9_end 5 = .ok (.iload_n 1, 1) := by decide +kernel
theorem dX9_end_6 : decode cX9_end 6 = .ok (.ifCond .lt 11, 3) := by decide +kernel
theorem dX9_end_9 : decode cX9_end 9 = .ok (.iload_n 1, 1) := by decide +kernel
theorem dX9_end_10 : decode cX9_end 10 = .ok (.aload_n 0, 1) := by decide +kernel
theorem dX9_end_11 : decode cX9_end 11 = .ok (.getfield 141, 3) := by decide +kernel
theorem dX9_end_14 : decode cX9_end 14 = .ok (.if_icmp .le 5, 3) := by decide +kernel
theorem dX9_end_17 : decode cX9_end 17 = .ok (.iconst 0, 1) := by decide +kernel
theorem dX9_end_18 : decode cX9_end 18 = .ok (.ireturn, 1) := by decide +kernel
theorem dX9_end_19 : decode cX9_end 19 = .ok (.aload_n 0, 1) := by decide +kernel
theorem dX9_end_20 : decode cX9_end 20 = .ok (.iload_n 1, 1) := by decide +kernel
theorem dX9_end_21 : decode cX9_end 21 = .ok (.putfield 141, 3) := by decide +kernel
theorem dX9_end_24 : decode cX9_end 24 = .ok (.iconst 1, 1) := by decide +kernel
theorem dX9_end_25 : decode cX9_end 25 = .ok (.ireturn, 1) := by decide +kernel
theorem dX9_look_0 : decode cX9_look 0 = .ok (.aload_n 0, 1) := by decide +kernel
theorem dX9_look_1 : decode cX9_look 1 = .ok (.getfield 151, 3) := by decide +kernel
theorem dX9_look_4 : decode cX9_look 4 = .ok (.aload_n 0, 1) := by decide +kernel
theorem dX9_look_5 : decode cX9_look 5 = .ok (.getfield 154, 3) := by decide +kernel
theorem dX9_look_8 : decode cX9_look 8 = .ok (.if_icmp .ge 35, 3) := by decide +kernel
theorem dX9_look_11 : decode cX9_look 11 = .ok (.aload_n 0, 1) := by decide +kernel
theorem dX9_look_12 : decode cX9_look 12 = .ok (.getfield 23, 3) := by decide +kernel
theorem dX9_look_15 : decode cX9_look 15 = .ok (.aload_n 0, 1) := by decide +kernel
theorem dX9_look_16 : decode cX9_look 16 = .ok (.getfield 157, 3) := by decide +kernel
theorem dX9_look_19 : decode cX9_look 19 = .ok (.aload_n 0, 1) := by decide +kernel
theorem dX9_look_20 : decode cX9_look 20 = .ok (.getfield 151, 3) := by decide +kernel
theorem dX9_look_23 : decode cX9_look 23 = .ok (.iadd, 1) := by decide +kernel
theorem dX9_look_24 : decode cX9_look 24 = .ok (.baload, 1) := by decide +kernel
theorem dX9_look_25 : decode cX9_look 25 = .ok (.bipush 32, 2) := by decide +kernel
theorem dX9_look_27 : decode cX9_look 27 = .ok (.if_icmp .ne 16, 3) := by decide +kernel
theorem dX9_look_30 : decode cX9_look 30 = .ok (.aload_n 0, 1) := by decide +kernel
theorem dX9_look_31 : decode cX9_look 31 = .ok (.dup, 1) := by decide +kernel
theorem dX9_look_32 : decode cX9_look 32 = .ok (.getfield 151, 3) := by decide +kernel
theorem dX9_look_35 : decode cX9_look 35 = .ok (.iconst 1, 1) := by decide +kernel
theorem dX9_look_36 : decode cX9_look 36 = .ok (.iadd, 1) := by decide +kernel
theorem dX9_look_37 : decode cX9_look 37 = .ok (.putfield 151, 3) := by decide +kernel
theorem dX9_look_40 : decode cX9_look 40 = .ok (.goto (-40), 3) := by decide +kernel
theorem dX9_look_43 : decode cX9_look 43 = .ok (.aload_n 0, 1) := by decide +kernel
theorem dX9_look_44 : decode cX9_look 44 = .ok (.getfield 151, 3) := by decide +kernel
theorem dX9_look_47 : decode cX9_look 47 = .ok (.aload_n 0, 1) := by decide +kernel
theorem dX9_look_48 : decode cX9_look 48 = .ok (.getfield 154, 3) := by decide +kernel
theorem dX9_look_51 : decode cX9_look 51 = .ok (.if_icmp .ge 24, 3) := by decide +kernel
theorem dX9_look_54 : decode cX9_look 54 = .ok (.aload_n 0, 1) := by decide +kernel
theorem dX9_look_55 : decode cX9_look 55 = .ok (.getfield 23, 3) := by decide +kernel
theorem dX9_look_58 : decode cX9_look 58 = .ok (.aload_n 0, 1) := by decide +kernel
theorem dX9_look_59 : decode cX9_look 59 = .ok (.getfield 157, 3) := by decide +kernel
theorem dX9_look_62 : decode cX9_look 62 = .ok (.aload_n 0, 1) := by decide +kernel
theorem dX9_look_63 : decode cX9_look 63 = .ok (.getfield 151, 3) := by decide +kernel
theorem dX9_look_66 : decode cX9_look 66 = .ok (.iadd, 1) := by decide +kernel
theorem dX9_look_67 : decode cX9_look 67 = .ok (.baload, 1) := by decide +kernel
theorem dX9_look_68 : decode cX9_look 68 = .ok (.sipush 255, 3) := by decide +kernel
theorem dX9_look_71 : decode cX9_look 71 = .ok (.iand, 1) := by decide +kernel
theorem dX9_look_72 : decode cX9_look 72 = .ok (.goto 4, 3) := by decide +kernel
theorem dX9_look_75 : decode cX9_look 75 = .ok (.iconst (-1), 1) := by decide +kernel
theorem dX9_look_76 : decode cX9_look 76 = .ok (.ireturn, 1) := by decide +kernel
theorem dX9_fails_0 : decode cX9_fails 0 = .ok (.aload_n 0, 1) := by decide +kernel
theorem dX9_fails_1 : decode cX9_fails 1 = .ok (.getfield 160, 3) := by decide +kernel
theorem dX9_fails_4 : decode cX9_fails 4 = .ok (.iconst (-1), 1) := by decide +kernel
theorem dX9_fails_5 : decode cX9_fails 5 = .ok (.if_icmp .ne 11, 3) := by decide +kernel
theorem dX9_fails_8 : decode cX9_fails 8 = .ok (.aload_n 0, 1) := by decide +kernel
theorem dX9_fails_9 : decode cX9_fails 9 = .ok (.aload_n 0, 1) := by decide +kernel
theorem dX9_fails_10 : decode cX9_fails 10 = .ok (.getfield 151, 3) := by decide +kernel
theorem dX9_fails_13 : decode cX9_fails 13 = .ok (.putfield 160, 3) := by decide +kernel
theorem dX9_fails_16 : decode cX9_fails 16 = .ok (.iconst 0, 1) := by decide +kernel
theorem dX9_fails_17 : decode cX9_fails 17 = .ok (.ireturn, 1) := by decide +kernel
theorem dX9_goesIn_0 : decode cX9_goesIn 0 = .ok (.aload_n 0, 1) := by decide +kernel
theorem dX9_goesIn_1 : decode cX9_goesIn 1 = .ok (.getfield 163, 3) := by decide +kernel
theorem dX9_goesIn_4 : decode cX9_goesIn 4 = .ok (.bipush 6, 2) := by decide +kernel
theorem dX9_goesIn_6 : decode cX9_goesIn 6 = .ok (.if_icmp .ne 8, 3) := by decide +kernel
theorem dX9_goesIn_9 : decode cX9_goesIn 9 = .ok (.aload_n 0, 1) := by decide +kernel
theorem dX9_goesIn_10 : decode cX9_goesIn 10 = .ok (.invokevirtual 166, 3) := by decide +kernel
theorem dX9_goesIn_13 : decode cX9_goesIn 13 = .ok (.ireturn, 1) := by decide +kernel
theorem dX9_goesIn_14 : decode cX9_goesIn 14 = .ok (.aload_n 0, 1) := by decide +kernel
theorem dX9_goesIn_15 : decode cX9_goesIn 15 = .ok (.dup, 1) := by decide +kernel
theorem dX9_goesIn_16 : decode cX9_goesIn 16 = .ok (.getfield 163, 3) := by decide +kernel
theorem dX9_goesIn_19 : decode cX9_goesIn 19 = .ok (.iconst 1, 1) := by decide +kernel
theorem dX9_goesIn_20 : decode cX9_goesIn 20 = .ok (.iadd, 1) := by decide +kernel
theorem dX9_goesIn_21 : decode cX9_goesIn 21 = .ok (.putfield 163, 3) := by decide +kernel
theorem dX9_goesIn_24 : decode cX9_goesIn 24 = .ok (.aload_n 0, 1) := by decide +kernel
theorem dX9_goesIn_25 : decode cX9_goesIn 25 = .ok (.dup, 1) := by decide +kernel
theorem dX9_goesIn_26 : decode cX9_goesIn 26 = .ok (.getfield 151, 3) := by decide +kernel
theorem dX9_goesIn_29 : decode cX9_goesIn 29 = .ok (.iconst 1, 1) := by decide +kernel
theorem dX9_goesIn_30 : decode cX9_goesIn 30 = .ok (.iadd, 1) := by decide +kernel
theorem dX9_goesIn_31 : decode cX9_goesIn 31 = .ok (.putfield 151, 3) := by decide +kernel
theorem dX9_goesIn_34 : decode cX9_goesIn 34 = .ok (.iconst 1, 1) := by decide +kernel
theorem dX9_goesIn_35 : decode cX9_goesIn 35 = .ok (.ireturn, 1) := by decide +kernel
theorem dX9_takes_0 : decode cX9_takes 0 = .ok (.aload_n 0, 1) := by decide +kernel
theorem dX9_takes_1 : decode cX9_takes 1 = .ok (.getfield 160, 3) := by decide +kernel
theorem dX9_takes_4 : decode cX9_takes 4 = .ok (.iconst (-1), 1) := by decide +kernel
theorem dX9_takes_5 : decode cX9_takes 5 = .ok (.if_icmp .ne 11, 3) := by decide +kernel
theorem dX9_takes_8 : decode cX9_takes 8 = .ok (.aload_n 0, 1) := by decide +kernel
theorem dX9_takes_9 : decode cX9_takes 9 = .ok (.invokevirtual 170, 3) := by decide +kernel
theorem dX9_takes_12 : decode cX9_takes 12 = .ok (.iload_n 1, 1) := by decide +kernel
theorem dX9_takes_13 : decode cX9_takes 13 = .ok (.if_icmp .eq 8, 3) := by decide +kernel
theorem dX9_takes_16 : decode cX9_takes 16 = .ok (.aload_n 0, 1) := by decide +kernel
theorem dX9_takes_17 : decode cX9_takes 17 = .ok (.invokevirtual 166, 3) := by decide +kernel
theorem dX9_takes_20 : decode cX9_takes 20 = .ok (.ireturn, 1) := by decide +kernel
theorem dX9_takes_21 : decode cX9_takes 21 = .ok (.aload_n 0, 1) := by decide +kernel
theorem dX9_takes_22 : decode cX9_takes 22 = .ok (.dup, 1) := by decide +kernel
theorem dX9_takes_23 : decode cX9_takes 23 = .ok (.getfield 151, 3) := by decide +kernel
theorem dX9_takes_26 : decode cX9_takes 26 = .ok (.iconst 1, 1) := by decide +kernel
theorem dX9_takes_27 : decode cX9_takes 27 = .ok (.iadd, 1) := by decide +kernel
theorem dX9_takes_28 : decode cX9_takes 28 = .ok (.putfield 151, 3) := by decide +kernel
theorem dX9_takes_31 : decode cX9_takes 31 = .ok (.iconst 1, 1) := by decide +kernel
theorem dX9_takes_32 : decode cX9_takes 32 = .ok (.ireturn, 1) := by decide +kernel
theorem dX9_isDigit_0 : decode cX9_isDigit 0 = .ok (.aload_n 0, 1) := by decide +kernel
theorem dX9_isDigit_1 : decode cX9_isDigit 1 = .ok (.getfield 151, 3) := by decide +kernel
theorem dX9_isDigit_4 : decode cX9_isDigit 4 = .ok (.aload_n 0, 1) := by decide +kernel
theorem dX9_isDigit_5 : decode cX9_isDigit 5 = .ok (.getfield 154, 3) := by decide +kernel
theorem dX9_isDigit_8 : decode cX9_isDigit 8 = .ok (.if_icmp .ge 45, 3) := by decide +kernel
theorem dX9_isDigit_11 : decode cX9_isDigit 11 = .ok (.aload_n 0, 1) := by decide +kernel
theorem dX9_isDigit_12 : decode cX9_isDigit 12 = .ok (.getfield 23, 3) := by decide +kernel
theorem dX9_isDigit_15 : decode cX9_isDigit 15 = .ok (.aload_n 0, 1) := by decide +kernel
theorem dX9_isDigit_16 : decode cX9_isDigit 16 = .ok (.getfield 157, 3) := by decide +kernel
theorem dX9_isDigit_19 : decode cX9_isDigit 19 = .ok (.aload_n 0, 1) := by decide +kernel
theorem dX9_isDigit_20 : decode cX9_isDigit 20 = .ok (.getfield 151, 3) := by decide +kernel
theorem dX9_isDigit_23 : decode cX9_isDigit 23 = .ok (.iadd, 1) := by decide +kernel
theorem dX9_isDigit_24 : decode cX9_isDigit 24 = .ok (.baload, 1) := by decide +kernel
theorem dX9_isDigit_25 : decode cX9_isDigit 25 = .ok (.bipush 48, 2) := by decide +kernel
theorem dX9_isDigit_27 : decode cX9_isDigit 27 = .ok (.if_icmp .lt 26, 3) := by decide +kernel
theorem dX9_isDigit_30 : decode cX9_isDigit 30 = .ok (.aload_n 0, 1) := by decide +kernel
theorem dX9_isDigit_31 : decode cX9_isDigit 31 = .ok (.getfield 23, 3) := by decide +kernel
theorem dX9_isDigit_34 : decode cX9_isDigit 34 = .ok (.aload_n 0, 1) := by decide +kernel
theorem dX9_isDigit_35 : decode cX9_isDigit 35 = .ok (.getfield 157, 3) := by decide +kernel
theorem dX9_isDigit_38 : decode cX9_isDigit 38 = .ok (.aload_n 0, 1) := by decide +kernel
theorem dX9_isDigit_39 : decode cX9_isDigit 39 = .ok (.getfield 151, 3) := by decide +kernel
theorem dX9_isDigit_42 : decode cX9_isDigit 42 = .ok (.iadd, 1) := by decide +kernel
theorem dX9_isDigit_43 : decode cX9_isDigit 43 = .ok (.baload, 1) := by decide +kernel
theorem dX9_isDigit_44 : decode cX9_isDigit 44 = .ok (.bipush 57, 2) := by decide +kernel
theorem dX9_isDigit_46 : decode cX9_isDigit 46 = .ok (.if_icmp .gt 7, 3) := by decide +kernel
theorem dX9_isDigit_49 : decode cX9_isDigit 49 = .ok (.iconst 1, 1) := by decide +kernel
theorem dX9_isDigit_50 : decode cX9_isDigit 50 = .ok (.goto 4, 3) := by decide +kernel
theorem dX9_isDigit_53 : decode cX9_isDigit 53 = .ok (.iconst 0, 1) := by decide +kernel
theorem dX9_isDigit_54 : decode cX9_isDigit 54 = .ok (.ireturn, 1) := by decide +kernel
theorem dX9_within_0 : decode cX9_within 0 = .ok (.ldc2_w 173, 3) := by decide +kernel
theorem dX9_within_3 : decode cX9_within 3 = .ok (.ldc2_w 175, 3) := by decide +kernel
theorem dX9_within_6 : decode cX9_within 6 = .ok (.lload_n 0, 1) := by decide +kernel
theorem dX9_within_7 : decode cX9_within 7 = .ok (.invokestatic 177, 3) := by decide +kernel
theorem dX9_within_10 : decode cX9_within 10 = .ok (.invokestatic 183, 3) := by decide +kernel
theorem dX9_within_13 : decode cX9_within 13 = .ok (.l2i, 1) := by decide +kernel
theorem dX9_within_14 : decode cX9_within 14 = .ok (.ireturn, 1) := by decide +kernel
theorem dX9_atom_0 : decode cX9_atom 0 = .ok (.aload_n 0, 1) := by decide +kernel
theorem dX9_atom_1 : decode cX9_atom 1 = .ok (.invokevirtual 170, 3) := by decide +kernel
theorem dX9_atom_4 : decode cX9_atom 4 = .ok (.istore_n 1, 1) := by decide +kernel
theorem dX9_atom_5 : decode cX9_atom 5 = .ok (.ldc 32, 2) := by decide +kernel
theorem dX9_atom_7 : decode cX9_atom 7 = .ok (.iload_n 1, 1) := by decide +kernel
theorem dX9_atom_8 : decode cX9_atom 8 = .ok (.invokestatic 186, 3) := by decide +kernel
theorem dX9_atom_11 : decode cX9_atom 11 = .ok (.ifCond .eq 20, 3) := by decide +kernel
theorem dX9_atom_14 : decode cX9_atom 14 = .ok (.aload_n 0, 1) := by decide +kernel
theorem dX9_atom_15 : decode cX9_atom 15 = .ok (.dup, 1) := by decide +kernel
theorem dX9_atom_16 : decode cX9_atom 16 = .ok (.getfield 151, 3) := by decide +kernel
theorem dX9_atom_19 : decode cX9_atom 19 = .ok (.iconst 1, 1) := by decide +kernel
theorem dX9_atom_20 : decode cX9_atom 20 = .ok (.iadd, 1) := by decide +kernel
theorem dX9_atom_21 : decode cX9_atom 21 = .ok (.putfield 151, 3) := by decide +kernel
theorem dX9_atom_24 : decode cX9_atom 24 = .ok (.aload_n 0, 1) := by decide +kernel
theorem dX9_atom_25 : decode cX9_atom 25 = .ok (.getfield 20, 3) := by decide +kernel
theorem dX9_atom_28 : decode cX9_atom 28 = .ok (.iload_n 1, 1) := by decide +kernel
theorem dX9_atom_29 : decode cX9_atom 29 = .ok (.iaload, 1) := by decide +kernel
theorem dX9_atom_30 : decode cX9_atom 30 = .ok (.ireturn, 1) := by decide +kernel
theorem dX9_atom_31 : decode cX9_atom 31 = .ok (.iload_n 1, 1) := by decide +kernel
theorem dX9_atom_32 : decode cX9_atom 32 = .ok (.bipush 91, 2) := by decide +kernel
theorem dX9_atom_34 : decode cX9_atom 34 = .ok (.if_icmp .ne 40, 3) := by decide +kernel
theorem dX9_atom_37 : decode cX9_atom 37 = .ok (.aload_n 0, 1) := by decide +kernel
theorem dX9_atom_38 : decode cX9_atom 38 = .ok (.invokevirtual 190, 3) := by decide +kernel
theorem dX9_atom_41 : decode cX9_atom 41 = .ok (.ifCond .ne 5, 3) := by decide +kernel
theorem dX9_atom_44 : decode cX9_atom 44 = .ok (.iconst 0, 1) := by decide +kernel
theorem dX9_atom_45 : decode cX9_atom 45 = .ok (.ireturn, 1) := by decide +kernel
theorem dX9_atom_46 : decode cX9_atom 46 = .ok (.aload_n 0, 1) := by decide +kernel
theorem dX9_atom_47 : decode cX9_atom 47 = .ok (.invokevirtual 193, 3) := by decide +kernel
theorem dX9_atom_50 : decode cX9_atom 50 = .ok (.istore_n 2, 1) := by decide +kernel
theorem dX9_atom_51 : decode cX9_atom 51 = .ok (.aload_n 0, 1) := by decide +kernel
theorem dX9_atom_52 : decode cX9_atom 52 = .ok (.bipush 93, 2) := by decide +kernel
theorem dX9_atom_54 : decode cX9_atom 54 = .ok (.invokevirtual 196, 3) := by decide +kernel
theorem dX9_atom_57 : decode cX9_atom 57 = .ok (.ifCond .ne 5, 3) := by decide +kernel
theorem dX9_atom_60 : decode cX9_atom 60 = .ok (.iconst 0, 1) := by decide +kernel
theorem dX9_atom_61 : decode cX9_atom 61 = .ok (.ireturn, 1) := by decide +kernel
theorem dX9_atom_62 : decode cX9_atom 62 = .ok (.aload_n 0, 1) := by decide +kernel
theorem dX9_atom_63 : decode cX9_atom 63 = .ok (.dup, 1) := by decide +kernel
theorem dX9_atom_64 : decode cX9_atom 64 = .ok (.getfield 163, 3) := by decide +kernel
theorem dX9_atom_67 : decode cX9_atom 67 = .ok (.iconst 1, 1) := by decide +kernel
theorem dX9_atom_68 : decode cX9_atom 68 = .ok (.isub, 1) := by decide +kernel
theorem dX9_atom_69 : decode cX9_atom 69 = .ok (.putfield 163, 3) := by decide +kernel
theorem dX9_atom_72 : decode cX9_atom 72 = .ok (.iload_n 2, 1) := by decide +kernel
theorem dX9_atom_73 : decode cX9_atom 73 = .ok (.ireturn, 1) := by decide +kernel
theorem dX9_atom_74 : decode cX9_atom 74 = .ok (.aload_n 0, 1) := by decide +kernel
theorem dX9_atom_75 : decode cX9_atom 75 = .ok (.invokevirtual 200, 3) := by decide +kernel
theorem dX9_atom_78 : decode cX9_atom 78 = .ok (.ifCond .ne 8, 3) := by decide +kernel
theorem dX9_atom_81 : decode cX9_atom 81 = .ok (.aload_n 0, 1) := by decide +kernel
theorem dX9_atom_82 : decode cX9_atom 82 = .ok (.invokevirtual 166, 3) := by decide +kernel
theorem dX9_atom_85 : decode cX9_atom 85 = .ok (.pop, 1) := by decide +kernel
theorem dX9_atom_86 : decode cX9_atom 86 = .ok (.iconst 0, 1) := by decide +kernel
theorem dX9_atom_87 : decode cX9_atom 87 = .ok (.istore_n 2, 1) := by decide +kernel
theorem dX9_atom_88 : decode cX9_atom 88 = .ok (.iconst 0, 1) := by decide +kernel
theorem dX9_atom_89 : decode cX9_atom 89 = .ok (.istore_n 3, 1) := by decide +kernel
theorem dX9_atom_90 : decode cX9_atom 90 = .ok (.aload_n 0, 1) := by decide +kernel
theorem dX9_atom_91 : decode cX9_atom 91 = .ok (.invokevirtual 200, 3) := by decide +kernel
theorem dX9_atom_94 : decode cX9_atom 94 = .ok (.ifCond .eq 62, 3) := by decide +kernel
theorem dX9_atom_97 : decode cX9_atom 97 = .ok (.aload_n 0, 1) := by decide +kernel
theorem dX9_atom_98 : decode cX9_atom 98 = .ok (.getfield 160, 3) := by decide +kernel
theorem dX9_atom_101 : decode cX9_atom 101 = .ok (.iconst (-1), 1) := by decide +kernel
theorem dX9_atom_102 : decode cX9_atom 102 = .ok (.if_icmp .ne 54, 3) := by decide +kernel
theorem dX9_atom_105 : decode cX9_atom 105 = .ok (.iload_n 3, 1) := by decide +kernel
theorem dX9_atom_106 : decode cX9_atom 106 = .ok (.iconst 4, 1) := by decide +kernel
theorem dX9_atom_107 : decode cX9_atom 107 = .ok (.if_icmp .ne 10, 3) := by decide +kernel
theorem dX9_atom_110 : decode cX9_atom 110 = .ok (.aload_n 0, 1) := by decide +kernel
theorem dX9_atom_111 : decode cX9_atom 111 = .ok (.invokevirtual 166, 3) := by decide +kernel
theorem dX9_atom_114 : decode cX9_atom 114 = .ok (.pop, 1) := by decide +kernel
theorem dX9_atom_115 : decode cX9_atom 115 = .ok (.iconst 0, 1) := by decide +kernel
theorem dX9_atom_116 : decode cX9_atom 116 = .ok (.ireturn, 1) := by decide +kernel
theorem dX9_atom_117 : decode cX9_atom 117 = .ok (.bipush 10, 2) := by decide +kernel
theorem dX9_atom_119 : decode cX9_atom 119 = .ok (.iload_n 2, 1) := by decide +kernel
theorem dX9_atom_120 : decode cX9_atom 120 = .ok (.imul, 1) := by decide +kernel
theorem dX9_atom_121 : decode cX9_atom 121 = .ok (.aload_n 0, 1) := by decide +kernel
theorem dX9_atom_122 : decode cX9_atom 122 = .ok (.getfield 23, 3) := by decide +kernel
theorem dX9_atom_125 : decode cX9_atom 125 = .ok (.aload_n 0, 1) := by decide +kernel
theorem dX9_atom_126 : decode cX9_atom 126 = .ok (.getfield 157, 3) := by decide +kernel
theorem dX9_atom_129 : decode cX9_atom 129 = .ok (.aload_n 0, 1) := by decide +kernel
theorem dX9_atom_130 : decode cX9_atom 130 = .ok (.getfield 151, 3) := by decide +kernel
theorem dX9_atom_133 : decode cX9_atom 133 = .ok (.iadd, 1) := by decide +kernel
theorem dX9_atom_134 : decode cX9_atom 134 = .ok (.baload, 1) := by decide +kernel
theorem dX9_atom_135 : decode cX9_atom 135 = .ok (.iadd, 1) := by decide +kernel
theorem dX9_atom_136 : decode cX9_atom 136 = .ok (.bipush 48, 2) := by decide +kernel
theorem dX9_atom_138 : decode cX9_atom 138 = .ok (.isub, 1) := by decide +kernel
theorem dX9_atom_139 : decode cX9_atom 139 = .ok (.istore_n 2, 1) := by decide +kernel
theorem dX9_atom_140 : decode cX9_atom 140 = .ok (.aload_n 0, 1) := by decide +kernel
theorem dX9_atom_141 : decode cX9_atom 141 = .ok (.dup, 1) := by decide +kernel
theorem dX9_atom_142 : decode cX9_atom 142 = .ok (.getfield 151, 3) := by decide +kernel
theorem dX9_atom_145 : decode cX9_atom 145 = .ok (.iconst 1, 1) := by decide +kernel
theorem dX9_atom_146 : decode cX9_atom 146 = .ok (.iadd, 1) := by decide +kernel
theorem dX9_atom_147 : decode cX9_atom 147 = .ok (.putfield 151, 3) := by decide +kernel
theorem dX9_atom_150 : decode cX9_atom 150 = .ok (.iinc 3 1, 3) := by decide +kernel
theorem dX9_atom_153 : decode cX9_atom 153 = .ok (.goto (-63), 3) := by decide +kernel
theorem dX9_atom_156 : decode cX9_atom 156 = .ok (.iload_n 2, 1) := by decide +kernel
theorem dX9_atom_157 : decode cX9_atom 157 = .ok (.ireturn, 1) := by decide +kernel
theorem dX9_term_0 : decode cX9_term 0 = .ok (.aload_n 0, 1) := by decide +kernel
theorem dX9_term_1 : decode cX9_term 1 = .ok (.invokevirtual 203, 3) := by decide +kernel
theorem dX9_term_4 : decode cX9_term 4 = .ok (.istore_n 1, 1) := by decide +kernel
theorem dX9_term_5 : decode cX9_term 5 = .ok (.aload_n 0, 1) := by decide +kernel
theorem dX9_term_6 : decode cX9_term 6 = .ok (.getfield 160, 3) := by decide +kernel
theorem dX9_term_9 : decode cX9_term 9 = .ok (.iconst (-1), 1) := by decide +kernel
theorem dX9_term_10 : decode cX9_term 10 = .ok (.if_icmp .ne 84, 3) := by decide +kernel
theorem dX9_term_13 : decode cX9_term 13 = .ok (.aload_n 0, 1) := by decide +kernel
theorem dX9_term_14 : decode cX9_term 14 = .ok (.invokevirtual 170, 3) := by decide +kernel
theorem dX9_term_17 : decode cX9_term 17 = .ok (.bipush 42, 2) := by decide +kernel
theorem dX9_term_19 : decode cX9_term 19 = .ok (.if_icmp .eq 12, 3) := by decide +kernel
theorem dX9_term_22 : decode cX9_term 22 = .ok (.aload_n 0, 1) := by decide +kernel
theorem dX9_term_23 : decode cX9_term 23 = .ok (.invokevirtual 170, 3) := by decide +kernel
theorem dX9_term_26 : decode cX9_term 26 = .ok (.bipush 47, 2) := by decide +kernel
theorem dX9_term_28 : decode cX9_term 28 = .ok (.if_icmp .ne 66, 3) := by decide +kernel
theorem dX9_term_31 : decode cX9_term 31 = .ok (.aload_n 0, 1) := by decide +kernel
theorem dX9_term_32 : decode cX9_term 32 = .ok (.invokevirtual 170, 3) := by decide +kernel
theorem dX9_term_35 : decode cX9_term 35 = .ok (.bipush 42, 2) := by decide +kernel
theorem dX9_term_37 : decode cX9_term 37 = .ok (.if_icmp .ne 7, 3) := by decide +kernel
theorem dX9_term_40 : decode cX9_term 40 = .ok (.iconst 1, 1) := by decide +kernel
theorem dX9_term_41 : decode cX9_term 41 = .ok (.goto 4, 3) := by decide +kernel
theorem dX9_term_44 : decode cX9_term 44 = .ok (.iconst 0, 1) := by decide +kernel
theorem dX9_term_45 : decode cX9_term 45 = .ok (.istore_n 2, 1) := by decide +kernel
theorem dX9_term_46 : decode cX9_term 46 = .ok (.aload_n 0, 1) := by decide +kernel
theorem dX9_term_47 : decode cX9_term 47 = .ok (.dup, 1) := by decide +kernel
theorem dX9_term_48 : decode cX9_term 48 = .ok (.getfield 151, 3) := by decide +kernel
theorem dX9_term_51 : decode cX9_term 51 = .ok (.iconst 1, 1) := by decide +kernel
theorem dX9_term_52 : decode cX9_term 52 = .ok (.iadd, 1) := by decide +kernel
theorem dX9_term_53 : decode cX9_term 53 = .ok (.putfield 151, 3) := by decide +kernel
theorem dX9_term_56 : decode cX9_term 56 = .ok (.aload_n 0, 1) := by decide +kernel
theorem dX9_term_57 : decode cX9_term 57 = .ok (.invokevirtual 203, 3) := by decide +kernel
theorem dX9_term_60 : decode cX9_term 60 = .ok (.i2l, 1) := by decide +kernel
theorem dX9_term_61 : decode cX9_term 61 = .ok (.lstore_n 3, 1) := by decide +kernel
theorem dX9_term_62 : decode cX9_term 62 = .ok (.iload_n 2, 1) := by decide +kernel
theorem dX9_term_63 : decode cX9_term 63 = .ok (.ifCond .eq 10, 3) := by decide +kernel
theorem dX9_term_66 : decode cX9_term 66 = .ok (.iload_n 1, 1) := by decide +kernel
theorem dX9_term_67 : decode cX9_term 67 = .ok (.i2l, 1) := by decide +kernel
theorem dX9_term_68 : decode cX9_term 68 = .ok (.lload_n 3, 1) := by decide +kernel
theorem dX9_term_69 : decode cX9_term 69 = .ok (.lmul, 1) := by decide +kernel
theorem dX9_term_70 : decode cX9_term 70 = .ok (.goto 17, 3) := by decide +kernel
theorem dX9_term_73 : decode cX9_term 73 = .ok (.lload_n 3, 1) := by decide +kernel
theorem dX9_term_74 : decode cX9_term 74 = .ok (.lconst 0, 1) := by decide +kernel
theorem dX9_term_75 : decode cX9_term 75 = .ok (.lcmp, 1) := by decide +kernel
theorem dX9_term_76 : decode cX9_term 76 = .ok (.ifCond .ne 7, 3) := by decide +kernel
theorem dX9_term_79 : decode cX9_term 79 = .ok (.lconst 0, 1) := by decide +kernel
theorem dX9_term_80 : decode cX9_term 80 = .ok (.goto 7, 3) := by decide +kernel
theorem dX9_term_83 : decode cX9_term 83 = .ok (.iload_n 1, 1) := by decide +kernel
theorem dX9_term_84 : decode cX9_term 84 = .ok (.i2l, 1) := by decide +kernel
theorem dX9_term_85 : decode cX9_term 85 = .ok (.lload_n 3, 1) := by decide +kernel
theorem dX9_term_86 : decode cX9_term 86 = .ok (.ldiv, 1) := by decide +kernel
theorem dX9_term_87 : decode cX9_term 87 = .ok (.invokestatic 206, 3) := by decide +kernel
theorem dX9_term_90 : decode cX9_term 90 = .ok (.istore_n 1, 1) := by decide +kernel
theorem dX9_term_91 : decode cX9_term 91 = .ok (.goto (-86), 3) := by decide +kernel
theorem dX9_term_94 : decode cX9_term 94 = .ok (.iload_n 1, 1) := by decide +kernel
theorem dX9_term_95 : decode cX9_term 95 = .ok (.ireturn, 1) := by decide +kernel
theorem dX9_sum_0 : decode cX9_sum 0 = .ok (.aload_n 0, 1) := by decide +kernel
theorem dX9_sum_1 : decode cX9_sum 1 = .ok (.invokevirtual 210, 3) := by decide +kernel
theorem dX9_sum_4 : decode cX9_sum 4 = .ok (.istore_n 1, 1) := by decide +kernel
theorem dX9_sum_5 : decode cX9_sum 5 = .ok (.aload_n 0, 1) := by decide +kernel
theorem dX9_sum_6 : decode cX9_sum 6 = .ok (.getfield 160, 3) := by decide +kernel
theorem dX9_sum_9 : decode cX9_sum 9 = .ok (.iconst (-1), 1) := by decide +kernel
theorem dX9_sum_10 : decode cX9_sum 10 = .ok (.if_icmp .ne 74, 3) := by decide +kernel
theorem dX9_sum_13 : decode cX9_sum 13 = .ok (.aload_n 0, 1) := by decide +kernel
theorem dX9_sum_14 : decode cX9_sum 14 = .ok (.invokevirtual 170, 3) := by decide +kernel
theorem dX9_sum_17 : decode cX9_sum 17 = .ok (.bipush 43, 2) := by decide +kernel
theorem dX9_sum_19 : decode cX9_sum 19 = .ok (.if_icmp .eq 12, 3) := by decide +kernel
theorem dX9_sum_22 : decode cX9_sum 22 = .ok (.aload_n 0, 1) := by decide +kernel
theorem dX9_sum_23 : decode cX9_sum 23 = .ok (.invokevirtual 170, 3) := by decide +kernel
theorem dX9_sum_26 : decode cX9_sum 26 = .ok (.bipush 45, 2) := by decide +kernel
theorem dX9_sum_28 : decode cX9_sum 28 = .ok (.if_icmp .ne 56, 3) := by decide +kernel
theorem dX9_sum_31 : decode cX9_sum 31 = .ok (.aload_n 0, 1) := by decide +kernel
theorem dX9_sum_32 : decode cX9_sum 32 = .ok (.invokevirtual 170, 3) := by decide +kernel
theorem dX9_sum_35 : decode cX9_sum 35 = .ok (.bipush 43, 2) := by decide +kernel
theorem dX9_sum_37 : decode cX9_sum 37 = .ok (.if_icmp .ne 7, 3) := by decide +kernel
theorem dX9_sum_40 : decode cX9_sum 40 = .ok (.iconst 1, 1) := by decide +kernel
theorem dX9_sum_41 : decode cX9_sum 41 = .ok (.goto 4, 3) := by decide +kernel
theorem dX9_sum_44 : decode cX9_sum 44 = .ok (.iconst 0, 1) := by decide +kernel
theorem dX9_sum_45 : decode cX9_sum 45 = .ok (.istore_n 2, 1) := by decide +kernel
theorem dX9_sum_46 : decode cX9_sum 46 = .ok (.aload_n 0, 1) := by decide +kernel
theorem dX9_sum_47 : decode cX9_sum 47 = .ok (.dup, 1) := by decide +kernel
theorem dX9_sum_48 : decode cX9_sum 48 = .ok (.getfield 151, 3) := by decide +kernel
theorem dX9_sum_51 : decode cX9_sum 51 = .ok (.iconst 1, 1) := by decide +kernel
theorem dX9_sum_52 : decode cX9_sum 52 = .ok (.iadd, 1) := by decide +kernel
theorem dX9_sum_53 : decode cX9_sum 53 = .ok (.putfield 151, 3) := by decide +kernel
theorem dX9_sum_56 : decode cX9_sum 56 = .ok (.aload_n 0, 1) := by decide +kernel
theorem dX9_sum_57 : decode cX9_sum 57 = .ok (.invokevirtual 210, 3) := by decide +kernel
theorem dX9_sum_60 : decode cX9_sum 60 = .ok (.i2l, 1) := by decide +kernel
theorem dX9_sum_61 : decode cX9_sum 61 = .ok (.lstore_n 3, 1) := by decide +kernel
theorem dX9_sum_62 : decode cX9_sum 62 = .ok (.iload_n 2, 1) := by decide +kernel
theorem dX9_sum_63 : decode cX9_sum 63 = .ok (.ifCond .eq 10, 3) := by decide +kernel
theorem dX9_sum_66 : decode cX9_sum 66 = .ok (.iload_n 1, 1) := by decide +kernel
theorem dX9_sum_67 : decode cX9_sum 67 = .ok (.i2l, 1) := by decide +kernel
theorem dX9_sum_68 : decode cX9_sum 68 = .ok (.lload_n 3, 1) := by decide +kernel
theorem dX9_sum_69 : decode cX9_sum 69 = .ok (.ladd, 1) := by decide +kernel
theorem dX9_sum_70 : decode cX9_sum 70 = .ok (.goto 7, 3) := by decide +kernel
theorem dX9_sum_73 : decode cX9_sum 73 = .ok (.iload_n 1, 1) := by decide +kernel
theorem dX9_sum_74 : decode cX9_sum 74 = .ok (.i2l, 1) := by decide +kernel
theorem dX9_sum_75 : decode cX9_sum 75 = .ok (.lload_n 3, 1) := by decide +kernel
theorem dX9_sum_76 : decode cX9_sum 76 = .ok (.lsub, 1) := by decide +kernel
theorem dX9_sum_77 : decode cX9_sum 77 = .ok (.invokestatic 206, 3) := by decide +kernel
theorem dX9_sum_80 : decode cX9_sum 80 = .ok (.istore_n 1, 1) := by decide +kernel
theorem dX9_sum_81 : decode cX9_sum 81 = .ok (.goto (-76), 3) := by decide +kernel
theorem dX9_sum_84 : decode cX9_sum 84 = .ok (.iload_n 1, 1) := by decide +kernel
theorem dX9_sum_85 : decode cX9_sum 85 = .ok (.ireturn, 1) := by decide +kernel
theorem dX9_isSign_0 : decode cX9_isSign 0 = .ok (.iload_n 0, 1) := by decide +kernel
theorem dX9_isSign_1 : decode cX9_isSign 1 = .ok (.bipush 61, 2) := by decide +kernel
theorem dX9_isSign_3 : decode cX9_isSign 3 = .ok (.if_icmp .eq 15, 3) := by decide +kernel
theorem dX9_isSign_6 : decode cX9_isSign 6 = .ok (.iload_n 0, 1) := by decide +kernel
theorem dX9_isSign_7 : decode cX9_isSign 7 = .ok (.bipush 60, 2) := by decide +kernel
theorem dX9_isSign_9 : decode cX9_isSign 9 = .ok (.if_icmp .eq 9, 3) := by decide +kernel
theorem dX9_isSign_12 : decode cX9_isSign 12 = .ok (.iload_n 0, 1) := by decide +kernel
theorem dX9_isSign_13 : decode cX9_isSign 13 = .ok (.bipush 62, 2) := by decide +kernel
theorem dX9_isSign_15 : decode cX9_isSign 15 = .ok (.if_icmp .ne 7, 3) := by decide +kernel
theorem dX9_isSign_18 : decode cX9_isSign 18 = .ok (.iconst 1, 1) := by decide +kernel
theorem dX9_isSign_19 : decode cX9_isSign 19 = .ok (.goto 4, 3) := by decide +kernel
theorem dX9_isSign_22 : decode cX9_isSign 22 = .ok (.iconst 0, 1) := by decide +kernel
theorem dX9_isSign_23 : decode cX9_isSign 23 = .ok (.ireturn, 1) := by decide +kernel
theorem dX9_compares_0 : decode cX9_compares 0 = .ok (.iload_n 1, 1) := by decide +kernel
theorem dX9_compares_1 : decode cX9_compares 1 = .ok (.ifCond .eq 7, 3) := by decide +kernel
theorem dX9_compares_4 : decode cX9_compares 4 = .ok (.iload_n 2, 1) := by decide +kernel
theorem dX9_compares_5 : decode cX9_compares 5 = .ok (.goto 7, 3) := by decide +kernel
theorem dX9_compares_8 : decode cX9_compares 8 = .ok (.aload_n 0, 1) := by decide +kernel
theorem dX9_compares_9 : decode cX9_compares 9 = .ok (.invokevirtual 193, 3) := by decide +kernel
theorem dX9_compares_12 : decode cX9_compares 12 = .ok (.istore_n 3, 1) := by decide +kernel
theorem dX9_compares_13 : decode cX9_compares 13 = .ok (.aload_n 0, 1) := by decide +kernel
theorem dX9_compares_14 : decode cX9_compares 14 = .ok (.getfield 160, 3) := by decide +kernel
theorem dX9_compares_17 : decode cX9_compares 17 = .ok (.iconst (-1), 1) := by decide +kernel
theorem dX9_compares_18 : decode cX9_compares 18 = .ok (.if_icmp .eq 5, 3) := by decide +kernel
theorem dX9_compares_21 : decode cX9_compares 21 = .ok (.iconst 0, 1) := by decide +kernel
theorem dX9_compares_22 : decode cX9_compares 22 = .ok (.ireturn, 1) := by decide +kernel
theorem dX9_compares_23 : decode cX9_compares 23 = .ok (.aload_n 0, 1) := by decide +kernel
theorem dX9_compares_24 : decode cX9_compares 24 = .ok (.invokevirtual 170, 3) := by decide +kernel
theorem dX9_compares_27 : decode cX9_compares 27 = .ok (.istore 4, 2) := by decide +kernel
theorem dX9_compares_29 : decode cX9_compares 29 = .ok (.iload 4, 2) := by decide +kernel
theorem dX9_compares_31 : decode cX9_compares 31 = .ok (.invokestatic 213, 3) := by decide +kernel
theorem dX9_compares_34 : decode cX9_compares 34 = .ok (.ifCond .ne 8, 3) := by decide +kernel
theorem dX9_compares_37 : decode cX9_compares 37 = .ok (.aload_n 0, 1) := by decide +kernel
theorem dX9_compares_38 : decode cX9_compares 38 = .ok (.invokevirtual 166, 3) := by decide +kernel
theorem dX9_compares_41 : decode cX9_compares 41 = .ok (.ireturn, 1) := by decide +kernel
theorem dX9_compares_42 : decode cX9_compares 42 = .ok (.aload_n 0, 1) := by decide +kernel
theorem dX9_compares_43 : decode cX9_compares 43 = .ok (.dup, 1) := by decide +kernel
theorem dX9_compares_44 : decode cX9_compares 44 = .ok (.getfield 151, 3) := by decide +kernel
theorem dX9_compares_47 : decode cX9_compares 47 = .ok (.iconst 1, 1) := by decide +kernel
theorem dX9_compares_48 : decode cX9_compares 48 = .ok (.iadd, 1) := by decide +kernel
theorem dX9_compares_49 : decode cX9_compares 49 = .ok (.putfield 151, 3) := by decide +kernel
theorem dX9_compares_52 : decode cX9_compares 52 = .ok (.aload_n 0, 1) := by decide +kernel
theorem dX9_compares_53 : decode cX9_compares 53 = .ok (.invokevirtual 193, 3) := by decide +kernel
theorem dX9_compares_56 : decode cX9_compares 56 = .ok (.istore 5, 2) := by decide +kernel
theorem dX9_compares_58 : decode cX9_compares 58 = .ok (.iload 4, 2) := by decide +kernel
theorem dX9_compares_60 : decode cX9_compares 60 = .ok (.bipush 61, 2) := by decide +kernel
theorem dX9_compares_62 : decode cX9_compares 62 = .ok (.if_icmp .ne 17, 3) := by decide +kernel
theorem dX9_compares_65 : decode cX9_compares 65 = .ok (.iload_n 3, 1) := by decide +kernel
theorem dX9_compares_66 : decode cX9_compares 66 = .ok (.iload 5, 2) := by decide +kernel
theorem dX9_compares_68 : decode cX9_compares 68 = .ok (.if_icmp .ne 7, 3) := by decide +kernel
theorem dX9_compares_71 : decode cX9_compares 71 = .ok (.iconst 1, 1) := by decide +kernel
theorem dX9_compares_72 : decode cX9_compares 72 = .ok (.goto 39, 3) := by decide +kernel
theorem dX9_compares_75 : decode cX9_compares 75 = .ok (.iconst 0, 1) := by decide +kernel
theorem dX9_compares_76 : decode cX9_compares 76 = .ok (.goto 35, 3) := by decide +kernel
theorem dX9_compares_79 : decode cX9_compares 79 = .ok (.iload 4, 2) := by decide +kernel
theorem dX9_compares_81 : decode cX9_compares 81 = .ok (.bipush 60, 2) := by decide +kernel
theorem dX9_compares_83 : decode cX9_compares 83 = .ok (.if_icmp .ne 17, 3) := by decide +kernel
theorem dX9_compares_86 : decode cX9_compares 86 = .ok (.iload_n 3, 1) := by decide +kernel
theorem dX9_compares_87 : decode cX9_compares 87 = .ok (.iload 5, 2) := by decide +kernel
theorem dX9_compares_89 : decode cX9_compares 89 = .ok (.if_icmp .ge 7, 3) := by decide +kernel
theorem dX9_compares_92 : decode cX9_compares 92 = .ok (.iconst 1, 1) := by decide +kernel
theorem dX9_compares_93 : decode cX9_compares 93 = .ok (.goto 18, 3) := by decide +kernel
theorem dX9_compares_96 : decode cX9_compares 96 = .ok (.iconst 0, 1) := by decide +kernel
theorem dX9_compares_97 : decode cX9_compares 97 = .ok (.goto 14, 3) := by decide +kernel
theorem dX9_compares_100 : decode cX9_compares 100 = .ok (.iload_n 3, 1) := by decide +kernel
theorem dX9_compares_101 : decode cX9_compares 101 = .ok (.iload 5, 2) := by decide +kernel
theorem dX9_compares_103 : decode cX9_compares 103 = .ok (.if_icmp .le 7, 3) := by decide +kernel
theorem dX9_compares_106 : decode cX9_compares 106 = .ok (.iconst 1, 1) := by decide +kernel
theorem dX9_compares_107 : decode cX9_compares 107 = .ok (.goto 4, 3) := by decide +kernel
theorem dX9_compares_110 : decode cX9_compares 110 = .ok (.iconst 0, 1) := by decide +kernel
theorem dX9_compares_111 : decode cX9_compares 111 = .ok (.ireturn, 1) := by decide +kernel
theorem dX9_unit_0 : decode cX9_unit 0 = .ok (.aload_n 0, 1) := by decide +kernel
theorem dX9_unit_1 : decode cX9_unit 1 = .ok (.invokevirtual 170, 3) := by decide +kernel
theorem dX9_unit_4 : decode cX9_unit 4 = .ok (.istore_n 1, 1) := by decide +kernel
theorem dX9_unit_5 : decode cX9_unit 5 = .ok (.iload_n 1, 1) := by decide +kernel
theorem dX9_unit_6 : decode cX9_unit 6 = .ok (.bipush 33, 2) := by decide +kernel
theorem dX9_unit_8 : decode cX9_unit 8 = .ok (.if_icmp .ne 37, 3) := by decide +kernel
theorem dX9_unit_11 : decode cX9_unit 11 = .ok (.aload_n 0, 1) := by decide +kernel
theorem dX9_unit_12 : decode cX9_unit 12 = .ok (.invokevirtual 190, 3) := by decide +kernel
theorem dX9_unit_15 : decode cX9_unit 15 = .ok (.ifCond .ne 5, 3) := by decide +kernel
theorem dX9_unit_18 : decode cX9_unit 18 = .ok (.iconst 0, 1) := by decide +kernel
theorem dX9_unit_19 : decode cX9_unit 19 = .ok (.ireturn, 1) := by decide +kernel
theorem dX9_unit_20 : decode cX9_unit 20 = .ok (.aload_n 0, 1) := by decide +kernel
theorem dX9_unit_21 : decode cX9_unit 21 = .ok (.invokevirtual 216, 3) := by decide +kernel
theorem dX9_unit_24 : decode cX9_unit 24 = .ok (.istore_n 2, 1) := by decide +kernel
theorem dX9_unit_25 : decode cX9_unit 25 = .ok (.aload_n 0, 1) := by decide +kernel
theorem dX9_unit_26 : decode cX9_unit 26 = .ok (.dup, 1) := by decide +kernel
theorem dX9_unit_27 : decode cX9_unit 27 = .ok (.getfield 163, 3) := by decide +kernel
theorem dX9_unit_30 : decode cX9_unit 30 = .ok (.iconst 1, 1) := by decide +kernel
theorem dX9_unit_31 : decode cX9_unit 31 = .ok (.isub, 1) := by decide +kernel
theorem dX9_unit_32 : decode cX9_unit 32 = .ok (.putfield 163, 3) := by decide +kernel
theorem dX9_unit_35 : decode cX9_unit 35 = .ok (.iload_n 2, 1) := by decide +kernel
theorem dX9_unit_36 : decode cX9_unit 36 = .ok (.ifCond .ne 7, 3) := by decide +kernel
theorem dX9_unit_39 : decode cX9_unit 39 = .ok (.iconst 1, 1) := by decide +kernel
theorem dX9_unit_40 : decode cX9_unit 40 = .ok (.goto 4, 3) := by decide +kernel
theorem dX9_unit_43 : decode cX9_unit 43 = .ok (.iconst 0, 1) := by decide +kernel
theorem dX9_unit_44 : decode cX9_unit 44 = .ok (.ireturn, 1) := by decide +kernel
theorem dX9_unit_45 : decode cX9_unit 45 = .ok (.iload_n 1, 1) := by decide +kernel
theorem dX9_unit_46 : decode cX9_unit 46 = .ok (.bipush 40, 2) := by decide +kernel
theorem dX9_unit_48 : decode cX9_unit 48 = .ok (.if_icmp .ne 42, 3) := by decide +kernel
theorem dX9_unit_51 : decode cX9_unit 51 = .ok (.aload_n 0, 1) := by decide +kernel
theorem dX9_unit_52 : decode cX9_unit 52 = .ok (.invokevirtual 190, 3) := by decide +kernel
theorem dX9_unit_55 : decode cX9_unit 55 = .ok (.ifCond .ne 5, 3) := by decide +kernel
theorem dX9_unit_58 : decode cX9_unit 58 = .ok (.iconst 0, 1) := by decide +kernel
theorem dX9_unit_59 : decode cX9_unit 59 = .ok (.ireturn, 1) := by decide +kernel
theorem dX9_unit_60 : decode cX9_unit 60 = .ok (.aload_n 0, 1) := by decide +kernel
theorem dX9_unit_61 : decode cX9_unit 61 = .ok (.iconst 0, 1) := by decide +kernel
theorem dX9_unit_62 : decode cX9_unit 62 = .ok (.iconst 0, 1) := by decide +kernel
theorem dX9_unit_63 : decode cX9_unit 63 = .ok (.invokevirtual 219, 3) := by decide +kernel
theorem dX9_unit_66 : decode cX9_unit 66 = .ok (.istore_n 2, 1) := by decide +kernel
theorem dX9_unit_67 : decode cX9_unit 67 = .ok (.aload_n 0, 1) := by decide +kernel
theorem dX9_unit_68 : decode cX9_unit 68 = .ok (.bipush 41, 2) := by decide +kernel
theorem dX9_unit_70 : decode cX9_unit 70 = .ok (.invokevirtual 196, 3) := by decide +kernel
theorem dX9_unit_73 : decode cX9_unit 73 = .ok (.ifCond .ne 5, 3) := by decide +kernel
theorem dX9_unit_76 : decode cX9_unit 76 = .ok (.iconst 0, 1) := by decide +kernel
theorem dX9_unit_77 : decode cX9_unit 77 = .ok (.ireturn, 1) := by decide +kernel
theorem dX9_unit_78 : decode cX9_unit 78 = .ok (.aload_n 0, 1) := by decide +kernel
theorem dX9_unit_79 : decode cX9_unit 79 = .ok (.dup, 1) := by decide +kernel
theorem dX9_unit_80 : decode cX9_unit 80 = .ok (.getfield 163, 3) := by decide +kernel
theorem dX9_unit_83 : decode cX9_unit 83 = .ok (.iconst 1, 1) := by decide +kernel
theorem dX9_unit_84 : decode cX9_unit 84 = .ok (.isub, 1) := by decide +kernel
theorem dX9_unit_85 : decode cX9_unit 85 = .ok (.putfield 163, 3) := by decide +kernel
theorem dX9_unit_88 : decode cX9_unit 88 = .ok (.iload_n 2, 1) := by decide +kernel
theorem dX9_unit_89 : decode cX9_unit 89 = .ok (.ireturn, 1) := by decide +kernel
theorem dX9_unit_90 : decode cX9_unit 90 = .ok (.aload_n 0, 1) := by decide +kernel
theorem dX9_unit_91 : decode cX9_unit 91 = .ok (.iconst 0, 1) := by decide +kernel
theorem dX9_unit_92 : decode cX9_unit 92 = .ok (.iconst 0, 1) := by decide +kernel
theorem dX9_unit_93 : decode cX9_unit 93 = .ok (.invokevirtual 223, 3) := by decide +kernel
theorem dX9_unit_96 : decode cX9_unit 96 = .ok (.ireturn, 1) := by decide +kernel
theorem dX9_part_0 : decode cX9_part 0 = .ok (.iload_n 1, 1) := by decide +kernel
theorem dX9_part_1 : decode cX9_part 1 = .ok (.ifCond .eq 12, 3) := by decide +kernel
theorem dX9_part_4 : decode cX9_part 4 = .ok (.aload_n 0, 1) := by decide +kernel
theorem dX9_part_5 : decode cX9_part 5 = .ok (.iconst 1, 1) := by decide +kernel
theorem dX9_part_6 : decode cX9_part 6 = .ok (.iload_n 2, 1) := by decide +kernel
theorem dX9_part_7 : decode cX9_part 7 = .ok (.invokevirtual 223, 3) := by decide +kernel
theorem dX9_part_10 : decode cX9_part 10 = .ok (.goto 7, 3) := by decide +kernel
theorem dX9_part_13 : decode cX9_part 13 = .ok (.aload_n 0, 1) := by decide +kernel
theorem dX9_part_14 : decode cX9_part 14 = .ok (.invokevirtual 216, 3) := by decide +kernel
theorem dX9_part_17 : decode cX9_part 17 = .ok (.istore_n 3, 1) := by decide +kernel
theorem dX9_part_18 : decode cX9_part 18 = .ok (.aload_n 0, 1) := by decide +kernel
theorem dX9_part_19 : decode cX9_part 19 = .ok (.getfield 160, 3) := by decide +kernel
theorem dX9_part_22 : decode cX9_part 22 = .ok (.iconst (-1), 1) := by decide +kernel
theorem dX9_part_23 : decode cX9_part 23 = .ok (.if_icmp .ne 46, 3) := by decide +kernel
theorem dX9_part_26 : decode cX9_part 26 = .ok (.aload_n 0, 1) := by decide +kernel
theorem dX9_part_27 : decode cX9_part 27 = .ok (.invokevirtual 170, 3) := by decide +kernel
theorem dX9_part_30 : decode cX9_part 30 = .ok (.bipush 38, 2) := by decide +kernel
theorem dX9_part_32 : decode cX9_part 32 = .ok (.if_icmp .ne 37, 3) := by decide +kernel
theorem dX9_part_35 : decode cX9_part 35 = .ok (.aload_n 0, 1) := by decide +kernel
theorem dX9_part_36 : decode cX9_part 36 = .ok (.dup, 1) := by decide +kernel
theorem dX9_part_37 : decode cX9_part 37 = .ok (.getfield 151, 3) := by decide +kernel
theorem dX9_part_40 : decode cX9_part 40 = .ok (.iconst 1, 1) := by decide +kernel
theorem dX9_part_41 : decode cX9_part 41 = .ok (.iadd, 1) := by decide +kernel
theorem dX9_part_42 : decode cX9_part 42 = .ok (.putfield 151, 3) := by decide +kernel
theorem dX9_part_45 : decode cX9_part 45 = .ok (.aload_n 0, 1) := by decide +kernel
theorem dX9_part_46 : decode cX9_part 46 = .ok (.invokevirtual 216, 3) := by decide +kernel
theorem dX9_part_49 : decode cX9_part 49 = .ok (.istore 4, 2) := by decide +kernel
theorem dX9_part_51 : decode cX9_part 51 = .ok (.iload_n 3, 1) := by decide +kernel
theorem dX9_part_52 : decode cX9_part 52 = .ok (.ifCond .eq 12, 3) := by decide +kernel
theorem dX9_part_55 : decode cX9_part 55 = .ok (.iload 4, 2) := by decide +kernel
theorem dX9_part_57 : decode cX9_part 57 = .ok (.ifCond .eq 7, 3) := by decide +kernel
theorem dX9_part_60 : decode cX9_part 60 = .ok (.iconst 1, 1) := by decide +kernel
theorem dX9_part_61 : decode cX9_part 61 = .ok (.goto 4, 3) := by decide +kernel
theorem dX9_part_64 : decode cX9_part 64 = .ok (.iconst 0, 1) := by decide +kernel
theorem dX9_part_65 : decode cX9_part 65 = .ok (.istore_n 3, 1) := by decide +kernel
theorem dX9_part_66 : decode cX9_part 66 = .ok (.goto (-48), 3) := by decide +kernel
theorem dX9_part_69 : decode cX9_part 69 = .ok (.iload_n 3, 1) := by decide +kernel
theorem dX9_part_70 : decode cX9_part 70 = .ok (.ireturn, 1) := by decide +kernel
theorem dX9_condition_0 : decode cX9_condition 0 = .ok (.aload_n 0, 1) := by decide +kernel
theorem dX9_condition_1 : decode cX9_condition 1 = .ok (.iload_n 1, 1) := by decide +kernel
theorem dX9_condition_2 : decode cX9_condition 2 = .ok (.iload_n 2, 1) := by decide +kernel
theorem dX9_condition_3 : decode cX9_condition 3 = .ok (.invokevirtual 226, 3) := by decide +kernel
theorem dX9_condition_6 : decode cX9_condition 6 = .ok (.istore_n 3, 1) := by decide +kernel
theorem dX9_condition_7 : decode cX9_condition 7 = .ok (.aload_n 0, 1) := by decide +kernel
theorem dX9_condition_8 : decode cX9_condition 8 = .ok (.getfield 160, 3) := by decide +kernel
theorem dX9_condition_11 : decode cX9_condition 11 = .ok (.iconst (-1), 1) := by decide +kernel
theorem dX9_condition_12 : decode cX9_condition 12 = .ok (.if_icmp .ne 48, 3) := by decide +kernel
theorem dX9_condition_15 : decode cX9_condition 15 = .ok (.aload_n 0, 1) := by decide +kernel
theorem dX9_condition_16 : decode cX9_condition 16 = .ok (.invokevirtual 170, 3) := by decide +kernel
theorem dX9_condition_19 : decode cX9_condition 19 = .ok (.bipush 124, 2) := by decide +kernel
theorem dX9_condition_21 : decode cX9_condition 21 = .ok (.if_icmp .ne 39, 3) := by decide +kernel
theorem dX9_condition_24 : decode cX9_condition 24 = .ok (.aload_n 0, 1) := by decide +kernel
theorem dX9_condition_25 : decode cX9_condition 25 = .ok (.dup, 1) := by decide +kernel
theorem dX9_condition_26 : decode cX9_condition 26 = .ok (.getfield 151, 3) := by decide +kernel
theorem dX9_condition_29 : decode cX9_condition 29 = .ok (.iconst 1, 1) := by decide +kernel
theorem dX9_condition_30 : decode cX9_condition 30 = .ok (.iadd, 1) := by decide +kernel
theorem dX9_condition_31 : decode cX9_condition 31 = .ok (.putfield 151, 3) := by decide +kernel
theorem dX9_condition_34 : decode cX9_condition 34 = .ok (.aload_n 0, 1) := by decide +kernel
theorem dX9_condition_35 : decode cX9_condition 35 = .ok (.iconst 0, 1) := by decide +kernel
theorem dX9_condition_36 : decode cX9_condition 36 = .ok (.iconst 0, 1) := by decide +kernel
theorem dX9_condition_37 : decode cX9_condition 37 = .ok (.invokevirtual 226, 3) := by decide +kernel
theorem dX9_condition_40 : decode cX9_condition 40 = .ok (.istore 4, 2) := by decide +kernel
theorem dX9_condition_42 : decode cX9_condition 42 = .ok (.iload_n 3, 1) := by decide +kernel
theorem dX9_condition_43 : decode cX9_condition 43 = .ok (.ifCond .ne 8, 3) := by decide +kernel
theorem dX9_condition_46 : decode cX9_condition 46 = .ok (.iload 4, 2) := by decide +kernel
theorem dX9_condition_48 : decode cX9_condition 48 = .ok (.ifCond .eq 7, 3) := by decide +kernel
theorem dX9_condition_51 : decode cX9_condition 51 = .ok (.iconst 1, 1) := by decide +kernel
theorem dX9_condition_52 : decode cX9_condition 52 = .ok (.goto 4, 3) := by decide +kernel
theorem dX9_condition_55 : decode cX9_condition 55 = .ok (.iconst 0, 1) := by decide +kernel
theorem dX9_condition_56 : decode cX9_condition 56 = .ok (.istore_n 3, 1) := by decide +kernel
theorem dX9_condition_57 : decode cX9_condition 57 = .ok (.goto (-50), 3) := by decide +kernel
theorem dX9_condition_60 : decode cX9_condition 60 = .ok (.iload_n 3, 1) := by decide +kernel
theorem dX9_condition_61 : decode cX9_condition 61 = .ok (.ireturn, 1) := by decide +kernel
theorem dX9_clause_0 : decode cX9_clause 0 = .ok (.aload_n 0, 1) := by decide +kernel
theorem dX9_clause_1 : decode cX9_clause 1 = .ok (.invokevirtual 170, 3) := by decide +kernel
theorem dX9_clause_4 : decode cX9_clause 4 = .ok (.istore_n 1, 1) := by decide +kernel
theorem dX9_clause_5 : decode cX9_clause 5 = .ok (.ldc 26, 2) := by decide +kernel
theorem dX9_clause_7 : decode cX9_clause 7 = .ok (.iload_n 1, 1) := by decide +kernel
theorem dX9_clause_8 : decode cX9_clause 8 = .ok (.invokestatic 186, 3) := by decide +kernel
theorem dX9_clause_11 : decode cX9_clause 11 = .ok (.ifCond .ne 9, 3) := by decide +kernel
theorem dX9_clause_14 : decode cX9_clause 14 = .ok (.aload_n 0, 1) := by decide +kernel
theorem dX9_clause_15 : decode cX9_clause 15 = .ok (.invokevirtual 166, 3) := by decide +kernel
theorem dX9_clause_18 : decode cX9_clause 18 = .ok (.pop, 1) := by decide +kernel
theorem dX9_clause_19 : decode cX9_clause 19 = .ok (.return_, 1) := by decide +kernel
theorem dX9_clause_20 : decode cX9_clause 20 = .ok (.aload_n 0, 1) := by decide +kernel
theorem dX9_clause_21 : decode cX9_clause 21 = .ok (.dup, 1) := by decide +kernel
theorem dX9_clause_22 : decode cX9_clause 22 = .ok (.getfield 151, 3) := by decide +kernel
theorem dX9_clause_25 : decode cX9_clause 25 = .ok (.iconst 1, 1) := by decide +kernel
theorem dX9_clause_26 : decode cX9_clause 26 = .ok (.iadd, 1) := by decide +kernel
theorem dX9_clause_27 : decode cX9_clause 27 = .ok (.putfield 151, 3) := by decide +kernel
theorem dX9_clause_30 : decode cX9_clause 30 = .ok (.aload_n 0, 1) := by decide +kernel
theorem dX9_clause_31 : decode cX9_clause 31 = .ok (.bipush 58, 2) := by decide +kernel
theorem dX9_clause_33 : decode cX9_clause 33 = .ok (.invokevirtual 196, 3) := by decide +kernel
theorem dX9_clause_36 : decode cX9_clause 36 = .ok (.ifCond .ne 4, 3) := by decide +kernel
theorem dX9_clause_39 : decode cX9_clause 39 = .ok (.return_, 1) := by decide +kernel
theorem dX9_clause_40 : decode cX9_clause 40 = .ok (.iconst 1, 1) := by decide +kernel
theorem dX9_clause_41 : decode cX9_clause 41 = .ok (.istore_n 2, 1) := by decide +kernel
theorem dX9_clause_42 : decode cX9_clause 42 = .ok (.iconst 0, 1) := by decide +kernel
theorem dX9_clause_43 : decode cX9_clause 43 = .ok (.istore_n 3, 1) := by decide +kernel
theorem dX9_clause_44 : decode cX9_clause 44 = .ok (.aload_n 0, 1) := by decide +kernel
theorem dX9_clause_45 : decode cX9_clause 45 = .ok (.invokevirtual 170, 3) := by decide +kernel
theorem dX9_clause_48 : decode cX9_clause 48 = .ok (.istore 4, 2) := by decide +kernel
theorem dX9_clause_50 : decode cX9_clause 50 = .ok (.iload 4, 2) := by decide +kernel
theorem dX9_clause_52 : decode cX9_clause 52 = .ok (.bipush 33, 2) := by decide +kernel
theorem dX9_clause_54 : decode cX9_clause 54 = .ok (.if_icmp .eq 10, 3) := by decide +kernel
theorem dX9_clause_57 : decode cX9_clause 57 = .ok (.iload 4, 2) := by decide +kernel
theorem dX9_clause_59 : decode cX9_clause 59 = .ok (.bipush 40, 2) := by decide +kernel
theorem dX9_clause_61 : decode cX9_clause 61 = .ok (.if_icmp .ne 28, 3) := by decide +kernel
theorem dX9_clause_64 : decode cX9_clause 64 = .ok (.aload_n 0, 1) := by decide +kernel
theorem dX9_clause_65 : decode cX9_clause 65 = .ok (.iconst 0, 1) := by decide +kernel
theorem dX9_clause_66 : decode cX9_clause 66 = .ok (.iconst 0, 1) := by decide +kernel
theorem dX9_clause_67 : decode cX9_clause 67 = .ok (.invokevirtual 219, 3) := by decide +kernel
theorem dX9_clause_70 : decode cX9_clause 70 = .ok (.istore_n 2, 1) := by decide +kernel
theorem dX9_clause_71 : decode cX9_clause 71 = .ok (.aload_n 0, 1) := by decide +kernel
theorem dX9_clause_72 : decode cX9_clause 72 = .ok (.bipush 63, 2) := by decide +kernel
theorem dX9_clause_74 : decode cX9_clause 74 = .ok (.invokevirtual 196, 3) := by decide +kernel
theorem dX9_clause_77 : decode cX9_clause 77 = .ok (.ifCond .ne 4, 3) := by decide +kernel
theorem dX9_clause_80 : decode cX9_clause 80 = .ok (.return_, 1) := by decide +kernel
theorem dX9_clause_81 : decode cX9_clause 81 = .ok (.aload_n 0, 1) := by decide +kernel
theorem dX9_clause_82 : decode cX9_clause 82 = .ok (.invokevirtual 193, 3) := by decide +kernel
theorem dX9_clause_85 : decode cX9_clause 85 = .ok (.istore_n 3, 1) := by decide +kernel
theorem dX9_clause_86 : decode cX9_clause 86 = .ok (.goto 48, 3) := by decide +kernel
theorem dX9_clause_89 : decode cX9_clause 89 = .ok (.aload_n 0, 1) := by decide +kernel
theorem dX9_clause_90 : decode cX9_clause 90 = .ok (.invokevirtual 193, 3) := by decide +kernel
theorem dX9_clause_93 : decode cX9_clause 93 = .ok (.istore_n 3, 1) := by decide +kernel
theorem dX9_clause_94 : decode cX9_clause 94 = .ok (.aload_n 0, 1) := by decide +kernel
theorem dX9_clause_95 : decode cX9_clause 95 = .ok (.getfield 160, 3) := by decide +kernel
theorem dX9_clause_98 : decode cX9_clause 98 = .ok (.iconst (-1), 1) := by decide +kernel
theorem dX9_clause_99 : decode cX9_clause 99 = .ok (.if_icmp .ne 35, 3) := by decide +kernel
theorem dX9_clause_102 : decode cX9_clause 102 = .ok (.aload_n 0, 1) := by decide +kernel
theorem dX9_clause_103 : decode cX9_clause 103 = .ok (.invokevirtual 170, 3) := by decide +kernel
theorem dX9_clause_106 : decode cX9_clause 106 = .ok (.invokestatic 213, 3) := by decide +kernel
theorem dX9_clause_109 : decode cX9_clause 109 = .ok (.ifCond .eq 25, 3) := by decide +kernel
theorem dX9_clause_112 : decode cX9_clause 112 = .ok (.aload_n 0, 1) := by decide +kernel
theorem dX9_clause_113 : decode cX9_clause 113 = .ok (.iconst 1, 1) := by decide +kernel
theorem dX9_clause_114 : decode cX9_clause 114 = .ok (.iload_n 3, 1) := by decide +kernel
theorem dX9_clause_115 : decode cX9_clause 115 = .ok (.invokevirtual 219, 3) := by decide +kernel
theorem dX9_clause_118 : decode cX9_clause 118 = .ok (.istore_n 2, 1) := by decide +kernel
theorem dX9_clause_119 : decode cX9_clause 119 = .ok (.aload_n 0, 1) := by decide +kernel
theorem dX9_clause_120 : decode cX9_clause 120 = .ok (.bipush 63, 2) := by decide +kernel
theorem dX9_clause_122 : decode cX9_clause 122 = .ok (.invokevirtual 196, 3) := by decide +kernel
theorem dX9_clause_125 : decode cX9_clause 125 = .ok (.ifCond .ne 4, 3) := by decide +kernel
theorem dX9_clause_128 : decode cX9_clause 128 = .ok (.return_, 1) := by decide +kernel
theorem dX9_clause_129 : decode cX9_clause 129 = .ok (.aload_n 0, 1) := by decide +kernel
theorem dX9_clause_130 : decode cX9_clause 130 = .ok (.invokevirtual 193, 3) := by decide +kernel
theorem dX9_clause_133 : decode cX9_clause 133 = .ok (.istore_n 3, 1) := by decide +kernel
theorem dX9_clause_134 : decode cX9_clause 134 = .ok (.aload_n 0, 1) := by decide +kernel
theorem dX9_clause_135 : decode cX9_clause 135 = .ok (.getfield 160, 3) := by decide +kernel
theorem dX9_clause_138 : decode cX9_clause 138 = .ok (.iconst (-1), 1) := by decide +kernel
theorem dX9_clause_139 : decode cX9_clause 139 = .ok (.if_icmp .ne 22, 3) := by decide +kernel
theorem dX9_clause_142 : decode cX9_clause 142 = .ok (.aload_n 0, 1) := by decide +kernel
theorem dX9_clause_143 : decode cX9_clause 143 = .ok (.getfield 229, 3) := by decide +kernel
theorem dX9_clause_146 : decode cX9_clause 146 = .ok (.ifCond .ne 15, 3) := by decide +kernel
