theorem dX1_init_0 : decode cX1_init 0 = .ok (.aload_n 0, 1) := by decide +kernel
theorem dX1_init_1 : decode cX1_init 1 = .ok (.invokespecial 3, 3) := by decide +kernel
theorem dX1_init_4 : decode cX1_init 4 = .ok (.iload_n 2, 1) := by decide +kernel
theorem dX1_init_5 : decode cX1_init 5 = .ok (.ifCond .ge 7, 3) := by decide +kernel
theorem dX1_init_8 : decode cX1_init 8 = .ok (.iconst 0, 1) := by decide +kernel
theorem dX1_init_9 : decode cX1_init 9 = .ok (.goto 15, 3) := by decide +kernel
theorem dX1_init_12 : decode cX1_init 12 = .ok (.iload_n 2, 1) := by decide +kernel
theorem dX1_init_13 : decode cX1_init 13 = .ok (.aload_n 1, 1) := by decide +kernel
theorem dX1_init_14 : decode cX1_init 14 = .ok (.arraylength, 1) := by decide +kernel
theorem dX1_init_15 : decode cX1_init 15 = .ok (.if_icmp .le 8, 3) := by decide +kernel
theorem dX1_init_18 : decode cX1_init 18 = .ok (.aload_n 1, 1) := by decide +kernel
theorem dX1_init_19 : decode cX1_init 19 = .ok (.arraylength, 1) := by decide +kernel
theorem dX1_init_20 : decode cX1_init 20 = .ok (.goto 4, 3) := by decide +kernel
theorem dX1_init_23 : decode cX1_init 23 = .ok (.iload_n 2, 1) := by decide +kernel
theorem dX1_init_24 : decode cX1_init 24 = .ok (.istore_n 3, 1) := by decide +kernel
theorem dX1_init_25 : decode cX1_init 25 = .ok (.aload_n 0, 1) := by decide +kernel
theorem dX1_init_26 : decode cX1_init 26 = .ok (.aload_n 1, 1) := by decide +kernel
theorem dX1_init_27 : decode cX1_init 27 = .ok (.iload_n 3, 1) := by decide +kernel
theorem dX1_init_28 : decode cX1_init 28 = .ok (.invokestatic 9, 3) := by decide +kernel
theorem dX1_init_31 : decode cX1_init 31 = .ok (.putfield 15, 3) := by decide +kernel
theorem dX1_init_34 : decode cX1_init 34 = .ok (.aload_n 0, 1) := by decide +kernel
theorem dX1_init_35 : decode cX1_init 35 = .ok (.iload_n 3, 1) := by decide +kernel
theorem dX1_init_36 : decode cX1_init 36 = .ok (.iconst 1, 1) := by decide +kernel
theorem dX1_init_37 : decode cX1_init 37 = .ok (.iadd, 1) := by decide +kernel
theorem dX1_init_38 : decode cX1_init 38 = .ok (.newarray .int, 2) := by decide +kernel
theorem dX1_init_40 : decode cX1_init 40 = .ok (.putfield 21, 3) := by decide +kernel
theorem dX1_init_43 : decode cX1_init 43 = .ok (.return_, 1) := by decide +kernel
theorem dX1_worth_0 : decode cX1_worth 0 = .ok (.iconst 0, 1) := by decide +kernel
theorem dX1_worth_1 : decode cX1_worth 1 = .ok (.istore 5, 2) := by decide +kernel
theorem dX1_worth_3 : decode cX1_worth 3 = .ok (.iconst 0, 1) := by decide +kernel
theorem dX1_worth_4 : decode cX1_worth 4 = .ok (.istore 6, 2) := by decide +kernel
theorem dX1_worth_6 : decode cX1_worth 6 = .ok (.iconst 0, 1) := by decide +kernel
theorem dX1_worth_7 : decode cX1_worth 7 = .ok (.istore 7, 2) := by decide +kernel
theorem dX1_worth_9 : decode cX1_worth 9 = .ok (.iload 7, 2) := by decide +kernel
theorem dX1_worth_11 : decode cX1_worth 11 = .ok (.aload_n 0, 1) := by decide +kernel
theorem dX1_worth_12 : decode cX1_worth 12 = .ok (.getfield 15, 3) := by decide +kernel
theorem dX1_worth_15 : decode cX1_worth 15 = .ok (.arraylength, 1) := by decide +kernel
theorem dX1_worth_16 : decode cX1_worth 16 = .ok (.if_icmp .ge 237, 3) := by decide +kernel
theorem dX1_worth_19 : decode cX1_worth 19 = .ok (.aload_n 0, 1) := by decide +kernel
theorem dX1_worth_20 : decode cX1_worth 20 = .ok (.getfield 15, 3) := by decide +kernel
theorem dX1_worth_23 : decode cX1_worth 23 = .ok (.iload 7, 2) := by decide +kernel
theorem dX1_worth_25 : decode cX1_worth 25 = .ok (.iaload, 1) := by decide +kernel
theorem dX1_worth_26 : decode cX1_worth 26 = .ok (.ineg, 1) := by decide +kernel
theorem dX1_worth_27 : decode cX1_worth 27 = .ok (.istore 8, 2) := by decide +kernel
theorem dX1_worth_29 : decode cX1_worth 29 = .ok (.iload 6, 2) := by decide +kernel
theorem dX1_worth_31 : decode cX1_worth 31 = .ok (.ifCond .eq 20, 3) := by decide +kernel
theorem dX1_worth_34 : decode cX1_worth 34 = .ok (.iload 8, 2) := by decide +kernel
theorem dX1_worth_36 : decode cX1_worth 36 = .ok (.bipush 59, 2) := by decide +kernel
theorem dX1_worth_38 : decode cX1_worth 38 = .ok (.if_icmp .eq 7, 3) := by decide +kernel
theorem dX1_worth_41 : decode cX1_worth 41 = .ok (.iconst 1, 1) := by decide +kernel
theorem dX1_worth_42 : decode cX1_worth 42 = .ok (.goto 4, 3) := by decide +kernel
theorem dX1_worth_45 : decode cX1_worth 45 = .ok (.iconst 0, 1) := by decide +kernel
theorem dX1_worth_46 : decode cX1_worth 46 = .ok (.istore 6, 2) := by decide +kernel
theorem dX1_worth_48 : decode cX1_worth 48 = .ok (.goto 199, 3) := by decide +kernel
theorem dX1_worth_51 : decode cX1_worth 51 = .ok (.iload 8, 2) := by decide +kernel
theorem dX1_worth_53 : decode cX1_worth 53 = .ok (.bipush 59, 2) := by decide +kernel
theorem dX1_worth_55 : decode cX1_worth 55 = .ok (.if_icmp .ne 22, 3) := by decide +kernel
theorem dX1_worth_58 : decode cX1_worth 58 = .ok (.iload 5, 2) := by decide +kernel
theorem dX1_worth_60 : decode cX1_worth 60 = .ok (.ifCond .le 15, 3) := by decide +kernel
theorem dX1_worth_63 : decode cX1_worth 63 = .ok (.aload_n 0, 1) := by decide +kernel
theorem dX1_worth_64 : decode cX1_worth 64 = .ok (.getfield 21, 3) := by decide +kernel
theorem dX1_worth_67 : decode cX1_worth 67 = .ok (.iload 5, 2) := by decide +kernel
theorem dX1_worth_69 : decode cX1_worth 69 = .ok (.iconst 1, 1) := by decide +kernel
theorem dX1_worth_70 : decode cX1_worth 70 = .ok (.isub, 1) := by decide +kernel
theorem dX1_worth_71 : decode cX1_worth 71 = .ok (.iaload, 1) := by decide +kernel
theorem dX1_worth_72 : decode cX1_worth 72 = .ok (.goto 4, 3) := by decide +kernel
theorem dX1_worth_75 : decode cX1_worth 75 = .ok (.iconst 0, 1) := by decide +kernel
theorem dX1_worth_76 : decode cX1_worth 76 = .ok (.ireturn, 1) := by decide +kernel
theorem dX1_worth_77 : decode cX1_worth 77 = .ok (.iload 8, 2) := by decide +kernel
theorem dX1_worth_79 : decode cX1_worth 79 = .ok (.bipush 63, 2) := by decide +kernel
theorem dX1_worth_81 : decode cX1_worth 81 = .ok (.if_icmp .ne 33, 3) := by decide +kernel
theorem dX1_worth_84 : decode cX1_worth 84 = .ok (.iload 5, 2) := by decide +kernel
theorem dX1_worth_86 : decode cX1_worth 86 = .ok (.ifCond .le 19, 3) := by decide +kernel
theorem dX1_worth_89 : decode cX1_worth 89 = .ok (.aload_n 0, 1) := by decide +kernel
theorem dX1_worth_90 : decode cX1_worth 90 = .ok (.getfield 21, 3) := by decide +kernel
theorem dX1_worth_93 : decode cX1_worth 93 = .ok (.iload 5, 2) := by decide +kernel
theorem dX1_worth_95 : decode cX1_worth 95 = .ok (.iconst 1, 1) := by decide +kernel
theorem dX1_worth_96 : decode cX1_worth 96 = .ok (.isub, 1) := by decide +kernel
theorem dX1_worth_97 : decode cX1_worth 97 = .ok (.iaload, 1) := by decide +kernel
theorem dX1_worth_98 : decode cX1_worth 98 = .ok (.ifCond .ne 7, 3) := by decide +kernel
theorem dX1_worth_101 : decode cX1_worth 101 = .ok (.iconst 1, 1) := by decide +kernel
theorem dX1_worth_102 : decode cX1_worth 102 = .ok (.goto 4, 3) := by decide +kernel
theorem dX1_worth_105 : decode cX1_worth 105 = .ok (.iconst 0, 1) := by decide +kernel
theorem dX1_worth_106 : decode cX1_worth 106 = .ok (.istore 6, 2) := by decide +kernel
theorem dX1_worth_108 : decode cX1_worth 108 = .ok (.iconst 0, 1) := by decide +kernel
theorem dX1_worth_109 : decode cX1_worth 109 = .ok (.istore 5, 2) := by decide +kernel
theorem dX1_worth_111 : decode cX1_worth 111 = .ok (.goto 136, 3) := by decide +kernel
theorem dX1_worth_114 : decode cX1_worth 114 = .ok (.iload 8, 2) := by decide +kernel
theorem dX1_worth_116 : decode cX1_worth 116 = .ok (.bipush 33, 2) := by decide +kernel
theorem dX1_worth_118 : decode cX1_worth 118 = .ok (.if_icmp .ne 31, 3) := by decide +kernel
theorem dX1_worth_121 : decode cX1_worth 121 = .ok (.iload 5, 2) := by decide +kernel
theorem dX1_worth_123 : decode cX1_worth 123 = .ok (.ifCond .le 124, 3) := by decide +kernel
theorem dX1_worth_126 : decode cX1_worth 126 = .ok (.aload_n 0, 1) := by decide +kernel
theorem dX1_worth_127 : decode cX1_worth 127 = .ok (.getfield 21, 3) := by decide +kernel
theorem dX1_worth_130 : decode cX1_worth 130 = .ok (.iload 5, 2) := by decide +kernel
theorem dX1_worth_132 : decode cX1_worth 132 = .ok (.iconst 1, 1) := by decide +kernel
theorem dX1_worth_133 : decode cX1_worth 133 = .ok (.isub, 1) := by decide +kernel
theorem dX1_worth_134 : decode cX1_worth 134 = .ok (.iconst 1, 1) := by decide +kernel
theorem dX1_worth_135 : decode cX1_worth 135 = .ok (.aload_n 0, 1) := by decide +kernel
theorem dX1_worth_136 : decode cX1_worth 136 = .ok (.getfield 21, 3) := by decide +kernel
theorem dX1_worth_139 : decode cX1_worth 139 = .ok (.iload 5, 2) := by decide +kernel
theorem dX1_worth_141 : decode cX1_worth 141 = .ok (.iconst 1, 1) := by decide +kernel
theorem dX1_worth_142 : decode cX1_worth 142 = .ok (.isub, 1) := by decide +kernel
theorem dX1_worth_143 : decode cX1_worth 143 = .ok (.iaload, 1) := by decide +kernel
theorem dX1_worth_144 : decode cX1_worth 144 = .ok (.isub, 1) := by decide +kernel
theorem dX1_worth_145 : decode cX1_worth 145 = .ok (.iastore, 1) := by decide +kernel
theorem dX1_worth_146 : decode cX1_worth 146 = .ok (.goto 101, 3) := by decide +kernel
theorem dX1_worth_149 : decode cX1_worth 149 = .ok (.iload 8, 2) := by decide +kernel
theorem dX1_worth_151 : decode cX1_worth 151 = .ok (.invokestatic 24, 3) := by decide +kernel
theorem dX1_worth_154 : decode cX1_worth 154 = .ok (.ifCond .ne 47, 3) := by decide +kernel
theorem dX1_worth_157 : decode cX1_worth 157 = .ok (.iload 5, 2) := by decide +kernel
theorem dX1_worth_159 : decode cX1_worth 159 = .ok (.aload_n 0, 1) := by decide +kernel
theorem dX1_worth_160 : decode cX1_worth 160 = .ok (.getfield 21, 3) := by decide +kernel
theorem dX1_worth_163 : decode cX1_worth 163 = .ok (.arraylength, 1) := by decide +kernel
theorem dX1_worth_164 : decode cX1_worth 164 = .ok (.if_icmp .ge 83, 3) := by decide +kernel
theorem dX1_worth_167 : decode cX1_worth 167 = .ok (.aload_n 0, 1) := by decide +kernel
theorem dX1_worth_168 : decode cX1_worth 168 = .ok (.getfield 21, 3) := by decide +kernel
theorem dX1_worth_171 : decode cX1_worth 171 = .ok (.iload 5, 2) := by decide +kernel
theorem dX1_worth_173 : decode cX1_worth 173 = .ok (.iload 8, 2) := by decide +kernel
theorem dX1_worth_175 : decode cX1_worth 175 = .ok (.ifCond .gt 9, 3) := by decide +kernel
theorem dX1_worth_178 : decode cX1_worth 178 = .ok (.iload 8, 2) := by decide +kernel
theorem dX1_worth_180 : decode cX1_worth 180 = .ok (.ineg, 1) := by decide +kernel
theorem dX1_worth_181 : decode cX1_worth 181 = .ok (.goto 13, 3) := by decide +kernel
theorem dX1_worth_184 : decode cX1_worth 184 = .ok (.iload 8, 2) := by decide +kernel
theorem dX1_worth_186 : decode cX1_worth 186 = .ok (.iload_n 1, 1) := by decide +kernel
theorem dX1_worth_187 : decode cX1_worth 187 = .ok (.iload_n 2, 1) := by decide +kernel
theorem dX1_worth_188 : decode cX1_worth 188 = .ok (.iload_n 3, 1) := by decide +kernel
theorem dX1_worth_189 : decode cX1_worth 189 = .ok (.iload 4, 2) := by decide +kernel
theorem dX1_worth_191 : decode cX1_worth 191 = .ok (.invokestatic 28, 3) := by decide +kernel
theorem dX1_worth_194 : decode cX1_worth 194 = .ok (.iastore, 1) := by decide +kernel
theorem dX1_worth_195 : decode cX1_worth 195 = .ok (.iinc 5 1, 3) := by decide +kernel
theorem dX1_worth_198 : decode cX1_worth 198 = .ok (.goto 49, 3) := by decide +kernel
theorem dX1_worth_201 : decode cX1_worth 201 = .ok (.iload 5, 2) := by decide +kernel
theorem dX1_worth_203 : decode cX1_worth 203 = .ok (.iconst 1, 1) := by decide +kernel
theorem dX1_worth_204 : decode cX1_worth 204 = .ok (.if_icmp .le 43, 3) := by decide +kernel
theorem dX1_worth_207 : decode cX1_worth 207 = .ok (.aload_n 0, 1) := by decide +kernel
theorem dX1_worth_208 : decode cX1_worth 208 = .ok (.getfield 21, 3) := by decide +kernel
theorem dX1_worth_211 : decode cX1_worth 211 = .ok (.iload 5, 2) := by decide +kernel
theorem dX1_worth_213 : decode cX1_worth 213 = .ok (.iconst 2, 1) := by decide +kernel
theorem dX1_worth_214 : decode cX1_worth 214 = .ok (.isub, 1) := by decide +kernel
theorem dX1_worth_215 : decode cX1_worth 215 = .ok (.iload 8, 2) := by decide +kernel
theorem dX1_worth_217 : decode cX1_worth 217 = .ok (.aload_n 0, 1) := by decide +kernel
theorem dX1_worth_218 : decode cX1_worth 218 = .ok (.getfield 21, 3) := by decide +kernel
theorem dX1_worth_221 : decode cX1_worth 221 = .ok (.iload 5, 2) := by decide +kernel
theorem dX1_worth_223 : decode cX1_worth 223 = .ok (.iconst 2, 1) := by decide +kernel
theorem dX1_worth_224 : decode cX1_worth 224 = .ok (.isub, 1) := by decide +kernel
theorem dX1_worth_225 : decode cX1_worth 225 = .ok (.iaload, 1) := by decide +kernel
theorem dX1_worth_226 : decode cX1_worth 226 = .ok (.i2l, 1) := by decide +kernel
theorem dX1_worth_227 : decode cX1_worth 227 = .ok (.aload_n 0, 1) := by decide +kernel
theorem dX1_worth_228 : decode cX1_worth 228 = .ok (.getfield 21, 3) := by decide +kernel
theorem dX1_worth_231 : decode cX1_worth 231 = .ok (.iload 5, 2) := by decide +kernel
theorem dX1_worth_233 : decode cX1_worth 233 = .ok (.iconst 1, 1) := by decide +kernel
theorem dX1_worth_234 : decode cX1_worth 234 = .ok (.isub, 1) := by decide +kernel
theorem dX1_worth_235 : decode cX1_worth 235 = .ok (.iaload, 1) := by decide +kernel
theorem dX1_worth_236 : decode cX1_worth 236 = .ok (.i2l, 1) := by decide +kernel
theorem dX1_worth_237 : decode cX1_worth 237 = .ok (.invokestatic 32, 3) := by decide +kernel
theorem dX1_worth_240 : decode cX1_worth 240 = .ok (.invokestatic 36, 3) := by decide +kernel
theorem dX1_worth_243 : decode cX1_worth 243 = .ok (.iastore, 1) := by decide +kernel
theorem dX1_worth_244 : decode cX1_worth 244 = .ok (.iinc 5 (-1), 3) := by decide +kernel
theorem dX1_worth_247 : decode cX1_worth 247 = .ok (.iinc 7 1, 3) := by decide +kernel
theorem dX1_worth_250 : decode cX1_worth 250 = .ok (.goto (-241), 3) := by decide +kernel
theorem dX1_worth_253 : decode cX1_worth 253 = .ok (.iconst 0, 1) := by decide +kernel
theorem dX1_worth_254 : decode cX1_worth 254 = .ok (.ireturn, 1) := by decide +kernel
theorem dX1_joins_0 : decode cX1_joins 0 = .ok (.iload_n 0, 1) := by decide +kernel
theorem dX1_joins_1 : decode cX1_joins 1 = .ok (.lookupswitch 85 #[(38, 83), (42, 83), (43, 83), (45, 83), (47, 83), (60, 83), (61, 83), (62, 83), (124, 83)], 83) := by decide +kernel
theorem dX1_joins_84 : decode cX1_joins 84 = .ok (.iconst 1, 1) := by decide +kernel
theorem dX1_joins_85 : decode cX1_joins 85 = .ok (.ireturn, 1) := by decide +kernel
theorem dX1_joins_86 : decode cX1_joins 86 = .ok (.iconst 0, 1) := by decide +kernel
theorem dX1_joins_87 : decode cX1_joins 87 = .ok (.ireturn, 1) := by decide +kernel
theorem dX1_letter_0 : decode cX1_letter 0 = .ok (.iload_n 0, 1) := by decide +kernel
theorem dX1_letter_1 : decode cX1_letter 1 = .ok (.tableswitch 92 105 116 #[90, 92, 92, 85, 92, 63, 92, 92, 92, 92, 67, 65], 63) := by decide +kernel
theorem dX1_letter_64 : decode cX1_letter 64 = .ok (.iload_n 1, 1) := by decide +kernel
theorem dX1_letter_65 : decode cX1_letter 65 = .ok (.ireturn, 1) := by decide +kernel
theorem dX1_letter_66 : decode cX1_letter 66 = .ok (.iload_n 2, 1) := by decide +kernel
theorem dX1_letter_67 : decode cX1_letter 67 = .ok (.ireturn, 1) := by decide +kernel
theorem dX1_letter_68 : decode cX1_letter 68 = .ok (.iload_n 1, 1) := by decide +kernel
theorem dX1_letter_69 : decode cX1_letter 69 = .ok (.bipush 100, 2) := by decide +kernel
theorem dX1_letter_71 : decode cX1_letter 71 = .ok (.idiv, 1) := by decide +kernel
theorem dX1_letter_72 : decode cX1_letter 72 = .ok (.iload_n 1, 1) := by decide +kernel
theorem dX1_letter_73 : decode cX1_letter 73 = .ok (.bipush 10, 2) := by decide +kernel
theorem dX1_letter_75 : decode cX1_letter 75 = .ok (.idiv, 1) := by decide +kernel
theorem dX1_letter_76 : decode cX1_letter 76 = .ok (.bipush 10, 2) := by decide +kernel
theorem dX1_letter_78 : decode cX1_letter 78 = .ok (.irem, 1) := by decide +kernel
theorem dX1_letter_79 : decode cX1_letter 79 = .ok (.iadd, 1) := by decide +kernel
theorem dX1_letter_80 : decode cX1_letter 80 = .ok (.iload_n 1, 1) := by decide +kernel
theorem dX1_letter_81 : decode cX1_letter 81 = .ok (.bipush 10, 2) := by decide +kernel
theorem dX1_letter_83 : decode cX1_letter 83 = .ok (.irem, 1) := by decide +kernel
theorem dX1_letter_84 : decode cX1_letter 84 = .ok (.iadd, 1) := by decide +kernel
theorem dX1_letter_85 : decode cX1_letter 85 = .ok (.ireturn, 1) := by decide +kernel
theorem dX1_letter_86 : decode cX1_letter 86 = .ok (.iload_n 1, 1) := by decide +kernel
theorem dX1_letter_87 : decode cX1_letter 87 = .ok (.bipush 10, 2) := by decide +kernel
theorem dX1_letter_89 : decode cX1_letter 89 = .ok (.irem, 1) := by decide +kernel
theorem dX1_letter_90 : decode cX1_letter 90 = .ok (.ireturn, 1) := by decide +kernel
theorem dX1_letter_91 : decode cX1_letter 91 = .ok (.iload_n 3, 1) := by decide +kernel
theorem dX1_letter_92 : decode cX1_letter 92 = .ok (.ireturn, 1) := by decide +kernel
theorem dX1_letter_93 : decode cX1_letter 93 = .ok (.iload 4, 2) := by decide +kernel
theorem dX1_letter_95 : decode cX1_letter 95 = .ok (.ireturn, 1) := by decide +kernel
theorem dX1_joined_0 : decode cX1_joined 0 = .ok (.iload_n 0, 1) := by decide +kernel
theorem dX1_joined_1 : decode cX1_joined 1 = .ok (.tableswitch 181 38 62 #[177, 181, 181, 181, 123, 115, 181, 119, 181, 127, 181, 181, 181, 181, 181, 181, 181, 181, 181, 181, 181, 181, 153, 141, 165], 115) := by decide +kernel
theorem dX1_joined_116 : decode cX1_joined 116 = .ok (.lload_n 1, 1) := by decide +kernel
theorem dX1_joined_117 : decode cX1_joined 117 = .ok (.lload_n 3, 1) := by decide +kernel
theorem dX1_joined_118 : decode cX1_joined 118 = .ok (.ladd, 1) := by decide +kernel
theorem dX1_joined_119 : decode cX1_joined 119 = .ok (.lreturn, 1) := by decide +kernel
theorem dX1_joined_120 : decode cX1_joined 120 = .ok (.lload_n 1, 1) := by decide +kernel
theorem dX1_joined_121 : decode cX1_joined 121 = .ok (.lload_n 3, 1) := by decide +kernel
theorem dX1_joined_122 : decode cX1_joined 122 = .ok (.lsub, 1) := by decide +kernel
theorem dX1_joined_123 : decode cX1_joined 123 = .ok (.lreturn, 1) := by decide +kernel
theorem dX1_joined_124 : decode cX1_joined 124 = .ok (.lload_n 1, 1) := by decide +kernel
theorem dX1_joined_125 : decode cX1_joined 125 = .ok (.lload_n 3, 1) := by decide +kernel
theorem dX1_joined_126 : decode cX1_joined 126 = .ok (.lmul, 1) := by decide +kernel
theorem dX1_joined_127 : decode cX1_joined 127 = .ok (.lreturn, 1) := by decide +kernel
theorem dX1_joined_128 : decode cX1_joined 128 = .ok (.lload_n 3, 1) := by decide +kernel
theorem dX1_joined_129 : decode cX1_joined 129 = .ok (.lconst 0, 1) := by decide +kernel
theorem dX1_joined_130 : decode cX1_joined 130 = .ok (.lcmp, 1) := by decide +kernel
theorem dX1_joined_131 : decode cX1_joined 131 = .ok (.ifCond .ne 7, 3) := by decide +kernel
theorem dX1_joined_134 : decode cX1_joined 134 = .ok (.lconst 0, 1) := by decide +kernel
theorem dX1_joined_135 : decode cX1_joined 135 = .ok (.goto 6, 3) := by decide +kernel
theorem dX1_joined_138 : decode cX1_joined 138 = .ok (.lload_n 1, 1) := by decide +kernel
theorem dX1_joined_139 : decode cX1_joined 139 = .ok (.lload_n 3, 1) := by decide +kernel
theorem dX1_joined_140 : decode cX1_joined 140 = .ok (.ldiv, 1) := by decide +kernel
theorem dX1_joined_141 : decode cX1_joined 141 = .ok (.lreturn, 1) := by decide +kernel
theorem dX1_joined_142 : decode cX1_joined 142 = .ok (.lload_n 1, 1) := by decide +kernel
theorem dX1_joined_143 : decode cX1_joined 143 = .ok (.lload_n 3, 1) := by decide +kernel
theorem dX1_joined_144 : decode cX1_joined 144 = .ok (.lcmp, 1) := by decide +kernel
theorem dX1_joined_145 : decode cX1_joined 145 = .ok (.ifCond .ne 7, 3) := by decide +kernel
theorem dX1_joined_148 : decode cX1_joined 148 = .ok (.lconst 1, 1) := by decide +kernel
theorem dX1_joined_149 : decode cX1_joined 149 = .ok (.goto 4, 3) := by decide +kernel
theorem dX1_joined_152 : decode cX1_joined 152 = .ok (.lconst 0, 1) := by decide +kernel
theorem dX1_joined_153 : decode cX1_joined 153 = .ok (.lreturn, 1) := by decide +kernel
theorem dX1_joined_154 : decode cX1_joined 154 = .ok (.lload_n 1, 1) := by decide +kernel
theorem dX1_joined_155 : decode cX1_joined 155 = .ok (.lload_n 3, 1) := by decide +kernel
theorem dX1_joined_156 : decode cX1_joined 156 = .ok (.lcmp, 1) := by decide +kernel
theorem dX1_joined_157 : decode cX1_joined 157 = .ok (.ifCond .ge 7, 3) := by decide +kernel
theorem dX1_joined_160 : decode cX1_joined 160 = .ok (.lconst 1, 1) := by decide +kernel
theorem dX1_joined_161 : decode cX1_joined 161 = .ok (.goto 4, 3) := by decide +kernel
theorem dX1_joined_164 : decode cX1_joined 164 = .ok (.lconst 0, 1) := by decide +kernel
theorem dX1_joined_165 : decode cX1_joined 165 = .ok (.lreturn, 1) := by decide +kernel
theorem dX1_joined_166 : decode cX1_joined 166 = .ok (.lload_n 1, 1) := by decide +kernel
theorem dX1_joined_167 : decode cX1_joined 167 = .ok (.lload_n 3, 1) := by decide +kernel
theorem dX1_joined_168 : decode cX1_joined 168 = .ok (.lcmp, 1) := by decide +kernel
theorem dX1_joined_169 : decode cX1_joined 169 = .ok (.ifCond .le 7, 3) := by decide +kernel
theorem dX1_joined_172 : decode cX1_joined 172 = .ok (.lconst 1, 1) := by decide +kernel
theorem dX1_joined_173 : decode cX1_joined 173 = .ok (.goto 4, 3) := by decide +kernel
theorem dX1_joined_176 : decode cX1_joined 176 = .ok (.lconst 0, 1) := by decide +kernel
theorem dX1_joined_177 : decode cX1_joined 177 = .ok (.lreturn, 1) := by decide +kernel
theorem dX1_joined_178 : decode cX1_joined 178 = .ok (.lload_n 1, 1) := by decide +kernel
theorem dX1_joined_179 : decode cX1_joined 179 = .ok (.lload_n 3, 1) := by decide +kernel
theorem dX1_joined_180 : decode cX1_joined 180 = .ok (.land, 1) := by decide +kernel
theorem dX1_joined_181 : decode cX1_joined 181 = .ok (.lreturn, 1) := by decide +kernel
theorem dX1_joined_182 : decode cX1_joined 182 = .ok (.lload_n 1, 1) := by decide +kernel
theorem dX1_joined_183 : decode cX1_joined 183 = .ok (.lload_n 3, 1) := by decide +kernel
theorem dX1_joined_184 : decode cX1_joined 184 = .ok (.lor, 1) := by decide +kernel
theorem dX1_joined_185 : decode cX1_joined 185 = .ok (.lreturn, 1) := by decide +kernel
theorem dX1_bounded_0 : decode cX1_bounded 0 = .ok (.lload_n 0, 1) := by decide +kernel
theorem dX1_bounded_1 : decode cX1_bounded 1 = .ok (.ldc2_w 40, 3) := by decide +kernel
theorem dX1_bounded_4 : decode cX1_bounded 4 = .ok (.lcmp, 1) := by decide +kernel
theorem dX1_bounded_5 : decode cX1_bounded 5 = .ok (.ifCond .le 6, 3) := by decide +kernel
theorem dX1_bounded_8 : decode cX1_bounded 8 = .ok (.ldc 42, 2) := by decide +kernel
theorem dX1_bounded_10 : decode cX1_bounded 10 = .ok (.ireturn, 1) := by decide +kernel
theorem dX1_bounded_11 : decode cX1_bounded 11 = .ok (.lload_n 0, 1) := by decide +kernel
theorem dX1_bounded_12 : decode cX1_bounded 12 = .ok (.ldc2_w 43, 3) := by decide +kernel
theorem dX1_bounded_15 : decode cX1_bounded 15 = .ok (.lcmp, 1) := by decide +kernel
theorem dX1_bounded_16 : decode cX1_bounded 16 = .ok (.ifCond .ge 8, 3) := by decide +kernel
theorem dX1_bounded_19 : decode cX1_bounded 19 = .ok (.ldc 45, 2) := by decide +kernel
theorem dX1_bounded_21 : decode cX1_bounded 21 = .ok (.goto 5, 3) := by decide +kernel
theorem dX1_bounded_24 : decode cX1_bounded 24 = .ok (.lload_n 0, 1) := by decide +kernel
theorem dX1_bounded_25 : decode cX1_bounded 25 = .ok (.l2i, 1) := by decide +kernel
theorem dX1_bounded_26 : decode cX1_bounded 26 = .ok (.ireturn, 1) := by decide +kernel
