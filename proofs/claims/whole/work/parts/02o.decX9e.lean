theorem dX9_safe_58 : decode cX9_safe 58 = .ok (.ifCond .eq 27, 3) := by decide +kernel
theorem dX9_safe_61 : decode cX9_safe 61 = .ok (.aload_n 0, 1) := by decide +kernel
theorem dX9_safe_62 : decode cX9_safe 62 = .ok (.iload_n 1, 1) := by decide +kernel
theorem dX9_safe_63 : decode cX9_safe 63 = .ok (.iload_n 3, 1) := by decide +kernel
theorem dX9_safe_64 : decode cX9_safe 64 = .ok (.iload 5, 2) := by decide +kernel
theorem dX9_safe_66 : decode cX9_safe 66 = .ok (.invokevirtual 311, 3) := by decide +kernel
theorem dX9_safe_69 : decode cX9_safe 69 = .ok (.ifCond .ne 7, 3) := by decide +kernel
theorem dX9_safe_72 : decode cX9_safe 72 = .ok (.iconst 1, 1) := by decide +kernel
theorem dX9_safe_73 : decode cX9_safe 73 = .ok (.goto 4, 3) := by decide +kernel
theorem dX9_safe_76 : decode cX9_safe 76 = .ok (.iconst 0, 1) := by decide +kernel
theorem dX9_safe_77 : decode cX9_safe 77 = .ok (.istore 4, 2) := by decide +kernel
theorem dX9_safe_79 : decode cX9_safe 79 = .ok (.iinc 5 1, 3) := by decide +kernel
theorem dX9_safe_82 : decode cX9_safe 82 = .ok (.goto (-42), 3) := by decide +kernel
theorem dX9_safe_85 : decode cX9_safe 85 = .ok (.iload 4, 2) := by decide +kernel
theorem dX9_safe_87 : decode cX9_safe 87 = .ok (.ifCond .eq 5, 3) := by decide +kernel
theorem dX9_safe_90 : decode cX9_safe 90 = .ok (.iload_n 3, 1) := by decide +kernel
theorem dX9_safe_91 : decode cX9_safe 91 = .ok (.ireturn, 1) := by decide +kernel
theorem dX9_safe_92 : decode cX9_safe 92 = .ok (.iinc 3 1, 3) := by decide +kernel
theorem dX9_safe_95 : decode cX9_safe 95 = .ok (.goto (-71), 3) := by decide +kernel
theorem dX9_safe_98 : decode cX9_safe 98 = .ok (.iconst (-1), 1) := by decide +kernel
theorem dX9_safe_99 : decode cX9_safe 99 = .ok (.ireturn, 1) := by decide +kernel
theorem dX9_game_0 : decode cX9_game 0 = .ok (.aload_n 0, 1) := by decide +kernel
theorem dX9_game_1 : decode cX9_game 1 = .ok (.iconst 0, 1) := by decide +kernel
theorem dX9_game_2 : decode cX9_game 2 = .ok (.putfield 128, 3) := by decide +kernel
theorem dX9_game_5 : decode cX9_game 5 = .ok (.aload_n 0, 1) := by decide +kernel
theorem dX9_game_6 : decode cX9_game 6 = .ok (.iload_n 1, 1) := by decide +kernel
theorem dX9_game_7 : decode cX9_game 7 = .ok (.invokevirtual 299, 3) := by decide +kernel
theorem dX9_game_10 : decode cX9_game 10 = .ok (.ifCond .eq 52, 3) := by decide +kernel
theorem dX9_game_13 : decode cX9_game 13 = .ok (.iload_n 2, 1) := by decide +kernel
theorem dX9_game_14 : decode cX9_game 14 = .ok (.i2l, 1) := by decide +kernel
theorem dX9_game_15 : decode cX9_game 15 = .ok (.lconst 1, 1) := by decide +kernel
theorem dX9_game_16 : decode cX9_game 16 = .ok (.ldc2_w 435, 3) := by decide +kernel
theorem dX9_game_19 : decode cX9_game 19 = .ok (.invokestatic 261, 3) := by decide +kernel
theorem dX9_game_22 : decode cX9_game 22 = .ok (.ifCond .eq 40, 3) := by decide +kernel
theorem dX9_game_25 : decode cX9_game 25 = .ok (.iload_n 3, 1) := by decide +kernel
theorem dX9_game_26 : decode cX9_game 26 = .ok (.i2l, 1) := by decide +kernel
theorem dX9_game_27 : decode cX9_game 27 = .ok (.lconst 1, 1) := by decide +kernel
theorem dX9_game_28 : decode cX9_game 28 = .ok (.ldc2_w 332, 3) := by decide +kernel
theorem dX9_game_31 : decode cX9_game 31 = .ok (.invokestatic 261, 3) := by decide +kernel
theorem dX9_game_34 : decode cX9_game 34 = .ok (.ifCond .eq 28, 3) := by decide +kernel
theorem dX9_game_37 : decode cX9_game 37 = .ok (.iload 4, 2) := by decide +kernel
theorem dX9_game_39 : decode cX9_game 39 = .ok (.i2l, 1) := by decide +kernel
theorem dX9_game_40 : decode cX9_game 40 = .ok (.lconst 0, 1) := by decide +kernel
theorem dX9_game_41 : decode cX9_game 41 = .ok (.iload_n 3, 1) := by decide +kernel
theorem dX9_game_42 : decode cX9_game 42 = .ok (.iconst 1, 1) := by decide +kernel
theorem dX9_game_43 : decode cX9_game 43 = .ok (.isub, 1) := by decide +kernel
theorem dX9_game_44 : decode cX9_game 44 = .ok (.i2l, 1) := by decide +kernel
theorem dX9_game_45 : decode cX9_game 45 = .ok (.invokestatic 261, 3) := by decide +kernel
theorem dX9_game_48 : decode cX9_game 48 = .ok (.ifCond .eq 14, 3) := by decide +kernel
theorem dX9_game_51 : decode cX9_game 51 = .ok (.iload 5, 2) := by decide +kernel
theorem dX9_game_53 : decode cX9_game 53 = .ok (.i2l, 1) := by decide +kernel
theorem dX9_game_54 : decode cX9_game 54 = .ok (.lconst 0, 1) := by decide +kernel
theorem dX9_game_55 : decode cX9_game 55 = .ok (.lconst 1, 1) := by decide +kernel
theorem dX9_game_56 : decode cX9_game 56 = .ok (.invokestatic 261, 3) := by decide +kernel
theorem dX9_game_59 : decode cX9_game 59 = .ok (.ifCond .ne 7, 3) := by decide +kernel
theorem dX9_game_62 : decode cX9_game 62 = .ok (.ldc_w 411, 3) := by decide +kernel
theorem dX9_game_65 : decode cX9_game 65 = .ok (.ireturn, 1) := by decide +kernel
theorem dX9_game_66 : decode cX9_game 66 = .ok (.aload_n 0, 1) := by decide +kernel
theorem dX9_game_67 : decode cX9_game 67 = .ok (.iload_n 1, 1) := by decide +kernel
theorem dX9_game_68 : decode cX9_game 68 = .ok (.aload_n 0, 1) := by decide +kernel
theorem dX9_game_69 : decode cX9_game 69 = .ok (.getfield 288, 3) := by decide +kernel
theorem dX9_game_72 : decode cX9_game 72 = .ok (.invokevirtual 337, 3) := by decide +kernel
theorem dX9_game_75 : decode cX9_game 75 = .ok (.iconst (-1), 1) := by decide +kernel
theorem dX9_game_76 : decode cX9_game 76 = .ok (.istore 6, 2) := by decide +kernel
theorem dX9_game_78 : decode cX9_game 78 = .ok (.iload_n 3, 1) := by decide +kernel
theorem dX9_game_79 : decode cX9_game 79 = .ok (.iconst 1, 1) := by decide +kernel
theorem dX9_game_80 : decode cX9_game 80 = .ok (.isub, 1) := by decide +kernel
theorem dX9_game_81 : decode cX9_game 81 = .ok (.istore 7, 2) := by decide +kernel
theorem dX9_game_83 : decode cX9_game 83 = .ok (.iload 7, 2) := by decide +kernel
theorem dX9_game_85 : decode cX9_game 85 = .ok (.iload 4, 2) := by decide +kernel
theorem dX9_game_87 : decode cX9_game 87 = .ok (.if_icmp .lt 83, 3) := by decide +kernel
theorem dX9_game_90 : decode cX9_game 90 = .ok (.iconst (-1), 1) := by decide +kernel
theorem dX9_game_91 : decode cX9_game 91 = .ok (.istore 6, 2) := by decide +kernel
theorem dX9_game_93 : decode cX9_game 93 = .ok (.iload_n 3, 1) := by decide +kernel
theorem dX9_game_94 : decode cX9_game 94 = .ok (.iload 7, 2) := by decide +kernel
theorem dX9_game_96 : decode cX9_game 96 = .ok (.iload_n 2, 1) := by decide +kernel
theorem dX9_game_97 : decode cX9_game 97 = .ok (.iadd, 1) := by decide +kernel
theorem dX9_game_98 : decode cX9_game 98 = .ok (.invokestatic 347, 3) := by decide +kernel
theorem dX9_game_101 : decode cX9_game 101 = .ok (.istore 8, 2) := by decide +kernel
theorem dX9_game_103 : decode cX9_game 103 = .ok (.iload 8, 2) := by decide +kernel
theorem dX9_game_105 : decode cX9_game 105 = .ok (.iload 7, 2) := by decide +kernel
theorem dX9_game_107 : decode cX9_game 107 = .ok (.if_icmp .le 39, 3) := by decide +kernel
theorem dX9_game_110 : decode cX9_game 110 = .ok (.aload_n 0, 1) := by decide +kernel
theorem dX9_game_111 : decode cX9_game 111 = .ok (.getfield 68, 3) := by decide +kernel
theorem dX9_game_114 : decode cX9_game 114 = .ok (.iload 8, 2) := by decide +kernel
theorem dX9_game_116 : decode cX9_game 116 = .ok (.baload, 1) := by decide +kernel
theorem dX9_game_117 : decode cX9_game 117 = .ok (.ifCond .ne 23, 3) := by decide +kernel
theorem dX9_game_120 : decode cX9_game 120 = .ok (.iload 8, 2) := by decide +kernel
theorem dX9_game_122 : decode cX9_game 122 = .ok (.iload_n 3, 1) := by decide +kernel
theorem dX9_game_123 : decode cX9_game 123 = .ok (.if_icmp .eq 13, 3) := by decide +kernel
theorem dX9_game_126 : decode cX9_game 126 = .ok (.aload_n 0, 1) := by decide +kernel
theorem dX9_game_127 : decode cX9_game 127 = .ok (.getfield 113, 3) := by decide +kernel
theorem dX9_game_130 : decode cX9_game 130 = .ok (.iload 8, 2) := by decide +kernel
theorem dX9_game_132 : decode cX9_game 132 = .ok (.baload, 1) := by decide +kernel
theorem dX9_game_133 : decode cX9_game 133 = .ok (.ifCond .ne 7, 3) := by decide +kernel
theorem dX9_game_136 : decode cX9_game 136 = .ok (.iload 8, 2) := by decide +kernel
theorem dX9_game_138 : decode cX9_game 138 = .ok (.istore 6, 2) := by decide +kernel
theorem dX9_game_140 : decode cX9_game 140 = .ok (.iinc 8 (-1), 3) := by decide +kernel
theorem dX9_game_143 : decode cX9_game 143 = .ok (.goto (-40), 3) := by decide +kernel
theorem dX9_game_146 : decode cX9_game 146 = .ok (.aload_n 0, 1) := by decide +kernel
theorem dX9_game_147 : decode cX9_game 147 = .ok (.getfield 113, 3) := by decide +kernel
theorem dX9_game_150 : decode cX9_game 150 = .ok (.iload 7, 2) := by decide +kernel
theorem dX9_game_152 : decode cX9_game 152 = .ok (.iload 6, 2) := by decide +kernel
theorem dX9_game_154 : decode cX9_game 154 = .ok (.iconst (-1), 1) := by decide +kernel
theorem dX9_game_155 : decode cX9_game 155 = .ok (.if_icmp .eq 7, 3) := by decide +kernel
theorem dX9_game_158 : decode cX9_game 158 = .ok (.iconst 1, 1) := by decide +kernel
theorem dX9_game_159 : decode cX9_game 159 = .ok (.goto 4, 3) := by decide +kernel
theorem dX9_game_162 : decode cX9_game 162 = .ok (.iconst 0, 1) := by decide +kernel
theorem dX9_game_163 : decode cX9_game 163 = .ok (.bastore, 1) := by decide +kernel
theorem dX9_game_164 : decode cX9_game 164 = .ok (.iinc 7 (-1), 3) := by decide +kernel
theorem dX9_game_167 : decode cX9_game 167 = .ok (.goto (-84), 3) := by decide +kernel
theorem dX9_game_170 : decode cX9_game 170 = .ok (.iload 5, 2) := by decide +kernel
theorem dX9_game_172 : decode cX9_game 172 = .ok (.iconst 1, 1) := by decide +kernel
theorem dX9_game_173 : decode cX9_game 173 = .ok (.if_icmp .ne 8, 3) := by decide +kernel
theorem dX9_game_176 : decode cX9_game 176 = .ok (.iload 6, 2) := by decide +kernel
theorem dX9_game_178 : decode cX9_game 178 = .ok (.goto 14, 3) := by decide +kernel
theorem dX9_game_181 : decode cX9_game 181 = .ok (.iload 6, 2) := by decide +kernel
theorem dX9_game_183 : decode cX9_game 183 = .ok (.iconst (-1), 1) := by decide +kernel
theorem dX9_game_184 : decode cX9_game 184 = .ok (.if_icmp .ne 7, 3) := by decide +kernel
theorem dX9_game_187 : decode cX9_game 187 = .ok (.iconst 0, 1) := by decide +kernel
theorem dX9_game_188 : decode cX9_game 188 = .ok (.goto 4, 3) := by decide +kernel
theorem dX9_game_191 : decode cX9_game 191 = .ok (.iconst 1, 1) := by decide +kernel
theorem dX9_game_192 : decode cX9_game 192 = .ok (.ireturn, 1) := by decide +kernel
theorem dX9_spokenAs_0 : decode cX9_spokenAs 0 = .ok (.iload_n 2, 1) := by decide +kernel
theorem dX9_spokenAs_1 : decode cX9_spokenAs 1 = .ok (.istore_n 3, 1) := by decide +kernel
theorem dX9_spokenAs_2 : decode cX9_spokenAs 2 = .ok (.aload_n 0, 1) := by decide +kernel
theorem dX9_spokenAs_3 : decode cX9_spokenAs 3 = .ok (.iload_n 1, 1) := by decide +kernel
theorem dX9_spokenAs_4 : decode cX9_spokenAs 4 = .ok (.iload_n 3, 1) := by decide +kernel
theorem dX9_spokenAs_5 : decode cX9_spokenAs 5 = .ok (.aload_n 0, 1) := by decide +kernel
theorem dX9_spokenAs_6 : decode cX9_spokenAs 6 = .ok (.getfield 288, 3) := by decide +kernel
theorem dX9_spokenAs_9 : decode cX9_spokenAs 9 = .ok (.invokevirtual 311, 3) := by decide +kernel
theorem dX9_spokenAs_12 : decode cX9_spokenAs 12 = .ok (.ifCond .eq 9, 3) := by decide +kernel
theorem dX9_spokenAs_15 : decode cX9_spokenAs 15 = .ok (.iinc 3 (-1), 3) := by decide +kernel
theorem dX9_spokenAs_18 : decode cX9_spokenAs 18 = .ok (.goto (-16), 3) := by decide +kernel
theorem dX9_spokenAs_21 : decode cX9_spokenAs 21 = .ok (.iload_n 3, 1) := by decide +kernel
theorem dX9_spokenAs_22 : decode cX9_spokenAs 22 = .ok (.ireturn, 1) := by decide +kernel
theorem dX9_spoken_0 : decode cX9_spoken 0 = .ok (.aload_n 0, 1) := by decide +kernel
theorem dX9_spoken_1 : decode cX9_spoken 1 = .ok (.iconst 0, 1) := by decide +kernel
theorem dX9_spoken_2 : decode cX9_spoken 2 = .ok (.putfield 128, 3) := by decide +kernel
theorem dX9_spoken_5 : decode cX9_spoken 5 = .ok (.aload_n 0, 1) := by decide +kernel
theorem dX9_spoken_6 : decode cX9_spoken 6 = .ok (.iload_n 1, 1) := by decide +kernel
theorem dX9_spoken_7 : decode cX9_spoken 7 = .ok (.invokevirtual 299, 3) := by decide +kernel
theorem dX9_spoken_10 : decode cX9_spoken 10 = .ok (.ifCond .eq 24, 3) := by decide +kernel
theorem dX9_spoken_13 : decode cX9_spoken 13 = .ok (.iload_n 2, 1) := by decide +kernel
theorem dX9_spoken_14 : decode cX9_spoken 14 = .ok (.i2l, 1) := by decide +kernel
theorem dX9_spoken_15 : decode cX9_spoken 15 = .ok (.lconst 0, 1) := by decide +kernel
theorem dX9_spoken_16 : decode cX9_spoken 16 = .ok (.ldc2_w 309, 3) := by decide +kernel
theorem dX9_spoken_19 : decode cX9_spoken 19 = .ok (.invokestatic 261, 3) := by decide +kernel
theorem dX9_spoken_22 : decode cX9_spoken 22 = .ok (.ifCond .eq 12, 3) := by decide +kernel
theorem dX9_spoken_25 : decode cX9_spoken 25 = .ok (.aload_n 0, 1) := by decide +kernel
theorem dX9_spoken_26 : decode cX9_spoken 26 = .ok (.iload_n 1, 1) := by decide +kernel
theorem dX9_spoken_27 : decode cX9_spoken 27 = .ok (.iload_n 2, 1) := by decide +kernel
theorem dX9_spoken_28 : decode cX9_spoken 28 = .ok (.invokevirtual 437, 3) := by decide +kernel
theorem dX9_spoken_31 : decode cX9_spoken 31 = .ok (.goto 4, 3) := by decide +kernel
theorem dX9_spoken_34 : decode cX9_spoken 34 = .ok (.iconst (-1), 1) := by decide +kernel
theorem dX9_spoken_35 : decode cX9_spoken 35 = .ok (.ireturn, 1) := by decide +kernel
theorem dX9_carried_0 : decode cX9_carried 0 = .ok (.aload_n 0, 1) := by decide +kernel
theorem dX9_carried_1 : decode cX9_carried 1 = .ok (.iconst 0, 1) := by decide +kernel
theorem dX9_carried_2 : decode cX9_carried 2 = .ok (.putfield 128, 3) := by decide +kernel
theorem dX9_carried_5 : decode cX9_carried 5 = .ok (.aload_n 0, 1) := by decide +kernel
theorem dX9_carried_6 : decode cX9_carried 6 = .ok (.getfield 276, 3) := by decide +kernel
theorem dX9_carried_9 : decode cX9_carried 9 = .ok (.ifCond .eq 31, 3) := by decide +kernel
theorem dX9_carried_12 : decode cX9_carried 12 = .ok (.iload_n 1, 1) := by decide +kernel
theorem dX9_carried_13 : decode cX9_carried 13 = .ok (.i2l, 1) := by decide +kernel
theorem dX9_carried_14 : decode cX9_carried 14 = .ok (.lconst 0, 1) := by decide +kernel
theorem dX9_carried_15 : decode cX9_carried 15 = .ok (.ldc2_w 309, 3) := by decide +kernel
theorem dX9_carried_18 : decode cX9_carried 18 = .ok (.invokestatic 261, 3) := by decide +kernel
theorem dX9_carried_21 : decode cX9_carried 21 = .ok (.ifCond .eq 19, 3) := by decide +kernel
theorem dX9_carried_24 : decode cX9_carried 24 = .ok (.iload_n 3, 1) := by decide +kernel
theorem dX9_carried_25 : decode cX9_carried 25 = .ok (.i2l, 1) := by decide +kernel
theorem dX9_carried_26 : decode cX9_carried 26 = .ok (.lconst 1, 1) := by decide +kernel
theorem dX9_carried_27 : decode cX9_carried 27 = .ok (.ldc2_w 349, 3) := by decide +kernel
theorem dX9_carried_30 : decode cX9_carried 30 = .ok (.invokestatic 261, 3) := by decide +kernel
theorem dX9_carried_33 : decode cX9_carried 33 = .ok (.ifCond .eq 7, 3) := by decide +kernel
theorem dX9_carried_36 : decode cX9_carried 36 = .ok (.iload_n 2, 1) := by decide +kernel
theorem dX9_carried_37 : decode cX9_carried 37 = .ok (.ifCond .ge 5, 3) := by decide +kernel
theorem dX9_carried_40 : decode cX9_carried 40 = .ok (.iconst (-1), 1) := by decide +kernel
theorem dX9_carried_41 : decode cX9_carried 41 = .ok (.ireturn, 1) := by decide +kernel
theorem dX9_carried_42 : decode cX9_carried 42 = .ok (.iconst 1, 1) := by decide +kernel
theorem dX9_carried_43 : decode cX9_carried 43 = .ok (.istore 4, 2) := by decide +kernel
theorem dX9_carried_45 : decode cX9_carried 45 = .ok (.iconst 1, 1) := by decide +kernel
theorem dX9_carried_46 : decode cX9_carried 46 = .ok (.istore 5, 2) := by decide +kernel
theorem dX9_carried_48 : decode cX9_carried 48 = .ok (.iload 5, 2) := by decide +kernel
theorem dX9_carried_50 : decode cX9_carried 50 = .ok (.iload_n 3, 1) := by decide +kernel
theorem dX9_carried_51 : decode cX9_carried 51 = .ok (.if_icmp .ge 16, 3) := by decide +kernel
theorem dX9_carried_54 : decode cX9_carried 54 = .ok (.iload 4, 2) := by decide +kernel
theorem dX9_carried_56 : decode cX9_carried 56 = .ok (.bipush 10, 2) := by decide +kernel
theorem dX9_carried_58 : decode cX9_carried 58 = .ok (.imul, 1) := by decide +kernel
theorem dX9_carried_59 : decode cX9_carried 59 = .ok (.istore 4, 2) := by decide +kernel
theorem dX9_carried_61 : decode cX9_carried 61 = .ok (.iinc 5 1, 3) := by decide +kernel
theorem dX9_carried_64 : decode cX9_carried 64 = .ok (.goto (-16), 3) := by decide +kernel
theorem dX9_carried_67 : decode cX9_carried 67 = .ok (.iload_n 2, 1) := by decide +kernel
theorem dX9_carried_68 : decode cX9_carried 68 = .ok (.bipush 10, 2) := by decide +kernel
theorem dX9_carried_70 : decode cX9_carried 70 = .ok (.idiv, 1) := by decide +kernel
theorem dX9_carried_71 : decode cX9_carried 71 = .ok (.iload 4, 2) := by decide +kernel
theorem dX9_carried_73 : decode cX9_carried 73 = .ok (.if_icmp .lt 5, 3) := by decide +kernel
theorem dX9_carried_76 : decode cX9_carried 76 = .ok (.iconst (-1), 1) := by decide +kernel
theorem dX9_carried_77 : decode cX9_carried 77 = .ok (.ireturn, 1) := by decide +kernel
theorem dX9_carried_78 : decode cX9_carried 78 = .ok (.iload 4, 2) := by decide +kernel
theorem dX9_carried_80 : decode cX9_carried 80 = .ok (.istore 5, 2) := by decide +kernel
theorem dX9_carried_82 : decode cX9_carried 82 = .ok (.iload 5, 2) := by decide +kernel
theorem dX9_carried_84 : decode cX9_carried 84 = .ok (.ifCond .le 29, 3) := by decide +kernel
theorem dX9_carried_87 : decode cX9_carried 87 = .ok (.iload_n 2, 1) := by decide +kernel
theorem dX9_carried_88 : decode cX9_carried 88 = .ok (.iload 5, 2) := by decide +kernel
theorem dX9_carried_90 : decode cX9_carried 90 = .ok (.idiv, 1) := by decide +kernel
theorem dX9_carried_91 : decode cX9_carried 91 = .ok (.bipush 10, 2) := by decide +kernel
theorem dX9_carried_93 : decode cX9_carried 93 = .ok (.irem, 1) := by decide +kernel
theorem dX9_carried_94 : decode cX9_carried 94 = .ok (.aload_n 0, 1) := by decide +kernel
theorem dX9_carried_95 : decode cX9_carried 95 = .ok (.getfield 276, 3) := by decide +kernel
theorem dX9_carried_98 : decode cX9_carried 98 = .ok (.if_icmp .lt 5, 3) := by decide +kernel
theorem dX9_carried_101 : decode cX9_carried 101 = .ok (.iconst (-1), 1) := by decide +kernel
theorem dX9_carried_102 : decode cX9_carried 102 = .ok (.ireturn, 1) := by decide +kernel
theorem dX9_carried_103 : decode cX9_carried 103 = .ok (.iload 5, 2) := by decide +kernel
theorem dX9_carried_105 : decode cX9_carried 105 = .ok (.bipush 10, 2) := by decide +kernel
theorem dX9_carried_107 : decode cX9_carried 107 = .ok (.idiv, 1) := by decide +kernel
theorem dX9_carried_108 : decode cX9_carried 108 = .ok (.istore 5, 2) := by decide +kernel
theorem dX9_carried_110 : decode cX9_carried 110 = .ok (.goto (-28), 3) := by decide +kernel
theorem dX9_carried_113 : decode cX9_carried 113 = .ok (.iload_n 1, 1) := by decide +kernel
theorem dX9_carried_114 : decode cX9_carried 114 = .ok (.istore 5, 2) := by decide +kernel
theorem dX9_carried_116 : decode cX9_carried 116 = .ok (.iload 4, 2) := by decide +kernel
theorem dX9_carried_118 : decode cX9_carried 118 = .ok (.istore 6, 2) := by decide +kernel
theorem dX9_carried_120 : decode cX9_carried 120 = .ok (.iload 6, 2) := by decide +kernel
theorem dX9_carried_122 : decode cX9_carried 122 = .ok (.ifCond .le 28, 3) := by decide +kernel
theorem dX9_carried_125 : decode cX9_carried 125 = .ok (.aload_n 0, 1) := by decide +kernel
theorem dX9_carried_126 : decode cX9_carried 126 = .ok (.iload_n 2, 1) := by decide +kernel
theorem dX9_carried_127 : decode cX9_carried 127 = .ok (.iload 6, 2) := by decide +kernel
theorem dX9_carried_129 : decode cX9_carried 129 = .ok (.idiv, 1) := by decide +kernel
theorem dX9_carried_130 : decode cX9_carried 130 = .ok (.bipush 10, 2) := by decide +kernel
theorem dX9_carried_132 : decode cX9_carried 132 = .ok (.irem, 1) := by decide +kernel
theorem dX9_carried_133 : decode cX9_carried 133 = .ok (.iload 5, 2) := by decide +kernel
theorem dX9_carried_135 : decode cX9_carried 135 = .ok (.invokevirtual 437, 3) := by decide +kernel
theorem dX9_carried_138 : decode cX9_carried 138 = .ok (.istore 5, 2) := by decide +kernel
theorem dX9_carried_140 : decode cX9_carried 140 = .ok (.iload 6, 2) := by decide +kernel
theorem dX9_carried_142 : decode cX9_carried 142 = .ok (.bipush 10, 2) := by decide +kernel
theorem dX9_carried_144 : decode cX9_carried 144 = .ok (.idiv, 1) := by decide +kernel
theorem dX9_carried_145 : decode cX9_carried 145 = .ok (.istore 6, 2) := by decide +kernel
theorem dX9_carried_147 : decode cX9_carried 147 = .ok (.goto (-27), 3) := by decide +kernel
theorem dX9_carried_150 : decode cX9_carried 150 = .ok (.iload 5, 2) := by decide +kernel
theorem dX9_carried_152 : decode cX9_carried 152 = .ok (.ireturn, 1) := by decide +kernel
theorem dX9_near_0 : decode cX9_near 0 = .ok (.aload_n 0, 1) := by decide +kernel
theorem dX9_near_1 : decode cX9_near 1 = .ok (.iconst 0, 1) := by decide +kernel
theorem dX9_near_2 : decode cX9_near 2 = .ok (.putfield 128, 3) := by decide +kernel
theorem dX9_near_5 : decode cX9_near 5 = .ok (.aload_n 0, 1) := by decide +kernel
theorem dX9_near_6 : decode cX9_near 6 = .ok (.iload_n 1, 1) := by decide +kernel
theorem dX9_near_7 : decode cX9_near 7 = .ok (.invokevirtual 299, 3) := by decide +kernel
theorem dX9_near_10 : decode cX9_near 10 = .ok (.ifCond .eq 22, 3) := by decide +kernel
theorem dX9_near_13 : decode cX9_near 13 = .ok (.iload_n 2, 1) := by decide +kernel
theorem dX9_near_14 : decode cX9_near 14 = .ok (.i2l, 1) := by decide +kernel
theorem dX9_near_15 : decode cX9_near 15 = .ok (.lconst 1, 1) := by decide +kernel
theorem dX9_near_16 : decode cX9_near 16 = .ok (.ldc2_w 332, 3) := by decide +kernel
theorem dX9_near_19 : decode cX9_near 19 = .ok (.invokestatic 261, 3) := by decide +kernel
theorem dX9_near_22 : decode cX9_near 22 = .ok (.ifCond .eq 10, 3) := by decide +kernel
theorem dX9_near_25 : decode cX9_near 25 = .ok (.iload_n 3, 1) := by decide +kernel
theorem dX9_near_26 : decode cX9_near 26 = .ok (.invokestatic 334, 3) := by decide +kernel
theorem dX9_near_29 : decode cX9_near 29 = .ok (.ifCond .ne 5, 3) := by decide +kernel
theorem dX9_near_32 : decode cX9_near 32 = .ok (.iconst (-1), 1) := by decide +kernel
theorem dX9_near_33 : decode cX9_near 33 = .ok (.ireturn, 1) := by decide +kernel
theorem dX9_near_34 : decode cX9_near 34 = .ok (.aload_n 0, 1) := by decide +kernel
theorem dX9_near_35 : decode cX9_near 35 = .ok (.iload_n 1, 1) := by decide +kernel
theorem dX9_near_36 : decode cX9_near 36 = .ok (.aload_n 0, 1) := by decide +kernel
theorem dX9_near_37 : decode cX9_near 37 = .ok (.getfield 288, 3) := by decide +kernel
theorem dX9_near_40 : decode cX9_near 40 = .ok (.invokevirtual 337, 3) := by decide +kernel
theorem dX9_near_43 : decode cX9_near 43 = .ok (.aload_n 0, 1) := by decide +kernel
theorem dX9_near_44 : decode cX9_near 44 = .ok (.iload_n 3, 1) := by decide +kernel
theorem dX9_near_45 : decode cX9_near 45 = .ok (.invokevirtual 353, 3) := by decide +kernel
theorem dX9_near_48 : decode cX9_near 48 = .ok (.iconst 0, 1) := by decide +kernel
theorem dX9_near_49 : decode cX9_near 49 = .ok (.istore 4, 2) := by decide +kernel
theorem dX9_near_51 : decode cX9_near 51 = .ok (.iload 4, 2) := by decide +kernel
theorem dX9_near_53 : decode cX9_near 53 = .ok (.sipush 200, 3) := by decide +kernel
theorem dX9_near_56 : decode cX9_near 56 = .ok (.if_icmp .ge 60, 3) := by decide +kernel
theorem dX9_near_59 : decode cX9_near 59 = .ok (.iload_n 2, 1) := by decide +kernel
theorem dX9_near_60 : decode cX9_near 60 = .ok (.iload 4, 2) := by decide +kernel
theorem dX9_near_62 : decode cX9_near 62 = .ok (.isub, 1) := by decide +kernel
theorem dX9_near_63 : decode cX9_near 63 = .ok (.ifCond .le 20, 3) := by decide +kernel
theorem dX9_near_66 : decode cX9_near 66 = .ok (.aload_n 0, 1) := by decide +kernel
theorem dX9_near_67 : decode cX9_near 67 = .ok (.iload_n 2, 1) := by decide +kernel
theorem dX9_near_68 : decode cX9_near 68 = .ok (.iload 4, 2) := by decide +kernel
theorem dX9_near_70 : decode cX9_near 70 = .ok (.isub, 1) := by decide +kernel
theorem dX9_near_71 : decode cX9_near 71 = .ok (.iload_n 3, 1) := by decide +kernel
theorem dX9_near_72 : decode cX9_near 72 = .ok (.invokevirtual 356, 3) := by decide +kernel
theorem dX9_near_75 : decode cX9_near 75 = .ok (.ifCond .eq 8, 3) := by decide +kernel
theorem dX9_near_78 : decode cX9_near 78 = .ok (.iload_n 2, 1) := by decide +kernel
theorem dX9_near_79 : decode cX9_near 79 = .ok (.iload 4, 2) := by decide +kernel
theorem dX9_near_81 : decode cX9_near 81 = .ok (.isub, 1) := by decide +kernel
theorem dX9_near_82 : decode cX9_near 82 = .ok (.ireturn, 1) := by decide +kernel
theorem dX9_near_83 : decode cX9_near 83 = .ok (.iload_n 2, 1) := by decide +kernel
theorem dX9_near_84 : decode cX9_near 84 = .ok (.iload 4, 2) := by decide +kernel
theorem dX9_near_86 : decode cX9_near 86 = .ok (.iadd, 1) := by decide +kernel
theorem dX9_near_87 : decode cX9_near 87 = .ok (.sipush 200, 3) := by decide +kernel
theorem dX9_near_90 : decode cX9_near 90 = .ok (.if_icmp .gt 20, 3) := by decide +kernel
theorem dX9_near_93 : decode cX9_near 93 = .ok (.aload_n 0, 1) := by decide +kernel
theorem dX9_near_94 : decode cX9_near 94 = .ok (.iload_n 2, 1) := by decide +kernel
theorem dX9_near_95 : decode cX9_near 95 = .ok (.iload 4, 2) := by decide +kernel
theorem dX9_near_97 : decode cX9_near 97 = .ok (.iadd, 1) := by decide +kernel
theorem dX9_near_98 : decode cX9_near 98 = .ok (.iload_n 3, 1) := by decide +kernel
theorem dX9_near_99 : decode cX9_near 99 = .ok (.invokevirtual 356, 3) := by decide +kernel
theorem dX9_near_102 : decode cX9_near 102 = .ok (.ifCond .eq 8, 3) := by decide +kernel
theorem dX9_near_105 : decode cX9_near 105 = .ok (.iload_n 2, 1) := by decide +kernel
theorem dX9_near_106 : decode cX9_near 106 = .ok (.iload 4, 2) := by decide +kernel
theorem dX9_near_108 : decode cX9_near 108 = .ok (.iadd, 1) := by decide +kernel
theorem dX9_near_109 : decode cX9_near 109 = .ok (.ireturn, 1) := by decide +kernel
theorem dX9_near_110 : decode cX9_near 110 = .ok (.iinc 4 1, 3) := by decide +kernel
theorem dX9_near_113 : decode cX9_near 113 = .ok (.goto (-62), 3) := by decide +kernel
theorem dX9_near_116 : decode cX9_near 116 = .ok (.iconst (-1), 1) := by decide +kernel
theorem dX9_near_117 : decode cX9_near 117 = .ok (.ireturn, 1) := by decide +kernel
theorem dX9_joint_0 : decode cX9_joint 0 = .ok (.aload_n 0, 1) := by decide +kernel
theorem dX9_joint_1 : decode cX9_joint 1 = .ok (.iconst 0, 1) := by decide +kernel
theorem dX9_joint_2 : decode cX9_joint 2 = .ok (.putfield 128, 3) := by decide +kernel
theorem dX9_joint_5 : decode cX9_joint 5 = .ok (.aload_n 0, 1) := by decide +kernel
theorem dX9_joint_6 : decode cX9_joint 6 = .ok (.iload_n 1, 1) := by decide +kernel
theorem dX9_joint_7 : decode cX9_joint 7 = .ok (.invokevirtual 299, 3) := by decide +kernel
theorem dX9_joint_10 : decode cX9_joint 10 = .ok (.ifCond .eq 36, 3) := by decide +kernel
theorem dX9_joint_13 : decode cX9_joint 13 = .ok (.aload_n 0, 1) := by decide +kernel
theorem dX9_joint_14 : decode cX9_joint 14 = .ok (.iload_n 2, 1) := by decide +kernel
theorem dX9_joint_15 : decode cX9_joint 15 = .ok (.invokevirtual 299, 3) := by decide +kernel
theorem dX9_joint_18 : decode cX9_joint 18 = .ok (.ifCond .eq 28, 3) := by decide +kernel
theorem dX9_joint_21 : decode cX9_joint 21 = .ok (.iload_n 1, 1) := by decide +kernel
theorem dX9_joint_22 : decode cX9_joint 22 = .ok (.iload_n 2, 1) := by decide +kernel
theorem dX9_joint_23 : decode cX9_joint 23 = .ok (.if_icmp .eq 23, 3) := by decide +kernel
theorem dX9_joint_26 : decode cX9_joint 26 = .ok (.iload_n 3, 1) := by decide +kernel
theorem dX9_joint_27 : decode cX9_joint 27 = .ok (.i2l, 1) := by decide +kernel
theorem dX9_joint_28 : decode cX9_joint 28 = .ok (.lconst 1, 1) := by decide +kernel
theorem dX9_joint_29 : decode cX9_joint 29 = .ok (.ldc2_w 332, 3) := by decide +kernel
theorem dX9_joint_32 : decode cX9_joint 32 = .ok (.invokestatic 261, 3) := by decide +kernel
theorem dX9_joint_35 : decode cX9_joint 35 = .ok (.ifCond .eq 11, 3) := by decide +kernel
theorem dX9_joint_38 : decode cX9_joint 38 = .ok (.iload 4, 2) := by decide +kernel
theorem dX9_joint_40 : decode cX9_joint 40 = .ok (.invokestatic 334, 3) := by decide +kernel
theorem dX9_joint_43 : decode cX9_joint 43 = .ok (.ifCond .ne 5, 3) := by decide +kernel
theorem dX9_joint_46 : decode cX9_joint 46 = .ok (.iconst (-1), 1) := by decide +kernel
theorem dX9_joint_47 : decode cX9_joint 47 = .ok (.ireturn, 1) := by decide +kernel
theorem dX9_joint_48 : decode cX9_joint 48 = .ok (.aload_n 0, 1) := by decide +kernel
theorem dX9_joint_49 : decode cX9_joint 49 = .ok (.iload_n 1, 1) := by decide +kernel
theorem dX9_joint_50 : decode cX9_joint 50 = .ok (.aload_n 0, 1) := by decide +kernel
theorem dX9_joint_51 : decode cX9_joint 51 = .ok (.getfield 288, 3) := by decide +kernel
theorem dX9_joint_54 : decode cX9_joint 54 = .ok (.invokevirtual 337, 3) := by decide +kernel
theorem dX9_joint_57 : decode cX9_joint 57 = .ok (.iconst 0, 1) := by decide +kernel
theorem dX9_joint_58 : decode cX9_joint 58 = .ok (.istore 5, 2) := by decide +kernel
theorem dX9_joint_60 : decode cX9_joint 60 = .ok (.iload 5, 2) := by decide +kernel
theorem dX9_joint_62 : decode cX9_joint 62 = .ok (.sipush 200, 3) := by decide +kernel
theorem dX9_joint_65 : decode cX9_joint 65 = .ok (.if_icmp .gt 23, 3) := by decide +kernel
theorem dX9_joint_68 : decode cX9_joint 68 = .ok (.aload_n 0, 1) := by decide +kernel
theorem dX9_joint_69 : decode cX9_joint 69 = .ok (.getfield 116, 3) := by decide +kernel
theorem dX9_joint_72 : decode cX9_joint 72 = .ok (.iload 5, 2) := by decide +kernel
theorem dX9_joint_74 : decode cX9_joint 74 = .ok (.aload_n 0, 1) := by decide +kernel
theorem dX9_joint_75 : decode cX9_joint 75 = .ok (.getfield 68, 3) := by decide +kernel
theorem dX9_joint_78 : decode cX9_joint 78 = .ok (.iload 5, 2) := by decide +kernel
theorem dX9_joint_80 : decode cX9_joint 80 = .ok (.baload, 1) := by decide +kernel
theorem dX9_joint_81 : decode cX9_joint 81 = .ok (.bastore, 1) := by decide +kernel
theorem dX9_joint_82 : decode cX9_joint 82 = .ok (.iinc 5 1, 3) := by decide +kernel
theorem dX9_joint_85 : decode cX9_joint 85 = .ok (.goto (-25), 3) := by decide +kernel
theorem dX9_joint_88 : decode cX9_joint 88 = .ok (.aload_n 0, 1) := by decide +kernel
theorem dX9_joint_89 : decode cX9_joint 89 = .ok (.iload_n 2, 1) := by decide +kernel
theorem dX9_joint_90 : decode cX9_joint 90 = .ok (.aload_n 0, 1) := by decide +kernel
theorem dX9_joint_91 : decode cX9_joint 91 = .ok (.getfield 288, 3) := by decide +kernel
theorem dX9_joint_94 : decode cX9_joint 94 = .ok (.invokevirtual 337, 3) := by decide +kernel
theorem dX9_joint_97 : decode cX9_joint 97 = .ok (.iconst 0, 1) := by decide +kernel
theorem dX9_joint_98 : decode cX9_joint 98 = .ok (.istore 5, 2) := by decide +kernel
theorem dX9_joint_100 : decode cX9_joint 100 = .ok (.iload 5, 2) := by decide +kernel
theorem dX9_joint_102 : decode cX9_joint 102 = .ok (.sipush 200, 3) := by decide +kernel
theorem dX9_joint_105 : decode cX9_joint 105 = .ok (.if_icmp .gt 41, 3) := by decide +kernel
theorem dX9_joint_108 : decode cX9_joint 108 = .ok (.aload_n 0, 1) := by decide +kernel
theorem dX9_joint_109 : decode cX9_joint 109 = .ok (.getfield 68, 3) := by decide +kernel
theorem dX9_joint_112 : decode cX9_joint 112 = .ok (.iload 5, 2) := by decide +kernel
theorem dX9_joint_114 : decode cX9_joint 114 = .ok (.aload_n 0, 1) := by decide +kernel
theorem dX9_joint_115 : decode cX9_joint 115 = .ok (.getfield 68, 3) := by decide +kernel
theorem dX9_joint_118 : decode cX9_joint 118 = .ok (.iload 5, 2) := by decide +kernel
theorem dX9_joint_120 : decode cX9_joint 120 = .ok (.baload, 1) := by decide +kernel
theorem dX9_joint_121 : decode cX9_joint 121 = .ok (.ifCond .ne 13, 3) := by decide +kernel
theorem dX9_joint_124 : decode cX9_joint 124 = .ok (.aload_n 0, 1) := by decide +kernel
theorem dX9_joint_125 : decode cX9_joint 125 = .ok (.getfield 116, 3) := by decide +kernel
theorem dX9_joint_128 : decode cX9_joint 128 = .ok (.iload 5, 2) := by decide +kernel
theorem dX9_joint_130 : decode cX9_joint 130 = .ok (.baload, 1) := by decide +kernel
theorem dX9_joint_131 : decode cX9_joint 131 = .ok (.ifCond .eq 7, 3) := by decide +kernel
theorem dX9_joint_134 : decode cX9_joint 134 = .ok (.iconst 1, 1) := by decide +kernel
theorem dX9_joint_135 : decode cX9_joint 135 = .ok (.goto 4, 3) := by decide +kernel
theorem dX9_joint_138 : decode cX9_joint 138 = .ok (.iconst 0, 1) := by decide +kernel
theorem dX9_joint_139 : decode cX9_joint 139 = .ok (.bastore, 1) := by decide +kernel
theorem dX9_joint_140 : decode cX9_joint 140 = .ok (.iinc 5 1, 3) := by decide +kernel
theorem dX9_joint_143 : decode cX9_joint 143 = .ok (.goto (-43), 3) := by decide +kernel
theorem dX9_joint_146 : decode cX9_joint 146 = .ok (.aload_n 0, 1) := by decide +kernel
theorem dX9_joint_147 : decode cX9_joint 147 = .ok (.iload 4, 2) := by decide +kernel
theorem dX9_joint_149 : decode cX9_joint 149 = .ok (.invokevirtual 353, 3) := by decide +kernel
theorem dX9_joint_152 : decode cX9_joint 152 = .ok (.iconst 1, 1) := by decide +kernel
theorem dX9_joint_153 : decode cX9_joint 153 = .ok (.istore 5, 2) := by decide +kernel
theorem dX9_joint_155 : decode cX9_joint 155 = .ok (.iload 5, 2) := by decide +kernel
theorem dX9_joint_157 : decode cX9_joint 157 = .ok (.bipush 60, 2) := by decide +kernel
theorem dX9_joint_159 : decode cX9_joint 159 = .ok (.if_icmp .gt 33, 3) := by decide +kernel
theorem dX9_joint_162 : decode cX9_joint 162 = .ok (.aload_n 0, 1) := by decide +kernel
theorem dX9_joint_163 : decode cX9_joint 163 = .ok (.iload 5, 2) := by decide +kernel
theorem dX9_joint_165 : decode cX9_joint 165 = .ok (.iload_n 3, 1) := by decide +kernel
theorem dX9_joint_166 : decode cX9_joint 166 = .ok (.invokevirtual 321, 3) := by decide +kernel
theorem dX9_joint_169 : decode cX9_joint 169 = .ok (.ifCond .eq 17, 3) := by decide +kernel
theorem dX9_joint_172 : decode cX9_joint 172 = .ok (.aload_n 0, 1) := by decide +kernel
theorem dX9_joint_173 : decode cX9_joint 173 = .ok (.iload 5, 2) := by decide +kernel
theorem dX9_joint_175 : decode cX9_joint 175 = .ok (.iload 4, 2) := by decide +kernel
theorem dX9_joint_177 : decode cX9_joint 177 = .ok (.invokevirtual 344, 3) := by decide +kernel
theorem dX9_joint_180 : decode cX9_joint 180 = .ok (.ifCond .eq 6, 3) := by decide +kernel
theorem dX9_joint_183 : decode cX9_joint 183 = .ok (.iload 5, 2) := by decide +kernel
theorem dX9_joint_185 : decode cX9_joint 185 = .ok (.ireturn, 1) := by decide +kernel
theorem dX9_joint_186 : decode cX9_joint 186 = .ok (.iinc 5 1, 3) := by decide +kernel
theorem dX9_joint_189 : decode cX9_joint 189 = .ok (.goto (-34), 3) := by decide +kernel
theorem dX9_joint_192 : decode cX9_joint 192 = .ok (.iconst (-1), 1) := by decide +kernel
theorem dX9_joint_193 : decode cX9_joint 193 = .ok (.ireturn, 1) := by decide +kernel
theorem dX9_cantBe_0 : decode cX9_cantBe 0 = .ok (.aload_n 0, 1) := by decide +kernel
theorem dX9_cantBe_1 : decode cX9_cantBe 1 = .ok (.iload_n 1, 1) := by decide +kernel
theorem dX9_cantBe_2 : decode cX9_cantBe 2 = .ok (.aload_n 0, 1) := by decide +kernel
theorem dX9_cantBe_3 : decode cX9_cantBe 3 = .ok (.getfield 288, 3) := by decide +kernel
theorem dX9_cantBe_6 : decode cX9_cantBe 6 = .ok (.invokevirtual 337, 3) := by decide +kernel
theorem dX9_cantBe_9 : decode cX9_cantBe 9 = .ok (.aload_n 0, 1) := by decide +kernel
theorem dX9_cantBe_10 : decode cX9_cantBe 10 = .ok (.iload_n 2, 1) := by decide +kernel
theorem dX9_cantBe_11 : decode cX9_cantBe 11 = .ok (.invokevirtual 353, 3) := by decide +kernel
theorem dX9_cantBe_14 : decode cX9_cantBe 14 = .ok (.iconst 0, 1) := by decide +kernel
theorem dX9_cantBe_15 : decode cX9_cantBe 15 = .ok (.istore_n 3, 1) := by decide +kernel
theorem dX9_cantBe_16 : decode cX9_cantBe 16 = .ok (.iconst 1, 1) := by decide +kernel
theorem dX9_cantBe_17 : decode cX9_cantBe 17 = .ok (.istore 4, 2) := by decide +kernel
theorem dX9_cantBe_19 : decode cX9_cantBe 19 = .ok (.iload 4, 2) := by decide +kernel
theorem dX9_cantBe_21 : decode cX9_cantBe 21 = .ok (.sipush 200, 3) := by decide +kernel
theorem dX9_cantBe_24 : decode cX9_cantBe 24 = .ok (.if_icmp .gt 27, 3) := by decide +kernel
theorem dX9_cantBe_27 : decode cX9_cantBe 27 = .ok (.iload_n 3, 1) := by decide +kernel
theorem dX9_cantBe_28 : decode cX9_cantBe 28 = .ok (.aload_n 0, 1) := by decide +kernel
theorem dX9_cantBe_29 : decode cX9_cantBe 29 = .ok (.iload 4, 2) := by decide +kernel
theorem dX9_cantBe_31 : decode cX9_cantBe 31 = .ok (.iload_n 2, 1) := by decide +kernel
theorem dX9_cantBe_32 : decode cX9_cantBe 32 = .ok (.invokevirtual 356, 3) := by decide +kernel
theorem dX9_cantBe_35 : decode cX9_cantBe 35 = .ok (.ifCond .eq 7, 3) := by decide +kernel
theorem dX9_cantBe_38 : decode cX9_cantBe 38 = .ok (.iconst 0, 1) := by decide +kernel
theorem dX9_cantBe_39 : decode cX9_cantBe 39 = .ok (.goto 4, 3) := by decide +kernel
theorem dX9_cantBe_42 : decode cX9_cantBe 42 = .ok (.iconst 1, 1) := by decide +kernel
theorem dX9_cantBe_43 : decode cX9_cantBe 43 = .ok (.iadd, 1) := by decide +kernel
theorem dX9_cantBe_44 : decode cX9_cantBe 44 = .ok (.istore_n 3, 1) := by decide +kernel
theorem dX9_cantBe_45 : decode cX9_cantBe 45 = .ok (.iinc 4 1, 3) := by decide +kernel
theorem dX9_cantBe_48 : decode cX9_cantBe 48 = .ok (.goto (-29), 3) := by decide +kernel
theorem dX9_cantBe_51 : decode cX9_cantBe 51 = .ok (.iload_n 3, 1) := by decide +kernel
theorem dX9_cantBe_52 : decode cX9_cantBe 52 = .ok (.ireturn, 1) := by decide +kernel
theorem dX9_worst_0 : decode cX9_worst 0 = .ok (.aload_n 0, 1) := by decide +kernel
theorem dX9_worst_1 : decode cX9_worst 1 = .ok (.iconst 0, 1) := by decide +kernel
theorem dX9_worst_2 : decode cX9_worst 2 = .ok (.putfield 128, 3) := by decide +kernel
theorem dX9_worst_5 : decode cX9_worst 5 = .ok (.aload_n 0, 1) := by decide +kernel
theorem dX9_worst_6 : decode cX9_worst 6 = .ok (.iload_n 1, 1) := by decide +kernel
theorem dX9_worst_7 : decode cX9_worst 7 = .ok (.invokevirtual 299, 3) := by decide +kernel
theorem dX9_worst_10 : decode cX9_worst 10 = .ok (.ifCond .eq 20, 3) := by decide +kernel
theorem dX9_worst_13 : decode cX9_worst 13 = .ok (.iload_n 2, 1) := by decide +kernel
theorem dX9_worst_14 : decode cX9_worst 14 = .ok (.invokestatic 334, 3) := by decide +kernel
theorem dX9_worst_17 : decode cX9_worst 17 = .ok (.ifCond .eq 13, 3) := by decide +kernel
theorem dX9_worst_20 : decode cX9_worst 20 = .ok (.iload_n 3, 1) := by decide +kernel
theorem dX9_worst_21 : decode cX9_worst 21 = .ok (.i2l, 1) := by decide +kernel
theorem dX9_worst_22 : decode cX9_worst 22 = .ok (.lconst 0, 1) := by decide +kernel
theorem dX9_worst_23 : decode cX9_worst 23 = .ok (.lconst 1, 1) := by decide +kernel
theorem dX9_worst_24 : decode cX9_worst 24 = .ok (.invokestatic 261, 3) := by decide +kernel
theorem dX9_worst_27 : decode cX9_worst 27 = .ok (.ifCond .ne 5, 3) := by decide +kernel
theorem dX9_worst_30 : decode cX9_worst 30 = .ok (.iconst (-1), 1) := by decide +kernel
theorem dX9_worst_31 : decode cX9_worst 31 = .ok (.ireturn, 1) := by decide +kernel
theorem dX9_worst_32 : decode cX9_worst 32 = .ok (.iconst (-1), 1) := by decide +kernel
theorem dX9_worst_33 : decode cX9_worst 33 = .ok (.istore 4, 2) := by decide +kernel
theorem dX9_worst_35 : decode cX9_worst 35 = .ok (.iconst 0, 1) := by decide +kernel
theorem dX9_worst_36 : decode cX9_worst 36 = .ok (.istore 5, 2) := by decide +kernel
theorem dX9_worst_38 : decode cX9_worst 38 = .ok (.aload_n 0, 1) := by decide +kernel
theorem dX9_worst_39 : decode cX9_worst 39 = .ok (.iload_n 1, 1) := by decide +kernel
theorem dX9_worst_40 : decode cX9_worst 40 = .ok (.putfield 61, 3) := by decide +kernel
theorem dX9_worst_43 : decode cX9_worst 43 = .ok (.iconst 1, 1) := by decide +kernel
theorem dX9_worst_44 : decode cX9_worst 44 = .ok (.istore 6, 2) := by decide +kernel
theorem dX9_worst_46 : decode cX9_worst 46 = .ok (.iload 6, 2) := by decide +kernel
theorem dX9_worst_48 : decode cX9_worst 48 = .ok (.bipush 30, 2) := by decide +kernel
theorem dX9_worst_50 : decode cX9_worst 50 = .ok (.if_icmp .gt 47, 3) := by decide +kernel
theorem dX9_worst_53 : decode cX9_worst 53 = .ok (.aload_n 0, 1) := by decide +kernel
theorem dX9_worst_54 : decode cX9_worst 54 = .ok (.iload 6, 2) := by decide +kernel
theorem dX9_worst_56 : decode cX9_worst 56 = .ok (.putfield 296, 3) := by decide +kernel
theorem dX9_worst_59 : decode cX9_worst 59 = .ok (.aload_n 0, 1) := by decide +kernel
theorem dX9_worst_60 : decode cX9_worst 60 = .ok (.iload_n 1, 1) := by decide +kernel
theorem dX9_worst_61 : decode cX9_worst 61 = .ok (.iload_n 2, 1) := by decide +kernel
theorem dX9_worst_62 : decode cX9_worst 62 = .ok (.invokevirtual 440, 3) := by decide +kernel
theorem dX9_worst_65 : decode cX9_worst 65 = .ok (.istore 7, 2) := by decide +kernel
theorem dX9_worst_67 : decode cX9_worst 67 = .ok (.iload 4, 2) := by decide +kernel
theorem dX9_worst_69 : decode cX9_worst 69 = .ok (.iconst (-1), 1) := by decide +kernel
theorem dX9_worst_70 : decode cX9_worst 70 = .ok (.if_icmp .eq 13, 3) := by decide +kernel
theorem dX9_worst_73 : decode cX9_worst 73 = .ok (.iload 7, 2) := by decide +kernel
theorem dX9_worst_75 : decode cX9_worst 75 = .ok (.iload 5, 2) := by decide +kernel
theorem dX9_worst_77 : decode cX9_worst 77 = .ok (.if_icmp .gt 6, 3) := by decide +kernel
theorem dX9_worst_80 : decode cX9_worst 80 = .ok (.goto 11, 3) := by decide +kernel
theorem dX9_worst_83 : decode cX9_worst 83 = .ok (.iload 6, 2) := by decide +kernel
theorem dX9_worst_85 : decode cX9_worst 85 = .ok (.istore 4, 2) := by decide +kernel
theorem dX9_worst_87 : decode cX9_worst 87 = .ok (.iload 7, 2) := by decide +kernel
theorem dX9_worst_89 : decode cX9_worst 89 = .ok (.istore 5, 2) := by decide +kernel
theorem dX9_worst_91 : decode cX9_worst 91 = .ok (.iinc 6 1, 3) := by decide +kernel
theorem dX9_worst_94 : decode cX9_worst 94 = .ok (.goto (-48), 3) := by decide +kernel
theorem dX9_worst_97 : decode cX9_worst 97 = .ok (.aload_n 0, 1) := by decide +kernel
theorem dX9_worst_98 : decode cX9_worst 98 = .ok (.iconst (-1), 1) := by decide +kernel
theorem dX9_worst_99 : decode cX9_worst 99 = .ok (.putfield 61, 3) := by decide +kernel
theorem dX9_worst_102 : decode cX9_worst 102 = .ok (.iload_n 3, 1) := by decide +kernel
theorem dX9_worst_103 : decode cX9_worst 103 = .ok (.ifCond .ne 8, 3) := by decide +kernel
theorem dX9_worst_106 : decode cX9_worst 106 = .ok (.iload 4, 2) := by decide +kernel
theorem dX9_worst_108 : decode cX9_worst 108 = .ok (.goto 5, 3) := by decide +kernel
theorem dX9_worst_111 : decode cX9_worst 111 = .ok (.iload 5, 2) := by decide +kernel
theorem dX9_worst_113 : decode cX9_worst 113 = .ok (.ireturn, 1) := by decide +kernel
theorem dX9_finesOf_0 : decode cX9_finesOf 0 = .ok (.iconst 0, 1) := by decide +kernel
theorem dX9_finesOf_1 : decode cX9_finesOf 1 = .ok (.istore_n 2, 1) := by decide +kernel
theorem dX9_finesOf_2 : decode cX9_finesOf 2 = .ok (.iconst 0, 1) := by decide +kernel
theorem dX9_finesOf_3 : decode cX9_finesOf 3 = .ok (.istore_n 3, 1) := by decide +kernel
theorem dX9_finesOf_4 : decode cX9_finesOf 4 = .ok (.iload_n 3, 1) := by decide +kernel
theorem dX9_finesOf_5 : decode cX9_finesOf 5 = .ok (.aload_n 0, 1) := by decide +kernel
theorem dX9_finesOf_6 : decode cX9_finesOf 6 = .ok (.getfield 285, 3) := by decide +kernel
theorem dX9_finesOf_9 : decode cX9_finesOf 9 = .ok (.if_icmp .ge 40, 3) := by decide +kernel
theorem dX9_finesOf_12 : decode cX9_finesOf 12 = .ok (.iload_n 2, 1) := by decide +kernel
theorem dX9_finesOf_13 : decode cX9_finesOf 13 = .ok (.aload_n 0, 1) := by decide +kernel
theorem dX9_finesOf_14 : decode cX9_finesOf 14 = .ok (.getfield 104, 3) := by decide +kernel
theorem dX9_finesOf_17 : decode cX9_finesOf 17 = .ok (.iload_n 3, 1) := by decide +kernel
theorem dX9_finesOf_18 : decode cX9_finesOf 18 = .ok (.iaload, 1) := by decide +kernel
theorem dX9_finesOf_19 : decode cX9_finesOf 19 = .ok (.iload_n 1, 1) := by decide +kernel
theorem dX9_finesOf_20 : decode cX9_finesOf 20 = .ok (.if_icmp .ne 20, 3) := by decide +kernel
theorem dX9_finesOf_23 : decode cX9_finesOf 23 = .ok (.aload_n 0, 1) := by decide +kernel
theorem dX9_finesOf_24 : decode cX9_finesOf 24 = .ok (.iload_n 3, 1) := by decide +kernel
theorem dX9_finesOf_25 : decode cX9_finesOf 25 = .ok (.invokevirtual 429, 3) := by decide +kernel
theorem dX9_finesOf_28 : decode cX9_finesOf 28 = .ok (.ifCond .eq 12, 3) := by decide +kernel
theorem dX9_finesOf_31 : decode cX9_finesOf 31 = .ok (.aload_n 0, 1) := by decide +kernel
theorem dX9_finesOf_32 : decode cX9_finesOf 32 = .ok (.getfield 107, 3) := by decide +kernel
theorem dX9_finesOf_35 : decode cX9_finesOf 35 = .ok (.iload_n 3, 1) := by decide +kernel
theorem dX9_finesOf_36 : decode cX9_finesOf 36 = .ok (.iaload, 1) := by decide +kernel
theorem dX9_finesOf_37 : decode cX9_finesOf 37 = .ok (.goto 4, 3) := by decide +kernel
theorem dX9_finesOf_40 : decode cX9_finesOf 40 = .ok (.iconst 0, 1) := by decide +kernel
theorem dX9_finesOf_41 : decode cX9_finesOf 41 = .ok (.iadd, 1) := by decide +kernel
theorem dX9_finesOf_42 : decode cX9_finesOf 42 = .ok (.istore_n 2, 1) := by decide +kernel
theorem dX9_finesOf_43 : decode cX9_finesOf 43 = .ok (.iinc 3 1, 3) := by decide +kernel
theorem dX9_finesOf_46 : decode cX9_finesOf 46 = .ok (.goto (-42), 3) := by decide +kernel
theorem dX9_finesOf_49 : decode cX9_finesOf 49 = .ok (.iload_n 2, 1) := by decide +kernel
theorem dX9_finesOf_50 : decode cX9_finesOf 50 = .ok (.ireturn, 1) := by decide +kernel
theorem dX9_owes_0 : decode cX9_owes 0 = .ok (.aload_n 0, 1) := by decide +kernel
theorem dX9_owes_1 : decode cX9_owes 1 = .ok (.iconst 0, 1) := by decide +kernel
theorem dX9_owes_2 : decode cX9_owes 2 = .ok (.putfield 128, 3) := by decide +kernel
theorem dX9_owes_5 : decode cX9_owes 5 = .ok (.iconst (-1), 1) := by decide +kernel
theorem dX9_owes_6 : decode cX9_owes 6 = .ok (.istore_n 1, 1) := by decide +kernel
theorem dX9_owes_7 : decode cX9_owes 7 = .ok (.iconst 0, 1) := by decide +kernel
theorem dX9_owes_8 : decode cX9_owes 8 = .ok (.istore_n 2, 1) := by decide +kernel
theorem dX9_owes_9 : decode cX9_owes 9 = .ok (.iload_n 2, 1) := by decide +kernel
theorem dX9_owes_10 : decode cX9_owes 10 = .ok (.aload_n 0, 1) := by decide +kernel
theorem dX9_owes_11 : decode cX9_owes 11 = .ok (.getfield 276, 3) := by decide +kernel
theorem dX9_owes_14 : decode cX9_owes 14 = .ok (.if_icmp .ge 37, 3) := by decide +kernel
theorem dX9_owes_17 : decode cX9_owes 17 = .ok (.aload_n 0, 1) := by decide +kernel
theorem dX9_owes_18 : decode cX9_owes 18 = .ok (.iload_n 2, 1) := by decide +kernel
theorem dX9_owes_19 : decode cX9_owes 19 = .ok (.invokevirtual 432, 3) := by decide +kernel
theorem dX9_owes_22 : decode cX9_owes 22 = .ok (.ifCond .le 23, 3) := by decide +kernel
theorem dX9_owes_25 : decode cX9_owes 25 = .ok (.iload_n 1, 1) := by decide +kernel
theorem dX9_owes_26 : decode cX9_owes 26 = .ok (.iconst (-1), 1) := by decide +kernel
theorem dX9_owes_27 : decode cX9_owes 27 = .ok (.if_icmp .eq 16, 3) := by decide +kernel
theorem dX9_owes_30 : decode cX9_owes 30 = .ok (.aload_n 0, 1) := by decide +kernel
theorem dX9_owes_31 : decode cX9_owes 31 = .ok (.iload_n 2, 1) := by decide +kernel
theorem dX9_owes_32 : decode cX9_owes 32 = .ok (.invokevirtual 432, 3) := by decide +kernel
theorem dX9_owes_35 : decode cX9_owes 35 = .ok (.aload_n 0, 1) := by decide +kernel
theorem dX9_owes_36 : decode cX9_owes 36 = .ok (.iload_n 1, 1) := by decide +kernel
theorem dX9_owes_37 : decode cX9_owes 37 = .ok (.invokevirtual 432, 3) := by decide +kernel
theorem dX9_owes_40 : decode cX9_owes 40 = .ok (.if_icmp .le 5, 3) := by decide +kernel
theorem dX9_owes_43 : decode cX9_owes 43 = .ok (.iload_n 2, 1) := by decide +kernel
theorem dX9_owes_44 : decode cX9_owes 44 = .ok (.istore_n 1, 1) := by decide +kernel
theorem dX9_owes_45 : decode cX9_owes 45 = .ok (.iinc 2 1, 3) := by decide +kernel
theorem dX9_owes_48 : decode cX9_owes 48 = .ok (.goto (-39), 3) := by decide +kernel
theorem dX9_owes_51 : decode cX9_owes 51 = .ok (.iload_n 1, 1) := by decide +kernel
theorem dX9_owes_52 : decode cX9_owes 52 = .ok (.ireturn, 1) := by decide +kernel
theorem dX9_layDates_0 : decode cX9_layDates 0 = .ok (.iconst 0, 1) := by decide +kernel
theorem dX9_layDates_1 : decode cX9_layDates 1 = .ok (.istore 4, 2) := by decide +kernel
theorem dX9_layDates_3 : decode cX9_layDates 3 = .ok (.iconst 0, 1) := by decide +kernel
theorem dX9_layDates_4 : decode cX9_layDates 4 = .ok (.istore 5, 2) := by decide +kernel
theorem dX9_layDates_6 : decode cX9_layDates 6 = .ok (.iload 5, 2) := by decide +kernel
theorem dX9_layDates_8 : decode cX9_layDates 8 = .ok (.iload_n 2, 1) := by decide +kernel
theorem dX9_layDates_9 : decode cX9_layDates 9 = .ok (.if_icmp .gt 77, 3) := by decide +kernel
theorem dX9_layDates_12 : decode cX9_layDates 12 = .ok (.bipush 99, 2) := by decide +kernel
theorem dX9_layDates_14 : decode cX9_layDates 14 = .ok (.aload_n 0, 1) := by decide +kernel
theorem dX9_layDates_15 : decode cX9_layDates 15 = .ok (.getfield 288, 3) := by decide +kernel
theorem dX9_layDates_18 : decode cX9_layDates 18 = .ok (.iload 5, 2) := by decide +kernel
theorem dX9_layDates_20 : decode cX9_layDates 20 = .ok (.iadd, 1) := by decide +kernel
theorem dX9_layDates_21 : decode cX9_layDates 21 = .ok (.invokestatic 347, 3) := by decide +kernel
theorem dX9_layDates_24 : decode cX9_layDates 24 = .ok (.istore 6, 2) := by decide +kernel
theorem dX9_layDates_26 : decode cX9_layDates 26 = .ok (.iconst 0, 1) := by decide +kernel
theorem dX9_layDates_27 : decode cX9_layDates 27 = .ok (.istore 7, 2) := by decide +kernel
theorem dX9_layDates_29 : decode cX9_layDates 29 = .ok (.iload 4, 2) := by decide +kernel
theorem dX9_layDates_31 : decode cX9_layDates 31 = .ok (.bipush 30, 2) := by decide +kernel
theorem dX9_layDates_33 : decode cX9_layDates 33 = .ok (.irem, 1) := by decide +kernel
theorem dX9_layDates_34 : decode cX9_layDates 34 = .ok (.iconst 1, 1) := by decide +kernel
theorem dX9_layDates_35 : decode cX9_layDates 35 = .ok (.iadd, 1) := by decide +kernel
theorem dX9_layDates_36 : decode cX9_layDates 36 = .ok (.istore 4, 2) := by decide +kernel
theorem dX9_layDates_38 : decode cX9_layDates 38 = .ok (.iinc 7 1, 3) := by decide +kernel
theorem dX9_layDates_41 : decode cX9_layDates 41 = .ok (.iload 7, 2) := by decide +kernel
theorem dX9_layDates_43 : decode cX9_layDates 43 = .ok (.bipush 30, 2) := by decide +kernel
theorem dX9_layDates_45 : decode cX9_layDates 45 = .ok (.if_icmp .ge 15, 3) := by decide +kernel
theorem dX9_layDates_48 : decode cX9_layDates 48 = .ok (.aload_n 0, 1) := by decide +kernel
theorem dX9_layDates_49 : decode cX9_layDates 49 = .ok (.iload_n 1, 1) := by decide +kernel
theorem dX9_layDates_50 : decode cX9_layDates 50 = .ok (.iload 4, 2) := by decide +kernel
theorem dX9_layDates_52 : decode cX9_layDates 52 = .ok (.iload 6, 2) := by decide +kernel
theorem dX9_layDates_54 : decode cX9_layDates 54 = .ok (.invokevirtual 311, 3) := by decide +kernel
theorem dX9_layDates_57 : decode cX9_layDates 57 = .ok (.ifCond .ne (-28), 3) := by decide +kernel
theorem dX9_layDates_60 : decode cX9_layDates 60 = .ok (.aload_n 0, 1) := by decide +kernel
theorem dX9_layDates_61 : decode cX9_layDates 61 = .ok (.iload_n 1, 1) := by decide +kernel
theorem dX9_layDates_62 : decode cX9_layDates 62 = .ok (.iload 4, 2) := by decide +kernel
theorem dX9_layDates_64 : decode cX9_layDates 64 = .ok (.iload 6, 2) := by decide +kernel
theorem dX9_layDates_66 : decode cX9_layDates 66 = .ok (.invokevirtual 311, 3) := by decide +kernel
theorem dX9_layDates_69 : decode cX9_layDates 69 = .ok (.ifCond .eq 5, 3) := by decide +kernel
theorem dX9_layDates_72 : decode cX9_layDates 72 = .ok (.iconst 0, 1) := by decide +kernel
theorem dX9_layDates_73 : decode cX9_layDates 73 = .ok (.ireturn, 1) := by decide +kernel
theorem dX9_layDates_74 : decode cX9_layDates 74 = .ok (.aload_n 3, 1) := by decide +kernel
theorem dX9_layDates_75 : decode cX9_layDates 75 = .ok (.iload 5, 2) := by decide +kernel
theorem dX9_layDates_77 : decode cX9_layDates 77 = .ok (.iload 4, 2) := by decide +kernel
theorem dX9_layDates_79 : decode cX9_layDates 79 = .ok (.iastore, 1) := by decide +kernel
theorem dX9_layDates_80 : decode cX9_layDates 80 = .ok (.iinc 5 1, 3) := by decide +kernel
theorem dX9_layDates_83 : decode cX9_layDates 83 = .ok (.goto (-77), 3) := by decide +kernel
theorem dX9_layDates_86 : decode cX9_layDates 86 = .ok (.iconst 1, 1) := by decide +kernel
theorem dX9_layDates_87 : decode cX9_layDates 87 = .ok (.ireturn, 1) := by decide +kernel
theorem dX9_calendar_0 : decode cX9_calendar 0 = .ok (.aload_n 0, 1) := by decide +kernel
theorem dX9_calendar_1 : decode cX9_calendar 1 = .ok (.iconst 0, 1) := by decide +kernel
theorem dX9_calendar_2 : decode cX9_calendar 2 = .ok (.putfield 128, 3) := by decide +kernel
theorem dX9_calendar_5 : decode cX9_calendar 5 = .ok (.aload_n 0, 1) := by decide +kernel
theorem dX9_calendar_6 : decode cX9_calendar 6 = .ok (.iload_n 1, 1) := by decide +kernel
theorem dX9_calendar_7 : decode cX9_calendar 7 = .ok (.invokevirtual 299, 3) := by decide +kernel
theorem dX9_calendar_10 : decode cX9_calendar 10 = .ok (.ifCond .eq 37, 3) := by decide +kernel
theorem dX9_calendar_13 : decode cX9_calendar 13 = .ok (.iload_n 2, 1) := by decide +kernel
theorem dX9_calendar_14 : decode cX9_calendar 14 = .ok (.i2l, 1) := by decide +kernel
theorem dX9_calendar_15 : decode cX9_calendar 15 = .ok (.lconst 0, 1) := by decide +kernel
theorem dX9_calendar_16 : decode cX9_calendar 16 = .ok (.ldc2_w 443, 3) := by decide +kernel
theorem dX9_calendar_19 : decode cX9_calendar 19 = .ok (.invokestatic 261, 3) := by decide +kernel
theorem dX9_calendar_22 : decode cX9_calendar 22 = .ok (.ifCond .eq 25, 3) := by decide +kernel
theorem dX9_calendar_25 : decode cX9_calendar 25 = .ok (.aload_n 0, 1) := by decide +kernel
theorem dX9_calendar_26 : decode cX9_calendar 26 = .ok (.iload_n 1, 1) := by decide +kernel
theorem dX9_calendar_27 : decode cX9_calendar 27 = .ok (.iload_n 2, 1) := by decide +kernel
theorem dX9_calendar_28 : decode cX9_calendar 28 = .ok (.aload_n 0, 1) := by decide +kernel
theorem dX9_calendar_29 : decode cX9_calendar 29 = .ok (.getfield 119, 3) := by decide +kernel
theorem dX9_calendar_32 : decode cX9_calendar 32 = .ok (.invokevirtual 445, 3) := by decide +kernel
theorem dX9_calendar_35 : decode cX9_calendar 35 = .ok (.ifCond .eq 12, 3) := by decide +kernel
theorem dX9_calendar_38 : decode cX9_calendar 38 = .ok (.aload_n 0, 1) := by decide +kernel
theorem dX9_calendar_39 : decode cX9_calendar 39 = .ok (.getfield 119, 3) := by decide +kernel
theorem dX9_calendar_42 : decode cX9_calendar 42 = .ok (.iload_n 2, 1) := by decide +kernel
theorem dX9_calendar_43 : decode cX9_calendar 43 = .ok (.iaload, 1) := by decide +kernel
theorem dX9_calendar_44 : decode cX9_calendar 44 = .ok (.goto 4, 3) := by decide +kernel
theorem dX9_calendar_47 : decode cX9_calendar 47 = .ok (.iconst (-1), 1) := by decide +kernel
theorem dX9_calendar_48 : decode cX9_calendar 48 = .ok (.ireturn, 1) := by decide +kernel
theorem dX9_twins_0 : decode cX9_twins 0 = .ok (.aload_n 0, 1) := by decide +kernel
theorem dX9_twins_1 : decode cX9_twins 1 = .ok (.iconst 0, 1) := by decide +kernel
theorem dX9_twins_2 : decode cX9_twins 2 = .ok (.putfield 128, 3) := by decide +kernel
theorem dX9_twins_5 : decode cX9_twins 5 = .ok (.aload_n 0, 1) := by decide +kernel
theorem dX9_twins_6 : decode cX9_twins 6 = .ok (.iload_n 1, 1) := by decide +kernel
theorem dX9_twins_7 : decode cX9_twins 7 = .ok (.invokevirtual 299, 3) := by decide +kernel
theorem dX9_twins_10 : decode cX9_twins 10 = .ok (.ifCond .eq 54, 3) := by decide +kernel
theorem dX9_twins_13 : decode cX9_twins 13 = .ok (.aload_n 0, 1) := by decide +kernel
theorem dX9_twins_14 : decode cX9_twins 14 = .ok (.iload_n 2, 1) := by decide +kernel
theorem dX9_twins_15 : decode cX9_twins 15 = .ok (.invokevirtual 299, 3) := by decide +kernel
theorem dX9_twins_18 : decode cX9_twins 18 = .ok (.ifCond .eq 46, 3) := by decide +kernel
theorem dX9_twins_21 : decode cX9_twins 21 = .ok (.iload_n 1, 1) := by decide +kernel
theorem dX9_twins_22 : decode cX9_twins 22 = .ok (.iload_n 2, 1) := by decide +kernel
theorem dX9_twins_23 : decode cX9_twins 23 = .ok (.if_icmp .eq 41, 3) := by decide +kernel
theorem dX9_twins_26 : decode cX9_twins 26 = .ok (.iload_n 3, 1) := by decide +kernel
theorem dX9_twins_27 : decode cX9_twins 27 = .ok (.i2l, 1) := by decide +kernel
theorem dX9_twins_28 : decode cX9_twins 28 = .ok (.lconst 0, 1) := by decide +kernel
theorem dX9_twins_29 : decode cX9_twins 29 = .ok (.ldc2_w 443, 3) := by decide +kernel
theorem dX9_twins_32 : decode cX9_twins 32 = .ok (.invokestatic 261, 3) := by decide +kernel
theorem dX9_twins_35 : decode cX9_twins 35 = .ok (.ifCond .eq 29, 3) := by decide +kernel
theorem dX9_twins_38 : decode cX9_twins 38 = .ok (.aload_n 0, 1) := by decide +kernel
theorem dX9_twins_39 : decode cX9_twins 39 = .ok (.iload_n 1, 1) := by decide +kernel
theorem dX9_twins_40 : decode cX9_twins 40 = .ok (.iload_n 3, 1) := by decide +kernel
theorem dX9_twins_41 : decode cX9_twins 41 = .ok (.aload_n 0, 1) := by decide +kernel
theorem dX9_twins_42 : decode cX9_twins 42 = .ok (.getfield 119, 3) := by decide +kernel
theorem dX9_twins_45 : decode cX9_twins 45 = .ok (.invokevirtual 445, 3) := by decide +kernel
theorem dX9_twins_48 : decode cX9_twins 48 = .ok (.ifCond .eq 16, 3) := by decide +kernel
theorem dX9_twins_51 : decode cX9_twins 51 = .ok (.aload_n 0, 1) := by decide +kernel
theorem dX9_twins_52 : decode cX9_twins 52 = .ok (.iload_n 2, 1) := by decide +kernel
theorem dX9_twins_53 : decode cX9_twins 53 = .ok (.iload_n 3, 1) := by decide +kernel
theorem dX9_twins_54 : decode cX9_twins 54 = .ok (.aload_n 0, 1) := by decide +kernel
theorem dX9_twins_55 : decode cX9_twins 55 = .ok (.getfield 122, 3) := by decide +kernel
theorem dX9_twins_58 : decode cX9_twins 58 = .ok (.invokevirtual 445, 3) := by decide +kernel
theorem dX9_twins_61 : decode cX9_twins 61 = .ok (.ifCond .ne 5, 3) := by decide +kernel
theorem dX9_twins_64 : decode cX9_twins 64 = .ok (.iconst (-1), 1) := by decide +kernel
theorem dX9_twins_65 : decode cX9_twins 65 = .ok (.ireturn, 1) := by decide +kernel
theorem dX9_twins_66 : decode cX9_twins 66 = .ok (.iconst 0, 1) := by decide +kernel
theorem dX9_twins_67 : decode cX9_twins 67 = .ok (.istore 4, 2) := by decide +kernel
theorem dX9_twins_69 : decode cX9_twins 69 = .ok (.iconst 0, 1) := by decide +kernel
theorem dX9_twins_70 : decode cX9_twins 70 = .ok (.istore 5, 2) := by decide +kernel
theorem dX9_twins_72 : decode cX9_twins 72 = .ok (.iload 5, 2) := by decide +kernel
theorem dX9_twins_74 : decode cX9_twins 74 = .ok (.iload_n 3, 1) := by decide +kernel
theorem dX9_twins_75 : decode cX9_twins 75 = .ok (.if_icmp .gt 36, 3) := by decide +kernel
theorem dX9_twins_78 : decode cX9_twins 78 = .ok (.iload 4, 2) := by decide +kernel
theorem dX9_twins_80 : decode cX9_twins 80 = .ok (.aload_n 0, 1) := by decide +kernel
theorem dX9_twins_81 : decode cX9_twins 81 = .ok (.getfield 119, 3) := by decide +kernel
theorem dX9_twins_84 : decode cX9_twins 84 = .ok (.iload 5, 2) := by decide +kernel
theorem dX9_twins_86 : decode cX9_twins 86 = .ok (.iaload, 1) := by decide +kernel
theorem dX9_twins_87 : decode cX9_twins 87 = .ok (.aload_n 0, 1) := by decide +kernel
theorem dX9_twins_88 : decode cX9_twins 88 = .ok (.getfield 122, 3) := by decide +kernel
theorem dX9_twins_91 : decode cX9_twins 91 = .ok (.iload 5, 2) := by decide +kernel
theorem dX9_twins_93 : decode cX9_twins 93 = .ok (.iaload, 1) := by decide +kernel
theorem dX9_twins_94 : decode cX9_twins 94 = .ok (.if_icmp .ne 7, 3) := by decide +kernel
theorem dX9_twins_97 : decode cX9_twins 97 = .ok (.iconst 1, 1) := by decide +kernel
theorem dX9_twins_98 : decode cX9_twins 98 = .ok (.goto 4, 3) := by decide +kernel
theorem dX9_twins_101 : decode cX9_twins 101 = .ok (.iconst 0, 1) := by decide +kernel
theorem dX9_twins_102 : decode cX9_twins 102 = .ok (.iadd, 1) := by decide +kernel
theorem dX9_twins_103 : decode cX9_twins 103 = .ok (.istore 4, 2) := by decide +kernel
theorem dX9_twins_105 : decode cX9_twins 105 = .ok (.iinc 5 1, 3) := by decide +kernel
theorem dX9_twins_108 : decode cX9_twins 108 = .ok (.goto (-36), 3) := by decide +kernel
theorem dX9_twins_111 : decode cX9_twins 111 = .ok (.iload 4, 2) := by decide +kernel
theorem dX9_twins_113 : decode cX9_twins 113 = .ok (.ireturn, 1) := by decide +kernel
theorem dX9_image_0 : decode cX9_image 0 = .ok (.aload_n 0, 1) := by decide +kernel
theorem dX9_image_1 : decode cX9_image 1 = .ok (.iconst 0, 1) := by decide +kernel
theorem dX9_image_2 : decode cX9_image 2 = .ok (.putfield 128, 3) := by decide +kernel
theorem dX9_image_5 : decode cX9_image 5 = .ok (.aload_n 0, 1) := by decide +kernel
theorem dX9_image_6 : decode cX9_image 6 = .ok (.getfield 276, 3) := by decide +kernel
theorem dX9_image_9 : decode cX9_image 9 = .ok (.ifCond .ne 5, 3) := by decide +kernel
theorem dX9_image_12 : decode cX9_image 12 = .ok (.iconst (-1), 1) := by decide +kernel
theorem dX9_image_13 : decode cX9_image 13 = .ok (.ireturn, 1) := by decide +kernel
theorem dX9_image_14 : decode cX9_image 14 = .ok (.iconst 0, 1) := by decide +kernel
theorem dX9_image_15 : decode cX9_image 15 = .ok (.istore_n 1, 1) := by decide +kernel
theorem dX9_image_16 : decode cX9_image 16 = .ok (.iload_n 1, 1) := by decide +kernel
theorem dX9_image_17 : decode cX9_image 17 = .ok (.bipush 20, 2) := by decide +kernel
theorem dX9_image_19 : decode cX9_image 19 = .ok (.if_icmp .ge 55, 3) := by decide +kernel
theorem dX9_image_22 : decode cX9_image 22 = .ok (.aload_n 0, 1) := by decide +kernel
theorem dX9_image_23 : decode cX9_image 23 = .ok (.getfield 125, 3) := by decide +kernel
theorem dX9_image_26 : decode cX9_image 26 = .ok (.iconst 3, 1) := by decide +kernel
theorem dX9_image_27 : decode cX9_image 27 = .ok (.iload_n 1, 1) := by decide +kernel
theorem dX9_image_28 : decode cX9_image 28 = .ok (.imul, 1) := by decide +kernel
theorem dX9_image_29 : decode cX9_image 29 = .ok (.aload_n 0, 1) := by decide +kernel
theorem dX9_image_30 : decode cX9_image 30 = .ok (.getfield 52, 3) := by decide +kernel
theorem dX9_image_33 : decode cX9_image 33 = .ok (.iload_n 1, 1) := by decide +kernel
theorem dX9_image_34 : decode cX9_image 34 = .ok (.iaload, 1) := by decide +kernel
theorem dX9_image_35 : decode cX9_image 35 = .ok (.iastore, 1) := by decide +kernel
theorem dX9_image_36 : decode cX9_image 36 = .ok (.aload_n 0, 1) := by decide +kernel
theorem dX9_image_37 : decode cX9_image 37 = .ok (.getfield 125, 3) := by decide +kernel
theorem dX9_image_40 : decode cX9_image 40 = .ok (.iconst 3, 1) := by decide +kernel
theorem dX9_image_41 : decode cX9_image 41 = .ok (.iload_n 1, 1) := by decide +kernel
theorem dX9_image_42 : decode cX9_image 42 = .ok (.imul, 1) := by decide +kernel
theorem dX9_image_43 : decode cX9_image 43 = .ok (.iconst 1, 1) := by decide +kernel
theorem dX9_image_44 : decode cX9_image 44 = .ok (.iadd, 1) := by decide +kernel
theorem dX9_image_45 : decode cX9_image 45 = .ok (.aload_n 0, 1) := by decide +kernel
theorem dX9_image_46 : decode cX9_image 46 = .ok (.getfield 55, 3) := by decide +kernel
theorem dX9_image_49 : decode cX9_image 49 = .ok (.iload_n 1, 1) := by decide +kernel
theorem dX9_image_50 : decode cX9_image 50 = .ok (.iaload, 1) := by decide +kernel
theorem dX9_image_51 : decode cX9_image 51 = .ok (.iastore, 1) := by decide +kernel
theorem dX9_image_52 : decode cX9_image 52 = .ok (.aload_n 0, 1) := by decide +kernel
theorem dX9_image_53 : decode cX9_image 53 = .ok (.getfield 125, 3) := by decide +kernel
theorem dX9_image_56 : decode cX9_image 56 = .ok (.iconst 3, 1) := by decide +kernel
theorem dX9_image_57 : decode cX9_image 57 = .ok (.iload_n 1, 1) := by decide +kernel
theorem dX9_image_58 : decode cX9_image 58 = .ok (.imul, 1) := by decide +kernel
theorem dX9_image_59 : decode cX9_image 59 = .ok (.iconst 2, 1) := by decide +kernel
theorem dX9_image_60 : decode cX9_image 60 = .ok (.iadd, 1) := by decide +kernel
theorem dX9_image_61 : decode cX9_image 61 = .ok (.aload_n 0, 1) := by decide +kernel
theorem dX9_image_62 : decode cX9_image 62 = .ok (.getfield 58, 3) := by decide +kernel
theorem dX9_image_65 : decode cX9_image 65 = .ok (.iload_n 1, 1) := by decide +kernel
theorem dX9_image_66 : decode cX9_image 66 = .ok (.iaload, 1) := by decide +kernel
theorem dX9_image_67 : decode cX9_image 67 = .ok (.iastore, 1) := by decide +kernel
theorem dX9_image_68 : decode cX9_image 68 = .ok (.iinc 1 1, 3) := by decide +kernel
theorem dX9_image_71 : decode cX9_image 71 = .ok (.goto (-55), 3) := by decide +kernel
theorem dX9_image_74 : decode cX9_image 74 = .ok (.iconst 0, 1) := by decide +kernel
theorem dX9_image_75 : decode cX9_image 75 = .ok (.istore_n 1, 1) := by decide +kernel
theorem dX9_image_76 : decode cX9_image 76 = .ok (.iload_n 1, 1) := by decide +kernel
theorem dX9_image_77 : decode cX9_image 77 = .ok (.bipush 40, 2) := by decide +kernel
theorem dX9_image_79 : decode cX9_image 79 = .ok (.if_icmp .ge 64, 3) := by decide +kernel
theorem dX9_image_82 : decode cX9_image 82 = .ok (.aload_n 0, 1) := by decide +kernel
theorem dX9_image_83 : decode cX9_image 83 = .ok (.getfield 125, 3) := by decide +kernel
theorem dX9_image_86 : decode cX9_image 86 = .ok (.bipush 60, 2) := by decide +kernel
theorem dX9_image_88 : decode cX9_image 88 = .ok (.iconst 3, 1) := by decide +kernel
theorem dX9_image_89 : decode cX9_image 89 = .ok (.iload_n 1, 1) := by decide +kernel
theorem dX9_image_90 : decode cX9_image 90 = .ok (.imul, 1) := by decide +kernel
theorem dX9_image_91 : decode cX9_image 91 = .ok (.iadd, 1) := by decide +kernel
theorem dX9_image_92 : decode cX9_image 92 = .ok (.aload_n 0, 1) := by decide +kernel
theorem dX9_image_93 : decode cX9_image 93 = .ok (.getfield 104, 3) := by decide +kernel
theorem dX9_image_96 : decode cX9_image 96 = .ok (.iload_n 1, 1) := by decide +kernel
theorem dX9_image_97 : decode cX9_image 97 = .ok (.iaload, 1) := by decide +kernel
theorem dX9_image_98 : decode cX9_image 98 = .ok (.iastore, 1) := by decide +kernel
theorem dX9_image_99 : decode cX9_image 99 = .ok (.aload_n 0, 1) := by decide +kernel
theorem dX9_image_100 : decode cX9_image 100 = .ok (.getfield 125, 3) := by decide +kernel
theorem dX9_image_103 : decode cX9_image 103 = .ok (.bipush 60, 2) := by decide +kernel
theorem dX9_image_105 : decode cX9_image 105 = .ok (.iconst 3, 1) := by decide +kernel
theorem dX9_image_106 : decode cX9_image 106 = .ok (.iload_n 1, 1) := by decide +kernel
theorem dX9_image_107 : decode cX9_image 107 = .ok (.imul, 1) := by decide +kernel
theorem dX9_image_108 : decode cX9_image 108 = .ok (.iadd, 1) := by decide +kernel
theorem dX9_image_109 : decode cX9_image 109 = .ok (.iconst 1, 1) := by decide +kernel
theorem dX9_image_110 : decode cX9_image 110 = .ok (.iadd, 1) := by decide +kernel
theorem dX9_image_111 : decode cX9_image 111 = .ok (.aload_n 0, 1) := by decide +kernel
theorem dX9_image_112 : decode cX9_image 112 = .ok (.getfield 107, 3) := by decide +kernel
theorem dX9_image_115 : decode cX9_image 115 = .ok (.iload_n 1, 1) := by decide +kernel
theorem dX9_image_116 : decode cX9_image 116 = .ok (.iaload, 1) := by decide +kernel
theorem dX9_image_117 : decode cX9_image 117 = .ok (.iastore, 1) := by decide +kernel
theorem dX9_image_118 : decode cX9_image 118 = .ok (.aload_n 0, 1) := by decide +kernel
theorem dX9_image_119 : decode cX9_image 119 = .ok (.getfield 125, 3) := by decide +kernel
theorem dX9_image_122 : decode cX9_image 122 = .ok (.bipush 60, 2) := by decide +kernel
theorem dX9_image_124 : decode cX9_image 124 = .ok (.iconst 3, 1) := by decide +kernel
theorem dX9_image_125 : decode cX9_image 125 = .ok (.iload_n 1, 1) := by decide +kernel
theorem dX9_image_126 : decode cX9_image 126 = .ok (.imul, 1) := by decide +kernel
theorem dX9_image_127 : decode cX9_image 127 = .ok (.iadd, 1) := by decide +kernel
theorem dX9_image_128 : decode cX9_image 128 = .ok (.iconst 2, 1) := by decide +kernel
theorem dX9_image_129 : decode cX9_image 129 = .ok (.iadd, 1) := by decide +kernel
theorem dX9_image_130 : decode cX9_image 130 = .ok (.aload_n 0, 1) := by decide +kernel
theorem dX9_image_131 : decode cX9_image 131 = .ok (.getfield 110, 3) := by decide +kernel
theorem dX9_image_134 : decode cX9_image 134 = .ok (.iload_n 1, 1) := by decide +kernel
theorem dX9_image_135 : decode cX9_image 135 = .ok (.iaload, 1) := by decide +kernel
theorem dX9_image_136 : decode cX9_image 136 = .ok (.iastore, 1) := by decide +kernel
theorem dX9_image_137 : decode cX9_image 137 = .ok (.iinc 1 1, 3) := by decide +kernel
theorem dX9_image_140 : decode cX9_image 140 = .ok (.goto (-64), 3) := by decide +kernel
theorem dX9_image_143 : decode cX9_image 143 = .ok (.aload_n 0, 1) := by decide +kernel
theorem dX9_image_144 : decode cX9_image 144 = .ok (.aload_n 0, 1) := by decide +kernel
theorem dX9_image_145 : decode cX9_image 145 = .ok (.getfield 282, 3) := by decide +kernel
theorem dX9_image_148 : decode cX9_image 148 = .ok (.putfield 449, 3) := by decide +kernel
theorem dX9_image_151 : decode cX9_image 151 = .ok (.aload_n 0, 1) := by decide +kernel
theorem dX9_image_152 : decode cX9_image 152 = .ok (.aload_n 0, 1) := by decide +kernel
theorem dX9_image_153 : decode cX9_image 153 = .ok (.getfield 285, 3) := by decide +kernel
theorem dX9_image_156 : decode cX9_image 156 = .ok (.putfield 452, 3) := by decide +kernel
theorem dX9_image_159 : decode cX9_image 159 = .ok (.aload_n 0, 1) := by decide +kernel
theorem dX9_image_160 : decode cX9_image 160 = .ok (.aload_n 0, 1) := by decide +kernel
theorem dX9_image_161 : decode cX9_image 161 = .ok (.getfield 288, 3) := by decide +kernel
theorem dX9_image_164 : decode cX9_image 164 = .ok (.putfield 455, 3) := by decide +kernel
theorem dX9_image_167 : decode cX9_image 167 = .ok (.aload_n 0, 1) := by decide +kernel
theorem dX9_image_168 : decode cX9_image 168 = .ok (.iconst 1, 1) := by decide +kernel
theorem dX9_image_169 : decode cX9_image 169 = .ok (.putfield 291, 3) := by decide +kernel
theorem dX9_image_172 : decode cX9_image 172 = .ok (.aload_n 0, 1) := by decide +kernel
theorem dX9_image_173 : decode cX9_image 173 = .ok (.getfield 288, 3) := by decide +kernel
theorem dX9_image_176 : decode cX9_image 176 = .ok (.ireturn, 1) := by decide +kernel
theorem dX9_back_0 : decode cX9_back 0 = .ok (.aload_n 0, 1) := by decide +kernel
theorem dX9_back_1 : decode cX9_back 1 = .ok (.iconst 0, 1) := by decide +kernel
theorem dX9_back_2 : decode cX9_back 2 = .ok (.putfield 128, 3) := by decide +kernel
theorem dX9_back_5 : decode cX9_back 5 = .ok (.aload_n 0, 1) := by decide +kernel
theorem dX9_back_6 : decode cX9_back 6 = .ok (.getfield 291, 3) := by decide +kernel
theorem dX9_back_9 : decode cX9_back 9 = .ok (.ifCond .ne 5, 3) := by decide +kernel
theorem dX9_back_12 : decode cX9_back 12 = .ok (.iconst (-1), 1) := by decide +kernel
theorem dX9_back_13 : decode cX9_back 13 = .ok (.ireturn, 1) := by decide +kernel
theorem dX9_back_14 : decode cX9_back 14 = .ok (.iconst 0, 1) := by decide +kernel
theorem dX9_back_15 : decode cX9_back 15 = .ok (.istore_n 1, 1) := by decide +kernel
theorem dX9_back_16 : decode cX9_back 16 = .ok (.iload_n 1, 1) := by decide +kernel
theorem dX9_back_17 : decode cX9_back 17 = .ok (.bipush 20, 2) := by decide +kernel
theorem dX9_back_19 : decode cX9_back 19 = .ok (.if_icmp .ge 55, 3) := by decide +kernel
theorem dX9_back_22 : decode cX9_back 22 = .ok (.aload_n 0, 1) := by decide +kernel
theorem dX9_back_23 : decode cX9_back 23 = .ok (.getfield 52, 3) := by decide +kernel
theorem dX9_back_26 : decode cX9_back 26 = .ok (.iload_n 1, 1) := by decide +kernel
theorem dX9_back_27 : decode cX9_back 27 = .ok (.aload_n 0, 1) := by decide +kernel
theorem dX9_back_28 : decode cX9_back 28 = .ok (.getfield 125, 3) := by decide +kernel
theorem dX9_back_31 : decode cX9_back 31 = .ok (.iconst 3, 1) := by decide +kernel
theorem dX9_back_32 : decode cX9_back 32 = .ok (.iload_n 1, 1) := by decide +kernel
theorem dX9_back_33 : decode cX9_back 33 = .ok (.imul, 1) := by decide +kernel
theorem dX9_back_34 : decode cX9_back 34 = .ok (.iaload, 1) := by decide +kernel
theorem dX9_back_35 : decode cX9_back 35 = .ok (.iastore, 1) := by decide +kernel
theorem dX9_back_36 : decode cX9_back 36 = .ok (.aload_n 0, 1) := by decide +kernel
theorem dX9_back_37 : decode cX9_back 37 = .ok (.getfield 55, 3) := by decide +kernel
theorem dX9_back_40 : decode cX9_back 40 = .ok (.iload_n 1, 1) := by decide +kernel
theorem dX9_back_41 : decode cX9_back 41 = .ok (.aload_n 0, 1) := by decide +kernel
theorem dX9_back_42 : decode cX9_back 42 = .ok (.getfield 125, 3) := by decide +kernel
theorem dX9_back_45 : decode cX9_back 45 = .ok (.iconst 3, 1) := by decide +kernel
theorem dX9_back_46 : decode cX9_back 46 = .ok (.iload_n 1, 1) := by decide +kernel
theorem dX9_back_47 : decode cX9_back 47 = .ok (.imul, 1) := by decide +kernel
theorem dX9_back_48 : decode cX9_back 48 = .ok (.iconst 1, 1) := by decide +kernel
theorem dX9_back_49 : decode cX9_back 49 = .ok (.iadd, 1) := by decide +kernel
theorem dX9_back_50 : decode cX9_back 50 = .ok (.iaload, 1) := by decide +kernel
theorem dX9_back_51 : decode cX9_back 51 = .ok (.iastore, 1) := by decide +kernel
theorem dX9_back_52 : decode cX9_back 52 = .ok (.aload_n 0, 1) := by decide +kernel
theorem dX9_back_53 : decode cX9_back 53 = .ok (.getfield 58, 3) := by decide +kernel
theorem dX9_back_56 : decode cX9_back 56 = .ok (.iload_n 1, 1) := by decide +kernel
theorem dX9_back_57 : decode cX9_back 57 = .ok (.aload_n 0, 1) := by decide +kernel
theorem dX9_back_58 : decode cX9_back 58 = .ok (.getfield 125, 3) := by decide +kernel
theorem dX9_back_61 : decode cX9_back 61 = .ok (.iconst 3, 1) := by decide +kernel
theorem dX9_back_62 : decode cX9_back 62 = .ok (.iload_n 1, 1) := by decide +kernel
theorem dX9_back_63 : decode cX9_back 63 = .ok (.imul, 1) := by decide +kernel
theorem dX9_back_64 : decode cX9_back 64 = .ok (.iconst 2, 1) := by decide +kernel
theorem dX9_back_65 : decode cX9_back 65 = .ok (.iadd, 1) := by decide +kernel
theorem dX9_back_66 : decode cX9_back 66 = .ok (.iaload, 1) := by decide +kernel
theorem dX9_back_67 : decode cX9_back 67 = .ok (.iastore, 1) := by decide +kernel
theorem dX9_back_68 : decode cX9_back 68 = .ok (.iinc 1 1, 3) := by decide +kernel
theorem dX9_back_71 : decode cX9_back 71 = .ok (.goto (-55), 3) := by decide +kernel
theorem dX9_back_74 : decode cX9_back 74 = .ok (.iconst 0, 1) := by decide +kernel
theorem dX9_back_75 : decode cX9_back 75 = .ok (.istore_n 1, 1) := by decide +kernel
theorem dX9_back_76 : decode cX9_back 76 = .ok (.iload_n 1, 1) := by decide +kernel
theorem dX9_back_77 : decode cX9_back 77 = .ok (.bipush 40, 2) := by decide +kernel
theorem dX9_back_79 : decode cX9_back 79 = .ok (.if_icmp .ge 64, 3) := by decide +kernel
theorem dX9_back_82 : decode cX9_back 82 = .ok (.aload_n 0, 1) := by decide +kernel
theorem dX9_back_83 : decode cX9_back 83 = .ok (.getfield 104, 3) := by decide +kernel
theorem dX9_back_86 : decode cX9_back 86 = .ok (.iload_n 1, 1) := by decide +kernel
theorem dX9_back_87 : decode cX9_back 87 = .ok (.aload_n 0, 1) := by decide +kernel
theorem dX9_back_88 : decode cX9_back 88 = .ok (.getfield 125, 3) := by decide +kernel
theorem dX9_back_91 : decode cX9_back 91 = .ok (.bipush 60, 2) := by decide +kernel
theorem dX9_back_93 : decode cX9_back 93 = .ok (.iconst 3, 1) := by decide +kernel
theorem dX9_back_94 : decode cX9_back 94 = .ok (.iload_n 1, 1) := by decide +kernel
theorem dX9_back_95 : decode cX9_back 95 = .ok (.imul, 1) := by decide +kernel
theorem dX9_back_96 : decode cX9_back 96 = .ok (.iadd, 1) := by decide +kernel
theorem dX9_back_97 : decode cX9_back 97 = .ok (.iaload, 1) := by decide +kernel
theorem dX9_back_98 : decode cX9_back 98 = .ok (.iastore, 1) := by decide +kernel
theorem dX9_back_99 : decode cX9_back 99 = .ok (.aload_n 0, 1) := by decide +kernel
theorem dX9_back_100 : decode cX9_back 100 = .ok (.getfield 107, 3) := by decide +kernel
theorem dX9_back_103 : decode cX9_back 103 = .ok (.iload_n 1, 1) := by decide +kernel
theorem dX9_back_104 : decode cX9_back 104 = .ok (.aload_n 0, 1) := by decide +kernel
theorem dX9_back_105 : decode cX9_back 105 = .ok (.getfield 125, 3) := by decide +kernel
theorem dX9_back_108 : decode cX9_back 108 = .ok (.bipush 60, 2) := by decide +kernel
theorem dX9_back_110 : decode cX9_back 110 = .ok (.iconst 3, 1) := by decide +kernel
theorem dX9_back_111 : decode cX9_back 111 = .ok (.iload_n 1, 1) := by decide +kernel
theorem dX9_back_112 : decode cX9_back 112 = .ok (.imul, 1) := by decide +kernel
theorem dX9_back_113 : decode cX9_back 113 = .ok (.iadd, 1) := by decide +kernel
theorem dX9_back_114 : decode cX9_back 114 = .ok (.iconst 1, 1) := by decide +kernel
theorem dX9_back_115 : decode cX9_back 115 = .ok (.iadd, 1) := by decide +kernel
theorem dX9_back_116 : decode cX9_back 116 = .ok (.iaload, 1) := by decide +kernel
theorem dX9_back_117 : decode cX9_back 117 = .ok (.iastore, 1) := by decide +kernel
theorem dX9_back_118 : decode cX9_back 118 = .ok (.aload_n 0, 1) := by decide +kernel
theorem dX9_back_119 : decode cX9_back 119 = .ok (.getfield 110, 3) := by decide +kernel
theorem dX9_back_122 : decode cX9_back 122 = .ok (.iload_n 1, 1) := by decide +kernel
theorem dX9_back_123 : decode cX9_back 123 = .ok (.aload_n 0, 1) := by decide +kernel
theorem dX9_back_124 : decode cX9_back 124 = .ok (.getfield 125, 3) := by decide +kernel
theorem dX9_back_127 : decode cX9_back 127 = .ok (.bipush 60, 2) := by decide +kernel
theorem dX9_back_129 : decode cX9_back 129 = .ok (.iconst 3, 1) := by decide +kernel
theorem dX9_back_130 : decode cX9_back 130 = .ok (.iload_n 1, 1) := by decide +kernel
theorem dX9_back_131 : decode cX9_back 131 = .ok (.imul, 1) := by decide +kernel
theorem dX9_back_132 : decode cX9_back 132 = .ok (.iadd, 1) := by decide +kernel
theorem dX9_back_133 : decode cX9_back 133 = .ok (.iconst 2, 1) := by decide +kernel
theorem dX9_back_134 : decode cX9_back 134 = .ok (.iadd, 1) := by decide +kernel
theorem dX9_back_135 : decode cX9_back 135 = .ok (.iaload, 1) := by decide +kernel
theorem dX9_back_136 : decode cX9_back 136 = .ok (.iastore, 1) := by decide +kernel
