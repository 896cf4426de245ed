theorem dX9_clause_149 : decode cX9_clause 149 = .ok (.iload_n 1, 1) := by decide +kernel
theorem dX9_clause_150 : decode cX9_clause 150 = .ok (.aload_n 0, 1) := by decide +kernel
theorem dX9_clause_151 : decode cX9_clause 151 = .ok (.getfield 233, 3) := by decide +kernel
theorem dX9_clause_154 : decode cX9_clause 154 = .ok (.if_icmp .ne 7, 3) := by decide +kernel
theorem dX9_clause_157 : decode cX9_clause 157 = .ok (.iload_n 2, 1) := by decide +kernel
theorem dX9_clause_158 : decode cX9_clause 158 = .ok (.ifCond .ne 4, 3) := by decide +kernel
theorem dX9_clause_161 : decode cX9_clause 161 = .ok (.return_, 1) := by decide +kernel
theorem dX9_clause_162 : decode cX9_clause 162 = .ok (.aload_n 0, 1) := by decide +kernel
theorem dX9_clause_163 : decode cX9_clause 163 = .ok (.iconst 1, 1) := by decide +kernel
theorem dX9_clause_164 : decode cX9_clause 164 = .ok (.putfield 229, 3) := by decide +kernel
theorem dX9_clause_167 : decode cX9_clause 167 = .ok (.aload_n 0, 1) := by decide +kernel
theorem dX9_clause_168 : decode cX9_clause 168 = .ok (.iload_n 3, 1) := by decide +kernel
theorem dX9_clause_169 : decode cX9_clause 169 = .ok (.putfield 236, 3) := by decide +kernel
theorem dX9_clause_172 : decode cX9_clause 172 = .ok (.return_, 1) := by decide +kernel
theorem dX9_opens_0 : decode cX9_opens 0 = .ok (.aload_n 0, 1) := by decide +kernel
theorem dX9_opens_1 : decode cX9_opens 1 = .ok (.aload_n 1, 1) := by decide +kernel
theorem dX9_opens_2 : decode cX9_opens 2 = .ok (.putfield 23, 3) := by decide +kernel
theorem dX9_opens_5 : decode cX9_opens 5 = .ok (.aload_n 0, 1) := by decide +kernel
theorem dX9_opens_6 : decode cX9_opens 6 = .ok (.iload_n 2, 1) := by decide +kernel
theorem dX9_opens_7 : decode cX9_opens 7 = .ok (.putfield 157, 3) := by decide +kernel
theorem dX9_opens_10 : decode cX9_opens 10 = .ok (.aload_n 0, 1) := by decide +kernel
theorem dX9_opens_11 : decode cX9_opens 11 = .ok (.iload_n 3, 1) := by decide +kernel
theorem dX9_opens_12 : decode cX9_opens 12 = .ok (.putfield 154, 3) := by decide +kernel
theorem dX9_opens_15 : decode cX9_opens 15 = .ok (.aload_n 0, 1) := by decide +kernel
theorem dX9_opens_16 : decode cX9_opens 16 = .ok (.iconst 0, 1) := by decide +kernel
theorem dX9_opens_17 : decode cX9_opens 17 = .ok (.putfield 151, 3) := by decide +kernel
theorem dX9_opens_20 : decode cX9_opens 20 = .ok (.aload_n 0, 1) := by decide +kernel
theorem dX9_opens_21 : decode cX9_opens 21 = .ok (.iconst (-1), 1) := by decide +kernel
theorem dX9_opens_22 : decode cX9_opens 22 = .ok (.putfield 160, 3) := by decide +kernel
theorem dX9_opens_25 : decode cX9_opens 25 = .ok (.return_, 1) := by decide +kernel
theorem dX9_goThrough_0 : decode cX9_goThrough 0 = .ok (.aload_n 0, 1) := by decide +kernel
theorem dX9_goThrough_1 : decode cX9_goThrough 1 = .ok (.aload_n 1, 1) := by decide +kernel
theorem dX9_goThrough_2 : decode cX9_goThrough 2 = .ok (.iload_n 2, 1) := by decide +kernel
theorem dX9_goThrough_3 : decode cX9_goThrough 3 = .ok (.iload_n 3, 1) := by decide +kernel
theorem dX9_goThrough_4 : decode cX9_goThrough 4 = .ok (.invokevirtual 239, 3) := by decide +kernel
theorem dX9_goThrough_7 : decode cX9_goThrough 7 = .ok (.aload_n 0, 1) := by decide +kernel
theorem dX9_goThrough_8 : decode cX9_goThrough 8 = .ok (.bipush 121, 2) := by decide +kernel
theorem dX9_goThrough_10 : decode cX9_goThrough 10 = .ok (.putfield 233, 3) := by decide +kernel
theorem dX9_goThrough_13 : decode cX9_goThrough 13 = .ok (.aload_n 0, 1) := by decide +kernel
theorem dX9_goThrough_14 : decode cX9_goThrough 14 = .ok (.iconst 0, 1) := by decide +kernel
theorem dX9_goThrough_15 : decode cX9_goThrough 15 = .ok (.putfield 163, 3) := by decide +kernel
theorem dX9_goThrough_18 : decode cX9_goThrough 18 = .ok (.aload_n 0, 1) := by decide +kernel
theorem dX9_goThrough_19 : decode cX9_goThrough 19 = .ok (.iconst 0, 1) := by decide +kernel
theorem dX9_goThrough_20 : decode cX9_goThrough 20 = .ok (.putfield 229, 3) := by decide +kernel
theorem dX9_goThrough_23 : decode cX9_goThrough 23 = .ok (.aload_n 0, 1) := by decide +kernel
theorem dX9_goThrough_24 : decode cX9_goThrough 24 = .ok (.iconst 0, 1) := by decide +kernel
theorem dX9_goThrough_25 : decode cX9_goThrough 25 = .ok (.putfield 236, 3) := by decide +kernel
theorem dX9_goThrough_28 : decode cX9_goThrough 28 = .ok (.aload_n 0, 1) := by decide +kernel
theorem dX9_goThrough_29 : decode cX9_goThrough 29 = .ok (.invokevirtual 243, 3) := by decide +kernel
theorem dX9_goThrough_32 : decode cX9_goThrough 32 = .ok (.aload_n 0, 1) := by decide +kernel
theorem dX9_goThrough_33 : decode cX9_goThrough 33 = .ok (.getfield 160, 3) := by decide +kernel
theorem dX9_goThrough_36 : decode cX9_goThrough 36 = .ok (.iconst (-1), 1) := by decide +kernel
theorem dX9_goThrough_37 : decode cX9_goThrough 37 = .ok (.if_icmp .ne 29, 3) := by decide +kernel
theorem dX9_goThrough_40 : decode cX9_goThrough 40 = .ok (.aload_n 0, 1) := by decide +kernel
theorem dX9_goThrough_41 : decode cX9_goThrough 41 = .ok (.invokevirtual 170, 3) := by decide +kernel
theorem dX9_goThrough_44 : decode cX9_goThrough 44 = .ok (.bipush 59, 2) := by decide +kernel
theorem dX9_goThrough_46 : decode cX9_goThrough 46 = .ok (.if_icmp .ne 20, 3) := by decide +kernel
theorem dX9_goThrough_49 : decode cX9_goThrough 49 = .ok (.aload_n 0, 1) := by decide +kernel
theorem dX9_goThrough_50 : decode cX9_goThrough 50 = .ok (.dup, 1) := by decide +kernel
theorem dX9_goThrough_51 : decode cX9_goThrough 51 = .ok (.getfield 151, 3) := by decide +kernel
theorem dX9_goThrough_54 : decode cX9_goThrough 54 = .ok (.iconst 1, 1) := by decide +kernel
theorem dX9_goThrough_55 : decode cX9_goThrough 55 = .ok (.iadd, 1) := by decide +kernel
theorem dX9_goThrough_56 : decode cX9_goThrough 56 = .ok (.putfield 151, 3) := by decide +kernel
theorem dX9_goThrough_59 : decode cX9_goThrough 59 = .ok (.aload_n 0, 1) := by decide +kernel
theorem dX9_goThrough_60 : decode cX9_goThrough 60 = .ok (.invokevirtual 243, 3) := by decide +kernel
theorem dX9_goThrough_63 : decode cX9_goThrough 63 = .ok (.goto (-31), 3) := by decide +kernel
theorem dX9_goThrough_66 : decode cX9_goThrough 66 = .ok (.aload_n 0, 1) := by decide +kernel
theorem dX9_goThrough_67 : decode cX9_goThrough 67 = .ok (.getfield 160, 3) := by decide +kernel
theorem dX9_goThrough_70 : decode cX9_goThrough 70 = .ok (.iconst (-1), 1) := by decide +kernel
theorem dX9_goThrough_71 : decode cX9_goThrough 71 = .ok (.if_icmp .ne 16, 3) := by decide +kernel
theorem dX9_goThrough_74 : decode cX9_goThrough 74 = .ok (.aload_n 0, 1) := by decide +kernel
theorem dX9_goThrough_75 : decode cX9_goThrough 75 = .ok (.invokevirtual 170, 3) := by decide +kernel
theorem dX9_goThrough_78 : decode cX9_goThrough 78 = .ok (.iconst (-1), 1) := by decide +kernel
theorem dX9_goThrough_79 : decode cX9_goThrough 79 = .ok (.if_icmp .eq 8, 3) := by decide +kernel
theorem dX9_goThrough_82 : decode cX9_goThrough 82 = .ok (.aload_n 0, 1) := by decide +kernel
theorem dX9_goThrough_83 : decode cX9_goThrough 83 = .ok (.invokevirtual 166, 3) := by decide +kernel
theorem dX9_goThrough_86 : decode cX9_goThrough 86 = .ok (.pop, 1) := by decide +kernel
theorem dX9_goThrough_87 : decode cX9_goThrough 87 = .ok (.return_, 1) := by decide +kernel
theorem dX9_here_0 : decode cX9_here 0 = .ok (.aload_n 0, 1) := by decide +kernel
theorem dX9_here_1 : decode cX9_here 1 = .ok (.getfield 151, 3) := by decide +kernel
theorem dX9_here_4 : decode cX9_here 4 = .ok (.aload_n 0, 1) := by decide +kernel
theorem dX9_here_5 : decode cX9_here 5 = .ok (.getfield 154, 3) := by decide +kernel
theorem dX9_here_8 : decode cX9_here 8 = .ok (.if_icmp .ge 24, 3) := by decide +kernel
theorem dX9_here_11 : decode cX9_here 11 = .ok (.aload_n 0, 1) := by decide +kernel
theorem dX9_here_12 : decode cX9_here 12 = .ok (.getfield 23, 3) := by decide +kernel
theorem dX9_here_15 : decode cX9_here 15 = .ok (.aload_n 0, 1) := by decide +kernel
theorem dX9_here_16 : decode cX9_here 16 = .ok (.getfield 157, 3) := by decide +kernel
theorem dX9_here_19 : decode cX9_here 19 = .ok (.aload_n 0, 1) := by decide +kernel
theorem dX9_here_20 : decode cX9_here 20 = .ok (.getfield 151, 3) := by decide +kernel
theorem dX9_here_23 : decode cX9_here 23 = .ok (.iadd, 1) := by decide +kernel
theorem dX9_here_24 : decode cX9_here 24 = .ok (.baload, 1) := by decide +kernel
theorem dX9_here_25 : decode cX9_here 25 = .ok (.sipush 255, 3) := by decide +kernel
theorem dX9_here_28 : decode cX9_here 28 = .ok (.iand, 1) := by decide +kernel
theorem dX9_here_29 : decode cX9_here 29 = .ok (.goto 4, 3) := by decide +kernel
theorem dX9_here_32 : decode cX9_here 32 = .ok (.iconst (-1), 1) := by decide +kernel
theorem dX9_here_33 : decode cX9_here 33 = .ok (.ireturn, 1) := by decide +kernel
theorem dX9_twoDigits_0 : decode cX9_twoDigits 0 = .ok (.aload_n 0, 1) := by decide +kernel
theorem dX9_twoDigits_1 : decode cX9_twoDigits 1 = .ok (.invokevirtual 170, 3) := by decide +kernel
theorem dX9_twoDigits_4 : decode cX9_twoDigits 4 = .ok (.istore_n 1, 1) := by decide +kernel
theorem dX9_twoDigits_5 : decode cX9_twoDigits 5 = .ok (.aload_n 0, 1) := by decide +kernel
theorem dX9_twoDigits_6 : decode cX9_twoDigits 6 = .ok (.invokevirtual 200, 3) := by decide +kernel
theorem dX9_twoDigits_9 : decode cX9_twoDigits 9 = .ok (.ifCond .ne 10, 3) := by decide +kernel
theorem dX9_twoDigits_12 : decode cX9_twoDigits 12 = .ok (.aload_n 0, 1) := by decide +kernel
theorem dX9_twoDigits_13 : decode cX9_twoDigits 13 = .ok (.invokevirtual 166, 3) := by decide +kernel
theorem dX9_twoDigits_16 : decode cX9_twoDigits 16 = .ok (.pop, 1) := by decide +kernel
theorem dX9_twoDigits_17 : decode cX9_twoDigits 17 = .ok (.iconst (-1), 1) := by decide +kernel
theorem dX9_twoDigits_18 : decode cX9_twoDigits 18 = .ok (.ireturn, 1) := by decide +kernel
theorem dX9_twoDigits_19 : decode cX9_twoDigits 19 = .ok (.aload_n 0, 1) := by decide +kernel
theorem dX9_twoDigits_20 : decode cX9_twoDigits 20 = .ok (.invokevirtual 246, 3) := by decide +kernel
theorem dX9_twoDigits_23 : decode cX9_twoDigits 23 = .ok (.bipush 48, 2) := by decide +kernel
theorem dX9_twoDigits_25 : decode cX9_twoDigits 25 = .ok (.isub, 1) := by decide +kernel
theorem dX9_twoDigits_26 : decode cX9_twoDigits 26 = .ok (.istore_n 2, 1) := by decide +kernel
theorem dX9_twoDigits_27 : decode cX9_twoDigits 27 = .ok (.aload_n 0, 1) := by decide +kernel
theorem dX9_twoDigits_28 : decode cX9_twoDigits 28 = .ok (.dup, 1) := by decide +kernel
theorem dX9_twoDigits_29 : decode cX9_twoDigits 29 = .ok (.getfield 151, 3) := by decide +kernel
theorem dX9_twoDigits_32 : decode cX9_twoDigits 32 = .ok (.iconst 1, 1) := by decide +kernel
theorem dX9_twoDigits_33 : decode cX9_twoDigits 33 = .ok (.iadd, 1) := by decide +kernel
theorem dX9_twoDigits_34 : decode cX9_twoDigits 34 = .ok (.putfield 151, 3) := by decide +kernel
theorem dX9_twoDigits_37 : decode cX9_twoDigits 37 = .ok (.aload_n 0, 1) := by decide +kernel
theorem dX9_twoDigits_38 : decode cX9_twoDigits 38 = .ok (.invokevirtual 200, 3) := by decide +kernel
theorem dX9_twoDigits_41 : decode cX9_twoDigits 41 = .ok (.ifCond .eq 26, 3) := by decide +kernel
theorem dX9_twoDigits_44 : decode cX9_twoDigits 44 = .ok (.bipush 10, 2) := by decide +kernel
theorem dX9_twoDigits_46 : decode cX9_twoDigits 46 = .ok (.iload_n 2, 1) := by decide +kernel
theorem dX9_twoDigits_47 : decode cX9_twoDigits 47 = .ok (.imul, 1) := by decide +kernel
theorem dX9_twoDigits_48 : decode cX9_twoDigits 48 = .ok (.aload_n 0, 1) := by decide +kernel
theorem dX9_twoDigits_49 : decode cX9_twoDigits 49 = .ok (.invokevirtual 246, 3) := by decide +kernel
theorem dX9_twoDigits_52 : decode cX9_twoDigits 52 = .ok (.iadd, 1) := by decide +kernel
theorem dX9_twoDigits_53 : decode cX9_twoDigits 53 = .ok (.bipush 48, 2) := by decide +kernel
theorem dX9_twoDigits_55 : decode cX9_twoDigits 55 = .ok (.isub, 1) := by decide +kernel
theorem dX9_twoDigits_56 : decode cX9_twoDigits 56 = .ok (.istore_n 2, 1) := by decide +kernel
theorem dX9_twoDigits_57 : decode cX9_twoDigits 57 = .ok (.aload_n 0, 1) := by decide +kernel
theorem dX9_twoDigits_58 : decode cX9_twoDigits 58 = .ok (.dup, 1) := by decide +kernel
theorem dX9_twoDigits_59 : decode cX9_twoDigits 59 = .ok (.getfield 151, 3) := by decide +kernel
theorem dX9_twoDigits_62 : decode cX9_twoDigits 62 = .ok (.iconst 1, 1) := by decide +kernel
theorem dX9_twoDigits_63 : decode cX9_twoDigits 63 = .ok (.iadd, 1) := by decide +kernel
theorem dX9_twoDigits_64 : decode cX9_twoDigits 64 = .ok (.putfield 151, 3) := by decide +kernel
theorem dX9_twoDigits_67 : decode cX9_twoDigits 67 = .ok (.aload_n 0, 1) := by decide +kernel
theorem dX9_twoDigits_68 : decode cX9_twoDigits 68 = .ok (.invokevirtual 200, 3) := by decide +kernel
theorem dX9_twoDigits_71 : decode cX9_twoDigits 71 = .ok (.ifCond .eq 10, 3) := by decide +kernel
theorem dX9_twoDigits_74 : decode cX9_twoDigits 74 = .ok (.aload_n 0, 1) := by decide +kernel
theorem dX9_twoDigits_75 : decode cX9_twoDigits 75 = .ok (.invokevirtual 166, 3) := by decide +kernel
theorem dX9_twoDigits_78 : decode cX9_twoDigits 78 = .ok (.pop, 1) := by decide +kernel
theorem dX9_twoDigits_79 : decode cX9_twoDigits 79 = .ok (.iconst (-1), 1) := by decide +kernel
theorem dX9_twoDigits_80 : decode cX9_twoDigits 80 = .ok (.ireturn, 1) := by decide +kernel
theorem dX9_twoDigits_81 : decode cX9_twoDigits 81 = .ok (.iload_n 2, 1) := by decide +kernel
theorem dX9_twoDigits_82 : decode cX9_twoDigits 82 = .ok (.ireturn, 1) := by decide +kernel
theorem dX9_isIsleLetter_0 : decode cX9_isIsleLetter 0 = .ok (.iload_n 1, 1) := by decide +kernel
theorem dX9_isIsleLetter_1 : decode cX9_isIsleLetter 1 = .ok (.bipush 97, 2) := by decide +kernel
theorem dX9_isIsleLetter_3 : decode cX9_isIsleLetter 3 = .ok (.if_icmp .lt 18, 3) := by decide +kernel
theorem dX9_isIsleLetter_6 : decode cX9_isIsleLetter 6 = .ok (.iload_n 1, 1) := by decide +kernel
theorem dX9_isIsleLetter_7 : decode cX9_isIsleLetter 7 = .ok (.bipush 97, 2) := by decide +kernel
theorem dX9_isIsleLetter_9 : decode cX9_isIsleLetter 9 = .ok (.aload_n 0, 1) := by decide +kernel
theorem dX9_isIsleLetter_10 : decode cX9_isIsleLetter 10 = .ok (.getfield 249, 3) := by decide +kernel
theorem dX9_isIsleLetter_13 : decode cX9_isIsleLetter 13 = .ok (.iadd, 1) := by decide +kernel
theorem dX9_isIsleLetter_14 : decode cX9_isIsleLetter 14 = .ok (.if_icmp .ge 7, 3) := by decide +kernel
theorem dX9_isIsleLetter_17 : decode cX9_isIsleLetter 17 = .ok (.iconst 1, 1) := by decide +kernel
theorem dX9_isIsleLetter_18 : decode cX9_isIsleLetter 18 = .ok (.goto 4, 3) := by decide +kernel
theorem dX9_isIsleLetter_21 : decode cX9_isIsleLetter 21 = .ok (.iconst 0, 1) := by decide +kernel
theorem dX9_isIsleLetter_22 : decode cX9_isIsleLetter 22 = .ok (.ireturn, 1) := by decide +kernel
theorem dX9_readWay_0 : decode cX9_readWay 0 = .ok (.aload_n 0, 1) := by decide +kernel
theorem dX9_readWay_1 : decode cX9_readWay 1 = .ok (.invokevirtual 170, 3) := by decide +kernel
theorem dX9_readWay_4 : decode cX9_readWay 4 = .ok (.istore_n 1, 1) := by decide +kernel
theorem dX9_readWay_5 : decode cX9_readWay 5 = .ok (.aload_n 0, 1) := by decide +kernel
theorem dX9_readWay_6 : decode cX9_readWay 6 = .ok (.iload_n 1, 1) := by decide +kernel
theorem dX9_readWay_7 : decode cX9_readWay 7 = .ok (.invokevirtual 252, 3) := by decide +kernel
theorem dX9_readWay_10 : decode cX9_readWay 10 = .ok (.ifCond .ne 9, 3) := by decide +kernel
theorem dX9_readWay_13 : decode cX9_readWay 13 = .ok (.aload_n 0, 1) := by decide +kernel
theorem dX9_readWay_14 : decode cX9_readWay 14 = .ok (.invokevirtual 166, 3) := by decide +kernel
theorem dX9_readWay_17 : decode cX9_readWay 17 = .ok (.pop, 1) := by decide +kernel
theorem dX9_readWay_18 : decode cX9_readWay 18 = .ok (.return_, 1) := by decide +kernel
theorem dX9_readWay_19 : decode cX9_readWay 19 = .ok (.aload_n 0, 1) := by decide +kernel
theorem dX9_readWay_20 : decode cX9_readWay 20 = .ok (.dup, 1) := by decide +kernel
theorem dX9_readWay_21 : decode cX9_readWay 21 = .ok (.getfield 151, 3) := by decide +kernel
theorem dX9_readWay_24 : decode cX9_readWay 24 = .ok (.iconst 1, 1) := by decide +kernel
theorem dX9_readWay_25 : decode cX9_readWay 25 = .ok (.iadd, 1) := by decide +kernel
theorem dX9_readWay_26 : decode cX9_readWay 26 = .ok (.putfield 151, 3) := by decide +kernel
theorem dX9_readWay_29 : decode cX9_readWay 29 = .ok (.aload_n 0, 1) := by decide +kernel
theorem dX9_readWay_30 : decode cX9_readWay 30 = .ok (.invokevirtual 170, 3) := by decide +kernel
theorem dX9_readWay_33 : decode cX9_readWay 33 = .ok (.istore_n 2, 1) := by decide +kernel
theorem dX9_readWay_34 : decode cX9_readWay 34 = .ok (.aload_n 0, 1) := by decide +kernel
theorem dX9_readWay_35 : decode cX9_readWay 35 = .ok (.iload_n 2, 1) := by decide +kernel
theorem dX9_readWay_36 : decode cX9_readWay 36 = .ok (.invokevirtual 252, 3) := by decide +kernel
theorem dX9_readWay_39 : decode cX9_readWay 39 = .ok (.ifCond .eq 28, 3) := by decide +kernel
theorem dX9_readWay_42 : decode cX9_readWay 42 = .ok (.iload_n 2, 1) := by decide +kernel
theorem dX9_readWay_43 : decode cX9_readWay 43 = .ok (.iload_n 1, 1) := by decide +kernel
theorem dX9_readWay_44 : decode cX9_readWay 44 = .ok (.if_icmp .eq 23, 3) := by decide +kernel
theorem dX9_readWay_47 : decode cX9_readWay 47 = .ok (.aload_n 0, 1) := by decide +kernel
theorem dX9_readWay_48 : decode cX9_readWay 48 = .ok (.getfield 46, 3) := by decide +kernel
theorem dX9_readWay_51 : decode cX9_readWay 51 = .ok (.bipush 6, 2) := by decide +kernel
theorem dX9_readWay_53 : decode cX9_readWay 53 = .ok (.iload_n 1, 1) := by decide +kernel
theorem dX9_readWay_54 : decode cX9_readWay 54 = .ok (.bipush 97, 2) := by decide +kernel
theorem dX9_readWay_56 : decode cX9_readWay 56 = .ok (.isub, 1) := by decide +kernel
theorem dX9_readWay_57 : decode cX9_readWay 57 = .ok (.imul, 1) := by decide +kernel
theorem dX9_readWay_58 : decode cX9_readWay 58 = .ok (.iload_n 2, 1) := by decide +kernel
theorem dX9_readWay_59 : decode cX9_readWay 59 = .ok (.iadd, 1) := by decide +kernel
theorem dX9_readWay_60 : decode cX9_readWay 60 = .ok (.bipush 97, 2) := by decide +kernel
theorem dX9_readWay_62 : decode cX9_readWay 62 = .ok (.isub, 1) := by decide +kernel
theorem dX9_readWay_63 : decode cX9_readWay 63 = .ok (.iaload, 1) := by decide +kernel
theorem dX9_readWay_64 : decode cX9_readWay 64 = .ok (.ifCond .le 9, 3) := by decide +kernel
theorem dX9_readWay_67 : decode cX9_readWay 67 = .ok (.aload_n 0, 1) := by decide +kernel
theorem dX9_readWay_68 : decode cX9_readWay 68 = .ok (.invokevirtual 166, 3) := by decide +kernel
theorem dX9_readWay_71 : decode cX9_readWay 71 = .ok (.pop, 1) := by decide +kernel
theorem dX9_readWay_72 : decode cX9_readWay 72 = .ok (.return_, 1) := by decide +kernel
theorem dX9_readWay_73 : decode cX9_readWay 73 = .ok (.aload_n 0, 1) := by decide +kernel
theorem dX9_readWay_74 : decode cX9_readWay 74 = .ok (.dup, 1) := by decide +kernel
theorem dX9_readWay_75 : decode cX9_readWay 75 = .ok (.getfield 151, 3) := by decide +kernel
theorem dX9_readWay_78 : decode cX9_readWay 78 = .ok (.iconst 1, 1) := by decide +kernel
theorem dX9_readWay_79 : decode cX9_readWay 79 = .ok (.iadd, 1) := by decide +kernel
theorem dX9_readWay_80 : decode cX9_readWay 80 = .ok (.putfield 151, 3) := by decide +kernel
theorem dX9_readWay_83 : decode cX9_readWay 83 = .ok (.aload_n 0, 1) := by decide +kernel
theorem dX9_readWay_84 : decode cX9_readWay 84 = .ok (.invokevirtual 170, 3) := by decide +kernel
theorem dX9_readWay_87 : decode cX9_readWay 87 = .ok (.istore_n 3, 1) := by decide +kernel
theorem dX9_readWay_88 : decode cX9_readWay 88 = .ok (.iload_n 3, 1) := by decide +kernel
theorem dX9_readWay_89 : decode cX9_readWay 89 = .ok (.bipush 49, 2) := by decide +kernel
theorem dX9_readWay_91 : decode cX9_readWay 91 = .ok (.if_icmp .lt 9, 3) := by decide +kernel
theorem dX9_readWay_94 : decode cX9_readWay 94 = .ok (.iload_n 3, 1) := by decide +kernel
theorem dX9_readWay_95 : decode cX9_readWay 95 = .ok (.bipush 57, 2) := by decide +kernel
theorem dX9_readWay_97 : decode cX9_readWay 97 = .ok (.if_icmp .le 9, 3) := by decide +kernel
theorem dX9_readWay_100 : decode cX9_readWay 100 = .ok (.aload_n 0, 1) := by decide +kernel
theorem dX9_readWay_101 : decode cX9_readWay 101 = .ok (.invokevirtual 166, 3) := by decide +kernel
theorem dX9_readWay_104 : decode cX9_readWay 104 = .ok (.pop, 1) := by decide +kernel
theorem dX9_readWay_105 : decode cX9_readWay 105 = .ok (.return_, 1) := by decide +kernel
theorem dX9_readWay_106 : decode cX9_readWay 106 = .ok (.aload_n 0, 1) := by decide +kernel
theorem dX9_readWay_107 : decode cX9_readWay 107 = .ok (.dup, 1) := by decide +kernel
theorem dX9_readWay_108 : decode cX9_readWay 108 = .ok (.getfield 151, 3) := by decide +kernel
theorem dX9_readWay_111 : decode cX9_readWay 111 = .ok (.iconst 1, 1) := by decide +kernel
theorem dX9_readWay_112 : decode cX9_readWay 112 = .ok (.iadd, 1) := by decide +kernel
theorem dX9_readWay_113 : decode cX9_readWay 113 = .ok (.putfield 151, 3) := by decide +kernel
theorem dX9_readWay_116 : decode cX9_readWay 116 = .ok (.aload_n 0, 1) := by decide +kernel
theorem dX9_readWay_117 : decode cX9_readWay 117 = .ok (.getfield 46, 3) := by decide +kernel
theorem dX9_readWay_120 : decode cX9_readWay 120 = .ok (.bipush 6, 2) := by decide +kernel
theorem dX9_readWay_122 : decode cX9_readWay 122 = .ok (.iload_n 1, 1) := by decide +kernel
theorem dX9_readWay_123 : decode cX9_readWay 123 = .ok (.bipush 97, 2) := by decide +kernel
theorem dX9_readWay_125 : decode cX9_readWay 125 = .ok (.isub, 1) := by decide +kernel
theorem dX9_readWay_126 : decode cX9_readWay 126 = .ok (.imul, 1) := by decide +kernel
theorem dX9_readWay_127 : decode cX9_readWay 127 = .ok (.iload_n 2, 1) := by decide +kernel
theorem dX9_readWay_128 : decode cX9_readWay 128 = .ok (.iadd, 1) := by decide +kernel
theorem dX9_readWay_129 : decode cX9_readWay 129 = .ok (.bipush 97, 2) := by decide +kernel
theorem dX9_readWay_131 : decode cX9_readWay 131 = .ok (.isub, 1) := by decide +kernel
theorem dX9_readWay_132 : decode cX9_readWay 132 = .ok (.iload_n 3, 1) := by decide +kernel
theorem dX9_readWay_133 : decode cX9_readWay 133 = .ok (.bipush 48, 2) := by decide +kernel
theorem dX9_readWay_135 : decode cX9_readWay 135 = .ok (.isub, 1) := by decide +kernel
theorem dX9_readWay_136 : decode cX9_readWay 136 = .ok (.iastore, 1) := by decide +kernel
theorem dX9_readWay_137 : decode cX9_readWay 137 = .ok (.aload_n 0, 1) := by decide +kernel
theorem dX9_readWay_138 : decode cX9_readWay 138 = .ok (.getfield 46, 3) := by decide +kernel
theorem dX9_readWay_141 : decode cX9_readWay 141 = .ok (.bipush 6, 2) := by decide +kernel
theorem dX9_readWay_143 : decode cX9_readWay 143 = .ok (.iload_n 2, 1) := by decide +kernel
theorem dX9_readWay_144 : decode cX9_readWay 144 = .ok (.bipush 97, 2) := by decide +kernel
theorem dX9_readWay_146 : decode cX9_readWay 146 = .ok (.isub, 1) := by decide +kernel
theorem dX9_readWay_147 : decode cX9_readWay 147 = .ok (.imul, 1) := by decide +kernel
theorem dX9_readWay_148 : decode cX9_readWay 148 = .ok (.iload_n 1, 1) := by decide +kernel
theorem dX9_readWay_149 : decode cX9_readWay 149 = .ok (.iadd, 1) := by decide +kernel
theorem dX9_readWay_150 : decode cX9_readWay 150 = .ok (.bipush 97, 2) := by decide +kernel
theorem dX9_readWay_152 : decode cX9_readWay 152 = .ok (.isub, 1) := by decide +kernel
theorem dX9_readWay_153 : decode cX9_readWay 153 = .ok (.iload_n 3, 1) := by decide +kernel
theorem dX9_readWay_154 : decode cX9_readWay 154 = .ok (.bipush 48, 2) := by decide +kernel
theorem dX9_readWay_156 : decode cX9_readWay 156 = .ok (.isub, 1) := by decide +kernel
theorem dX9_readWay_157 : decode cX9_readWay 157 = .ok (.iastore, 1) := by decide +kernel
theorem dX9_readWay_158 : decode cX9_readWay 158 = .ok (.return_, 1) := by decide +kernel
theorem dX9_readIsles_0 : decode cX9_readIsles 0 = .ok (.aload_n 0, 1) := by decide +kernel
theorem dX9_readIsles_1 : decode cX9_readIsles 1 = .ok (.aload_n 0, 1) := by decide +kernel
theorem dX9_readIsles_2 : decode cX9_readIsles 2 = .ok (.getfield 9, 3) := by decide +kernel
theorem dX9_readIsles_5 : decode cX9_readIsles 5 = .ok (.iconst 0, 1) := by decide +kernel
theorem dX9_readIsles_6 : decode cX9_readIsles 6 = .ok (.aload_n 0, 1) := by decide +kernel
theorem dX9_readIsles_7 : decode cX9_readIsles 7 = .ok (.getfield 141, 3) := by decide +kernel
theorem dX9_readIsles_10 : decode cX9_readIsles 10 = .ok (.invokevirtual 239, 3) := by decide +kernel
theorem dX9_readIsles_13 : decode cX9_readIsles 13 = .ok (.aload_n 0, 1) := by decide +kernel
theorem dX9_readIsles_14 : decode cX9_readIsles 14 = .ok (.iconst 0, 1) := by decide +kernel
theorem dX9_readIsles_15 : decode cX9_readIsles 15 = .ok (.putfield 249, 3) := by decide +kernel
theorem dX9_readIsles_18 : decode cX9_readIsles 18 = .ok (.iconst 0, 1) := by decide +kernel
theorem dX9_readIsles_19 : decode cX9_readIsles 19 = .ok (.istore_n 1, 1) := by decide +kernel
theorem dX9_readIsles_20 : decode cX9_readIsles 20 = .ok (.iload_n 1, 1) := by decide +kernel
theorem dX9_readIsles_21 : decode cX9_readIsles 21 = .ok (.bipush 36, 2) := by decide +kernel
theorem dX9_readIsles_23 : decode cX9_readIsles 23 = .ok (.if_icmp .ge 16, 3) := by decide +kernel
theorem dX9_readIsles_26 : decode cX9_readIsles 26 = .ok (.aload_n 0, 1) := by decide +kernel
theorem dX9_readIsles_27 : decode cX9_readIsles 27 = .ok (.getfield 46, 3) := by decide +kernel
theorem dX9_readIsles_30 : decode cX9_readIsles 30 = .ok (.iload_n 1, 1) := by decide +kernel
theorem dX9_readIsles_31 : decode cX9_readIsles 31 = .ok (.iconst 0, 1) := by decide +kernel
theorem dX9_readIsles_32 : decode cX9_readIsles 32 = .ok (.iastore, 1) := by decide +kernel
theorem dX9_readIsles_33 : decode cX9_readIsles 33 = .ok (.iinc 1 1, 3) := by decide +kernel
theorem dX9_readIsles_36 : decode cX9_readIsles 36 = .ok (.goto (-16), 3) := by decide +kernel
theorem dX9_readIsles_39 : decode cX9_readIsles 39 = .ok (.iconst 1, 1) := by decide +kernel
theorem dX9_readIsles_40 : decode cX9_readIsles 40 = .ok (.istore_n 1, 1) := by decide +kernel
theorem dX9_readIsles_41 : decode cX9_readIsles 41 = .ok (.iload_n 1, 1) := by decide +kernel
theorem dX9_readIsles_42 : decode cX9_readIsles 42 = .ok (.ifCond .eq 88, 3) := by decide +kernel
theorem dX9_readIsles_45 : decode cX9_readIsles 45 = .ok (.aload_n 0, 1) := by decide +kernel
theorem dX9_readIsles_46 : decode cX9_readIsles 46 = .ok (.invokevirtual 255, 3) := by decide +kernel
theorem dX9_readIsles_49 : decode cX9_readIsles 49 = .ok (.istore_n 2, 1) := by decide +kernel
theorem dX9_readIsles_50 : decode cX9_readIsles 50 = .ok (.aload_n 0, 1) := by decide +kernel
theorem dX9_readIsles_51 : decode cX9_readIsles 51 = .ok (.getfield 160, 3) := by decide +kernel
theorem dX9_readIsles_54 : decode cX9_readIsles 54 = .ok (.iconst (-1), 1) := by decide +kernel
theorem dX9_readIsles_55 : decode cX9_readIsles 55 = .ok (.if_icmp .eq 4, 3) := by decide +kernel
theorem dX9_readIsles_58 : decode cX9_readIsles 58 = .ok (.return_, 1) := by decide +kernel
theorem dX9_readIsles_59 : decode cX9_readIsles 59 = .ok (.aload_n 0, 1) := by decide +kernel
theorem dX9_readIsles_60 : decode cX9_readIsles 60 = .ok (.getfield 40, 3) := by decide +kernel
theorem dX9_readIsles_63 : decode cX9_readIsles 63 = .ok (.aload_n 0, 1) := by decide +kernel
theorem dX9_readIsles_64 : decode cX9_readIsles 64 = .ok (.getfield 249, 3) := by decide +kernel
theorem dX9_readIsles_67 : decode cX9_readIsles 67 = .ok (.iload_n 2, 1) := by decide +kernel
theorem dX9_readIsles_68 : decode cX9_readIsles 68 = .ok (.iastore, 1) := by decide +kernel
theorem dX9_readIsles_69 : decode cX9_readIsles 69 = .ok (.aload_n 0, 1) := by decide +kernel
theorem dX9_readIsles_70 : decode cX9_readIsles 70 = .ok (.dup, 1) := by decide +kernel
theorem dX9_readIsles_71 : decode cX9_readIsles 71 = .ok (.getfield 249, 3) := by decide +kernel
theorem dX9_readIsles_74 : decode cX9_readIsles 74 = .ok (.iconst 1, 1) := by decide +kernel
theorem dX9_readIsles_75 : decode cX9_readIsles 75 = .ok (.iadd, 1) := by decide +kernel
theorem dX9_readIsles_76 : decode cX9_readIsles 76 = .ok (.putfield 249, 3) := by decide +kernel
theorem dX9_readIsles_79 : decode cX9_readIsles 79 = .ok (.aload_n 0, 1) := by decide +kernel
theorem dX9_readIsles_80 : decode cX9_readIsles 80 = .ok (.invokevirtual 170, 3) := by decide +kernel
theorem dX9_readIsles_83 : decode cX9_readIsles 83 = .ok (.bipush 44, 2) := by decide +kernel
theorem dX9_readIsles_85 : decode cX9_readIsles 85 = .ok (.if_icmp .ne 7, 3) := by decide +kernel
theorem dX9_readIsles_88 : decode cX9_readIsles 88 = .ok (.iconst 1, 1) := by decide +kernel
theorem dX9_readIsles_89 : decode cX9_readIsles 89 = .ok (.goto 4, 3) := by decide +kernel
theorem dX9_readIsles_92 : decode cX9_readIsles 92 = .ok (.iconst 0, 1) := by decide +kernel
theorem dX9_readIsles_93 : decode cX9_readIsles 93 = .ok (.istore_n 1, 1) := by decide +kernel
theorem dX9_readIsles_94 : decode cX9_readIsles 94 = .ok (.iload_n 1, 1) := by decide +kernel
theorem dX9_readIsles_95 : decode cX9_readIsles 95 = .ok (.ifCond .eq 18, 3) := by decide +kernel
theorem dX9_readIsles_98 : decode cX9_readIsles 98 = .ok (.aload_n 0, 1) := by decide +kernel
theorem dX9_readIsles_99 : decode cX9_readIsles 99 = .ok (.getfield 249, 3) := by decide +kernel
theorem dX9_readIsles_102 : decode cX9_readIsles 102 = .ok (.bipush 6, 2) := by decide +kernel
theorem dX9_readIsles_104 : decode cX9_readIsles 104 = .ok (.if_icmp .ne 9, 3) := by decide +kernel
theorem dX9_readIsles_107 : decode cX9_readIsles 107 = .ok (.aload_n 0, 1) := by decide +kernel
theorem dX9_readIsles_108 : decode cX9_readIsles 108 = .ok (.invokevirtual 166, 3) := by decide +kernel
theorem dX9_readIsles_111 : decode cX9_readIsles 111 = .ok (.pop, 1) := by decide +kernel
theorem dX9_readIsles_112 : decode cX9_readIsles 112 = .ok (.return_, 1) := by decide +kernel
theorem dX9_readIsles_113 : decode cX9_readIsles 113 = .ok (.iload_n 1, 1) := by decide +kernel
theorem dX9_readIsles_114 : decode cX9_readIsles 114 = .ok (.ifCond .eq 13, 3) := by decide +kernel
theorem dX9_readIsles_117 : decode cX9_readIsles 117 = .ok (.aload_n 0, 1) := by decide +kernel
theorem dX9_readIsles_118 : decode cX9_readIsles 118 = .ok (.dup, 1) := by decide +kernel
theorem dX9_readIsles_119 : decode cX9_readIsles 119 = .ok (.getfield 151, 3) := by decide +kernel
theorem dX9_readIsles_122 : decode cX9_readIsles 122 = .ok (.iconst 1, 1) := by decide +kernel
theorem dX9_readIsles_123 : decode cX9_readIsles 123 = .ok (.iadd, 1) := by decide +kernel
theorem dX9_readIsles_124 : decode cX9_readIsles 124 = .ok (.putfield 151, 3) := by decide +kernel
theorem dX9_readIsles_127 : decode cX9_readIsles 127 = .ok (.goto (-86), 3) := by decide +kernel
theorem dX9_readIsles_130 : decode cX9_readIsles 130 = .ok (.aload_n 0, 1) := by decide +kernel
theorem dX9_readIsles_131 : decode cX9_readIsles 131 = .ok (.invokevirtual 170, 3) := by decide +kernel
theorem dX9_readIsles_134 : decode cX9_readIsles 134 = .ok (.bipush 59, 2) := by decide +kernel
theorem dX9_readIsles_136 : decode cX9_readIsles 136 = .ok (.if_icmp .ne 11, 3) := by decide +kernel
theorem dX9_readIsles_139 : decode cX9_readIsles 139 = .ok (.aload_n 0, 1) := by decide +kernel
theorem dX9_readIsles_140 : decode cX9_readIsles 140 = .ok (.getfield 249, 3) := by decide +kernel
theorem dX9_readIsles_143 : decode cX9_readIsles 143 = .ok (.iconst 2, 1) := by decide +kernel
theorem dX9_readIsles_144 : decode cX9_readIsles 144 = .ok (.if_icmp .ge 9, 3) := by decide +kernel
theorem dX9_readIsles_147 : decode cX9_readIsles 147 = .ok (.aload_n 0, 1) := by decide +kernel
theorem dX9_readIsles_148 : decode cX9_readIsles 148 = .ok (.invokevirtual 166, 3) := by decide +kernel
theorem dX9_readIsles_151 : decode cX9_readIsles 151 = .ok (.pop, 1) := by decide +kernel
theorem dX9_readIsles_152 : decode cX9_readIsles 152 = .ok (.return_, 1) := by decide +kernel
theorem dX9_readIsles_153 : decode cX9_readIsles 153 = .ok (.aload_n 0, 1) := by decide +kernel
theorem dX9_readIsles_154 : decode cX9_readIsles 154 = .ok (.dup, 1) := by decide +kernel
theorem dX9_readIsles_155 : decode cX9_readIsles 155 = .ok (.getfield 151, 3) := by decide +kernel
theorem dX9_readIsles_158 : decode cX9_readIsles 158 = .ok (.iconst 1, 1) := by decide +kernel
theorem dX9_readIsles_159 : decode cX9_readIsles 159 = .ok (.iadd, 1) := by decide +kernel
theorem dX9_readIsles_160 : decode cX9_readIsles 160 = .ok (.putfield 151, 3) := by decide +kernel
theorem dX9_readIsles_163 : decode cX9_readIsles 163 = .ok (.iconst 1, 1) := by decide +kernel
theorem dX9_readIsles_164 : decode cX9_readIsles 164 = .ok (.istore_n 1, 1) := by decide +kernel
theorem dX9_readIsles_165 : decode cX9_readIsles 165 = .ok (.iload_n 1, 1) := by decide +kernel
theorem dX9_readIsles_166 : decode cX9_readIsles 166 = .ok (.ifCond .eq 48, 3) := by decide +kernel
theorem dX9_readIsles_169 : decode cX9_readIsles 169 = .ok (.aload_n 0, 1) := by decide +kernel
theorem dX9_readIsles_170 : decode cX9_readIsles 170 = .ok (.invokevirtual 258, 3) := by decide +kernel
theorem dX9_readIsles_173 : decode cX9_readIsles 173 = .ok (.aload_n 0, 1) := by decide +kernel
theorem dX9_readIsles_174 : decode cX9_readIsles 174 = .ok (.getfield 160, 3) := by decide +kernel
theorem dX9_readIsles_177 : decode cX9_readIsles 177 = .ok (.iconst (-1), 1) := by decide +kernel
theorem dX9_readIsles_178 : decode cX9_readIsles 178 = .ok (.if_icmp .eq 4, 3) := by decide +kernel
theorem dX9_readIsles_181 : decode cX9_readIsles 181 = .ok (.return_, 1) := by decide +kernel
theorem dX9_readIsles_182 : decode cX9_readIsles 182 = .ok (.aload_n 0, 1) := by decide +kernel
theorem dX9_readIsles_183 : decode cX9_readIsles 183 = .ok (.invokevirtual 170, 3) := by decide +kernel
theorem dX9_readIsles_186 : decode cX9_readIsles 186 = .ok (.bipush 44, 2) := by decide +kernel
theorem dX9_readIsles_188 : decode cX9_readIsles 188 = .ok (.if_icmp .ne 7, 3) := by decide +kernel
theorem dX9_readIsles_191 : decode cX9_readIsles 191 = .ok (.iconst 1, 1) := by decide +kernel
theorem dX9_readIsles_192 : decode cX9_readIsles 192 = .ok (.goto 4, 3) := by decide +kernel
theorem dX9_readIsles_195 : decode cX9_readIsles 195 = .ok (.iconst 0, 1) := by decide +kernel
theorem dX9_readIsles_196 : decode cX9_readIsles 196 = .ok (.istore_n 1, 1) := by decide +kernel
theorem dX9_readIsles_197 : decode cX9_readIsles 197 = .ok (.iload_n 1, 1) := by decide +kernel
theorem dX9_readIsles_198 : decode cX9_readIsles 198 = .ok (.ifCond .eq (-33), 3) := by decide +kernel
theorem dX9_readIsles_201 : decode cX9_readIsles 201 = .ok (.aload_n 0, 1) := by decide +kernel
theorem dX9_readIsles_202 : decode cX9_readIsles 202 = .ok (.dup, 1) := by decide +kernel
theorem dX9_readIsles_203 : decode cX9_readIsles 203 = .ok (.getfield 151, 3) := by decide +kernel
theorem dX9_readIsles_206 : decode cX9_readIsles 206 = .ok (.iconst 1, 1) := by decide +kernel
theorem dX9_readIsles_207 : decode cX9_readIsles 207 = .ok (.iadd, 1) := by decide +kernel
theorem dX9_readIsles_208 : decode cX9_readIsles 208 = .ok (.putfield 151, 3) := by decide +kernel
theorem dX9_readIsles_211 : decode cX9_readIsles 211 = .ok (.goto (-46), 3) := by decide +kernel
theorem dX9_readIsles_214 : decode cX9_readIsles 214 = .ok (.aload_n 0, 1) := by decide +kernel
theorem dX9_readIsles_215 : decode cX9_readIsles 215 = .ok (.invokevirtual 170, 3) := by decide +kernel
theorem dX9_readIsles_218 : decode cX9_readIsles 218 = .ok (.iconst (-1), 1) := by decide +kernel
theorem dX9_readIsles_219 : decode cX9_readIsles 219 = .ok (.if_icmp .eq 8, 3) := by decide +kernel
theorem dX9_readIsles_222 : decode cX9_readIsles 222 = .ok (.aload_n 0, 1) := by decide +kernel
theorem dX9_readIsles_223 : decode cX9_readIsles 223 = .ok (.invokevirtual 166, 3) := by decide +kernel
theorem dX9_readIsles_226 : decode cX9_readIsles 226 = .ok (.pop, 1) := by decide +kernel
theorem dX9_readIsles_227 : decode cX9_readIsles 227 = .ok (.return_, 1) := by decide +kernel
theorem dX9_fault_0 : decode cX9_fault 0 = .ok (.aload_n 0, 1) := by decide +kernel
theorem dX9_fault_1 : decode cX9_fault 1 = .ok (.iconst 0, 1) := by decide +kernel
theorem dX9_fault_2 : decode cX9_fault 2 = .ok (.putfield 128, 3) := by decide +kernel
theorem dX9_fault_5 : decode cX9_fault 5 = .ok (.iload_n 1, 1) := by decide +kernel
theorem dX9_fault_6 : decode cX9_fault 6 = .ok (.i2l, 1) := by decide +kernel
theorem dX9_fault_7 : decode cX9_fault 7 = .ok (.lconst 0, 1) := by decide +kernel
theorem dX9_fault_8 : decode cX9_fault 8 = .ok (.lconst 1, 1) := by decide +kernel
theorem dX9_fault_9 : decode cX9_fault 9 = .ok (.invokestatic 261, 3) := by decide +kernel
theorem dX9_fault_12 : decode cX9_fault 12 = .ok (.ifCond .ne 6, 3) := by decide +kernel
theorem dX9_fault_15 : decode cX9_fault 15 = .ok (.bipush (-2), 2) := by decide +kernel
theorem dX9_fault_17 : decode cX9_fault 17 = .ok (.ireturn, 1) := by decide +kernel
theorem dX9_fault_18 : decode cX9_fault 18 = .ok (.iload_n 1, 1) := by decide +kernel
theorem dX9_fault_19 : decode cX9_fault 19 = .ok (.ifCond .ne 10, 3) := by decide +kernel
theorem dX9_fault_22 : decode cX9_fault 22 = .ok (.aload_n 0, 1) := by decide +kernel
theorem dX9_fault_23 : decode cX9_fault 23 = .ok (.invokevirtual 265, 3) := by decide +kernel
theorem dX9_fault_26 : decode cX9_fault 26 = .ok (.goto 16, 3) := by decide +kernel
theorem dX9_fault_29 : decode cX9_fault 29 = .ok (.aload_n 0, 1) := by decide +kernel
theorem dX9_fault_30 : decode cX9_fault 30 = .ok (.aload_n 0, 1) := by decide +kernel
theorem dX9_fault_31 : decode cX9_fault 31 = .ok (.getfield 9, 3) := by decide +kernel
theorem dX9_fault_34 : decode cX9_fault 34 = .ok (.iconst 0, 1) := by decide +kernel
theorem dX9_fault_35 : decode cX9_fault 35 = .ok (.aload_n 0, 1) := by decide +kernel
theorem dX9_fault_36 : decode cX9_fault 36 = .ok (.getfield 141, 3) := by decide +kernel
theorem dX9_fault_39 : decode cX9_fault 39 = .ok (.invokevirtual 268, 3) := by decide +kernel
theorem dX9_fault_42 : decode cX9_fault 42 = .ok (.aload_n 0, 1) := by decide +kernel
theorem dX9_fault_43 : decode cX9_fault 43 = .ok (.getfield 160, 3) := by decide +kernel
theorem dX9_fault_46 : decode cX9_fault 46 = .ok (.ireturn, 1) := by decide +kernel
theorem dX9_text_0 : decode cX9_text 0 = .ok (.aload_n 0, 1) := by decide +kernel
theorem dX9_text_1 : decode cX9_text 1 = .ok (.iconst 0, 1) := by decide +kernel
theorem dX9_text_2 : decode cX9_text 2 = .ok (.putfield 128, 3) := by decide +kernel
theorem dX9_text_5 : decode cX9_text 5 = .ok (.iload_n 1, 1) := by decide +kernel
theorem dX9_text_6 : decode cX9_text 6 = .ok (.i2l, 1) := by decide +kernel
theorem dX9_text_7 : decode cX9_text 7 = .ok (.lconst 0, 1) := by decide +kernel
theorem dX9_text_8 : decode cX9_text 8 = .ok (.lconst 1, 1) := by decide +kernel
theorem dX9_text_9 : decode cX9_text 9 = .ok (.invokestatic 261, 3) := by decide +kernel
theorem dX9_text_12 : decode cX9_text 12 = .ok (.ifCond .eq 25, 3) := by decide +kernel
theorem dX9_text_15 : decode cX9_text 15 = .ok (.iload_n 1, 1) := by decide +kernel
theorem dX9_text_16 : decode cX9_text 16 = .ok (.iconst 1, 1) := by decide +kernel
theorem dX9_text_17 : decode cX9_text 17 = .ok (.if_icmp .ne 11, 3) := by decide +kernel
theorem dX9_text_20 : decode cX9_text 20 = .ok (.aload_n 0, 1) := by decide +kernel
theorem dX9_text_21 : decode cX9_text 21 = .ok (.getfield 271, 3) := by decide +kernel
theorem dX9_text_24 : decode cX9_text 24 = .ok (.iconst 4, 1) := by decide +kernel
theorem dX9_text_25 : decode cX9_text 25 = .ok (.if_icmp .eq 12, 3) := by decide +kernel
theorem dX9_text_28 : decode cX9_text 28 = .ok (.aload_n 0, 1) := by decide +kernel
theorem dX9_text_29 : decode cX9_text 29 = .ok (.iload_n 1, 1) := by decide +kernel
theorem dX9_text_30 : decode cX9_text 30 = .ok (.invokevirtual 274, 3) := by decide +kernel
theorem dX9_text_33 : decode cX9_text 33 = .ok (.iconst (-1), 1) := by decide +kernel
theorem dX9_text_34 : decode cX9_text 34 = .ok (.if_icmp .eq 5, 3) := by decide +kernel
theorem dX9_text_37 : decode cX9_text 37 = .ok (.iconst (-1), 1) := by decide +kernel
theorem dX9_text_38 : decode cX9_text 38 = .ok (.ireturn, 1) := by decide +kernel
theorem dX9_text_39 : decode cX9_text 39 = .ok (.aload_n 0, 1) := by decide +kernel
theorem dX9_text_40 : decode cX9_text 40 = .ok (.getfield 141, 3) := by decide +kernel
theorem dX9_text_43 : decode cX9_text 43 = .ok (.istore_n 2, 1) := by decide +kernel
theorem dX9_text_44 : decode cX9_text 44 = .ok (.aload_n 0, 1) := by decide +kernel
theorem dX9_text_45 : decode cX9_text 45 = .ok (.iconst 0, 1) := by decide +kernel
theorem dX9_text_46 : decode cX9_text 46 = .ok (.putfield 141, 3) := by decide +kernel
theorem dX9_text_49 : decode cX9_text 49 = .ok (.iload_n 1, 1) := by decide +kernel
theorem dX9_text_50 : decode cX9_text 50 = .ok (.iconst 1, 1) := by decide +kernel
theorem dX9_text_51 : decode cX9_text 51 = .ok (.if_icmp .ne 64, 3) := by decide +kernel
theorem dX9_text_54 : decode cX9_text 54 = .ok (.iconst 0, 1) := by decide +kernel
theorem dX9_text_55 : decode cX9_text 55 = .ok (.istore_n 3, 1) := by decide +kernel
theorem dX9_text_56 : decode cX9_text 56 = .ok (.iload_n 3, 1) := by decide +kernel
theorem dX9_text_57 : decode cX9_text 57 = .ok (.iload_n 2, 1) := by decide +kernel
theorem dX9_text_58 : decode cX9_text 58 = .ok (.if_icmp .ge 30, 3) := by decide +kernel
theorem dX9_text_61 : decode cX9_text 61 = .ok (.aload_n 0, 1) := by decide +kernel
theorem dX9_text_62 : decode cX9_text 62 = .ok (.getfield 13, 3) := by decide +kernel
theorem dX9_text_65 : decode cX9_text 65 = .ok (.sipush 160, 3) := by decide +kernel
theorem dX9_text_68 : decode cX9_text 68 = .ok (.aload_n 0, 1) := by decide +kernel
theorem dX9_text_69 : decode cX9_text 69 = .ok (.getfield 271, 3) := by decide +kernel
theorem dX9_text_72 : decode cX9_text 72 = .ok (.imul, 1) := by decide +kernel
theorem dX9_text_73 : decode cX9_text 73 = .ok (.iload_n 3, 1) := by decide +kernel
theorem dX9_text_74 : decode cX9_text 74 = .ok (.iadd, 1) := by decide +kernel
theorem dX9_text_75 : decode cX9_text 75 = .ok (.aload_n 0, 1) := by decide +kernel
theorem dX9_text_76 : decode cX9_text 76 = .ok (.getfield 9, 3) := by decide +kernel
theorem dX9_text_79 : decode cX9_text 79 = .ok (.iload_n 3, 1) := by decide +kernel
theorem dX9_text_80 : decode cX9_text 80 = .ok (.baload, 1) := by decide +kernel
theorem dX9_text_81 : decode cX9_text 81 = .ok (.bastore, 1) := by decide +kernel
theorem dX9_text_82 : decode cX9_text 82 = .ok (.iinc 3 1, 3) := by decide +kernel
theorem dX9_text_85 : decode cX9_text 85 = .ok (.goto (-29), 3) := by decide +kernel
theorem dX9_text_88 : decode cX9_text 88 = .ok (.aload_n 0, 1) := by decide +kernel
theorem dX9_text_89 : decode cX9_text 89 = .ok (.getfield 16, 3) := by decide +kernel
theorem dX9_text_92 : decode cX9_text 92 = .ok (.aload_n 0, 1) := by decide +kernel
theorem dX9_text_93 : decode cX9_text 93 = .ok (.getfield 271, 3) := by decide +kernel
theorem dX9_text_96 : decode cX9_text 96 = .ok (.iload_n 2, 1) := by decide +kernel
theorem dX9_text_97 : decode cX9_text 97 = .ok (.iastore, 1) := by decide +kernel
theorem dX9_text_98 : decode cX9_text 98 = .ok (.aload_n 0, 1) := by decide +kernel
theorem dX9_text_99 : decode cX9_text 99 = .ok (.dup, 1) := by decide +kernel
theorem dX9_text_100 : decode cX9_text 100 = .ok (.getfield 271, 3) := by decide +kernel
theorem dX9_text_103 : decode cX9_text 103 = .ok (.iconst 1, 1) := by decide +kernel
theorem dX9_text_104 : decode cX9_text 104 = .ok (.iadd, 1) := by decide +kernel
theorem dX9_text_105 : decode cX9_text 105 = .ok (.putfield 271, 3) := by decide +kernel
theorem dX9_text_108 : decode cX9_text 108 = .ok (.aload_n 0, 1) := by decide +kernel
theorem dX9_text_109 : decode cX9_text 109 = .ok (.getfield 271, 3) := by decide +kernel
theorem dX9_text_112 : decode cX9_text 112 = .ok (.iconst 1, 1) := by decide +kernel
theorem dX9_text_113 : decode cX9_text 113 = .ok (.isub, 1) := by decide +kernel
theorem dX9_text_114 : decode cX9_text 114 = .ok (.ireturn, 1) := by decide +kernel
theorem dX9_text_115 : decode cX9_text 115 = .ok (.aload_n 0, 1) := by decide +kernel
theorem dX9_text_116 : decode cX9_text 116 = .ok (.aload_n 0, 1) := by decide +kernel
theorem dX9_text_117 : decode cX9_text 117 = .ok (.getfield 249, 3) := by decide +kernel
theorem dX9_text_120 : decode cX9_text 120 = .ok (.putfield 276, 3) := by decide +kernel
theorem dX9_text_123 : decode cX9_text 123 = .ok (.iconst 0, 1) := by decide +kernel
theorem dX9_text_124 : decode cX9_text 124 = .ok (.istore_n 3, 1) := by decide +kernel
theorem dX9_text_125 : decode cX9_text 125 = .ok (.iload_n 3, 1) := by decide +kernel
theorem dX9_text_126 : decode cX9_text 126 = .ok (.bipush 6, 2) := by decide +kernel
theorem dX9_text_128 : decode cX9_text 128 = .ok (.if_icmp .ge 28, 3) := by decide +kernel
theorem dX9_text_131 : decode cX9_text 131 = .ok (.aload_n 0, 1) := by decide +kernel
theorem dX9_text_132 : decode cX9_text 132 = .ok (.getfield 37, 3) := by decide +kernel
theorem dX9_text_135 : decode cX9_text 135 = .ok (.iload_n 3, 1) := by decide +kernel
theorem dX9_text_136 : decode cX9_text 136 = .ok (.aload_n 0, 1) := by decide +kernel
theorem dX9_text_137 : decode cX9_text 137 = .ok (.getfield 40, 3) := by decide +kernel
theorem dX9_text_140 : decode cX9_text 140 = .ok (.iload_n 3, 1) := by decide +kernel
theorem dX9_text_141 : decode cX9_text 141 = .ok (.iaload, 1) := by decide +kernel
theorem dX9_text_142 : decode cX9_text 142 = .ok (.iastore, 1) := by decide +kernel
theorem dX9_text_143 : decode cX9_text 143 = .ok (.aload_n 0, 1) := by decide +kernel
theorem dX9_text_144 : decode cX9_text 144 = .ok (.getfield 49, 3) := by decide +kernel
theorem dX9_text_147 : decode cX9_text 147 = .ok (.iload_n 3, 1) := by decide +kernel
theorem dX9_text_148 : decode cX9_text 148 = .ok (.iconst (-1), 1) := by decide +kernel
theorem dX9_text_149 : decode cX9_text 149 = .ok (.iastore, 1) := by decide +kernel
theorem dX9_text_150 : decode cX9_text 150 = .ok (.iinc 3 1, 3) := by decide +kernel
theorem dX9_text_153 : decode cX9_text 153 = .ok (.goto (-28), 3) := by decide +kernel
theorem dX9_text_156 : decode cX9_text 156 = .ok (.iconst 0, 1) := by decide +kernel
theorem dX9_text_157 : decode cX9_text 157 = .ok (.istore_n 3, 1) := by decide +kernel
theorem dX9_text_158 : decode cX9_text 158 = .ok (.iload_n 3, 1) := by decide +kernel
theorem dX9_text_159 : decode cX9_text 159 = .ok (.bipush 36, 2) := by decide +kernel
theorem dX9_text_161 : decode cX9_text 161 = .ok (.if_icmp .ge 21, 3) := by decide +kernel
theorem dX9_text_164 : decode cX9_text 164 = .ok (.aload_n 0, 1) := by decide +kernel
theorem dX9_text_165 : decode cX9_text 165 = .ok (.getfield 43, 3) := by decide +kernel
theorem dX9_text_168 : decode cX9_text 168 = .ok (.iload_n 3, 1) := by decide +kernel
theorem dX9_text_169 : decode cX9_text 169 = .ok (.aload_n 0, 1) := by decide +kernel
theorem dX9_text_170 : decode cX9_text 170 = .ok (.getfield 46, 3) := by decide +kernel
theorem dX9_text_173 : decode cX9_text 173 = .ok (.iload_n 3, 1) := by decide +kernel
theorem dX9_text_174 : decode cX9_text 174 = .ok (.iaload, 1) := by decide +kernel
theorem dX9_text_175 : decode cX9_text 175 = .ok (.iastore, 1) := by decide +kernel
theorem dX9_text_176 : decode cX9_text 176 = .ok (.iinc 3 1, 3) := by decide +kernel
theorem dX9_text_179 : decode cX9_text 179 = .ok (.goto (-21), 3) := by decide +kernel
theorem dX9_text_182 : decode cX9_text 182 = .ok (.aload_n 0, 1) := by decide +kernel
theorem dX9_text_183 : decode cX9_text 183 = .ok (.iconst 0, 1) := by decide +kernel
theorem dX9_text_184 : decode cX9_text 184 = .ok (.putfield 279, 3) := by decide +kernel
theorem dX9_text_187 : decode cX9_text 187 = .ok (.aload_n 0, 1) := by decide +kernel
theorem dX9_text_188 : decode cX9_text 188 = .ok (.iconst 0, 1) := by decide +kernel
theorem dX9_text_189 : decode cX9_text 189 = .ok (.putfield 282, 3) := by decide +kernel
theorem dX9_text_192 : decode cX9_text 192 = .ok (.aload_n 0, 1) := by decide +kernel
theorem dX9_text_193 : decode cX9_text 193 = .ok (.iconst 0, 1) := by decide +kernel
theorem dX9_text_194 : decode cX9_text 194 = .ok (.putfield 285, 3) := by decide +kernel
theorem dX9_text_197 : decode cX9_text 197 = .ok (.aload_n 0, 1) := by decide +kernel
theorem dX9_text_198 : decode cX9_text 198 = .ok (.iconst 0, 1) := by decide +kernel
theorem dX9_text_199 : decode cX9_text 199 = .ok (.putfield 288, 3) := by decide +kernel
theorem dX9_text_202 : decode cX9_text 202 = .ok (.aload_n 0, 1) := by decide +kernel
theorem dX9_text_203 : decode cX9_text 203 = .ok (.iconst 0, 1) := by decide +kernel
theorem dX9_text_204 : decode cX9_text 204 = .ok (.putfield 291, 3) := by decide +kernel
theorem dX9_text_207 : decode cX9_text 207 = .ok (.aload_n 0, 1) := by decide +kernel
theorem dX9_text_208 : decode cX9_text 208 = .ok (.getfield 276, 3) := by decide +kernel
theorem dX9_text_211 : decode cX9_text 211 = .ok (.ireturn, 1) := by decide +kernel
theorem dX9_isIsle_0 : decode cX9_isIsle 0 = .ok (.iload_n 1, 1) := by decide +kernel
theorem dX9_isIsle_1 : decode cX9_isIsle 1 = .ok (.ifCond .lt 15, 3) := by decide +kernel
theorem dX9_isIsle_4 : decode cX9_isIsle 4 = .ok (.iload_n 1, 1) := by decide +kernel
theorem dX9_isIsle_5 : decode cX9_isIsle 5 = .ok (.aload_n 0, 1) := by decide +kernel
theorem dX9_isIsle_6 : decode cX9_isIsle 6 = .ok (.getfield 276, 3) := by decide +kernel
theorem dX9_isIsle_9 : decode cX9_isIsle 9 = .ok (.if_icmp .ge 7, 3) := by decide +kernel
theorem dX9_isIsle_12 : decode cX9_isIsle 12 = .ok (.iconst 1, 1) := by decide +kernel
theorem dX9_isIsle_13 : decode cX9_isIsle 13 = .ok (.goto 4, 3) := by decide +kernel
theorem dX9_isIsle_16 : decode cX9_isIsle 16 = .ok (.iconst 0, 1) := by decide +kernel
theorem dX9_isIsle_17 : decode cX9_isIsle 17 = .ok (.ireturn, 1) := by decide +kernel
theorem dX9_isDay_0 : decode cX9_isDay 0 = .ok (.iload_n 0, 1) := by decide +kernel
theorem dX9_isDay_1 : decode cX9_isDay 1 = .ok (.i2l, 1) := by decide +kernel
theorem dX9_isDay_2 : decode cX9_isDay 2 = .ok (.lconst 0, 1) := by decide +kernel
theorem dX9_isDay_3 : decode cX9_isDay 3 = .ok (.ldc2_w 294, 3) := by decide +kernel
theorem dX9_isDay_6 : decode cX9_isDay 6 = .ok (.invokestatic 261, 3) := by decide +kernel
theorem dX9_isDay_9 : decode cX9_isDay 9 = .ok (.ireturn, 1) := by decide +kernel
theorem dX9_tabooOn_0 : decode cX9_tabooOn 0 = .ok (.iload_n 1, 1) := by decide +kernel
theorem dX9_tabooOn_1 : decode cX9_tabooOn 1 = .ok (.aload_n 0, 1) := by decide +kernel
theorem dX9_tabooOn_2 : decode cX9_tabooOn 2 = .ok (.getfield 61, 3) := by decide +kernel
theorem dX9_tabooOn_5 : decode cX9_tabooOn 5 = .ok (.if_icmp .ne 8, 3) := by decide +kernel
theorem dX9_tabooOn_8 : decode cX9_tabooOn 8 = .ok (.aload_n 0, 1) := by decide +kernel
theorem dX9_tabooOn_9 : decode cX9_tabooOn 9 = .ok (.getfield 296, 3) := by decide +kernel
theorem dX9_tabooOn_12 : decode cX9_tabooOn 12 = .ok (.ireturn, 1) := by decide +kernel
theorem dX9_tabooOn_13 : decode cX9_tabooOn 13 = .ok (.aload_n 0, 1) := by decide +kernel
theorem dX9_tabooOn_14 : decode cX9_tabooOn 14 = .ok (.getfield 37, 3) := by decide +kernel
theorem dX9_tabooOn_17 : decode cX9_tabooOn 17 = .ok (.iload_n 1, 1) := by decide +kernel
theorem dX9_tabooOn_18 : decode cX9_tabooOn 18 = .ok (.iaload, 1) := by decide +kernel
theorem dX9_tabooOn_19 : decode cX9_tabooOn 19 = .ok (.istore_n 3, 1) := by decide +kernel
theorem dX9_tabooOn_20 : decode cX9_tabooOn 20 = .ok (.iconst (-1), 1) := by decide +kernel
theorem dX9_tabooOn_21 : decode cX9_tabooOn 21 = .ok (.istore 4, 2) := by decide +kernel
theorem dX9_tabooOn_23 : decode cX9_tabooOn 23 = .ok (.iconst 0, 1) := by decide +kernel
theorem dX9_tabooOn_24 : decode cX9_tabooOn 24 = .ok (.istore 5, 2) := by decide +kernel
theorem dX9_tabooOn_26 : decode cX9_tabooOn 26 = .ok (.iload 5, 2) := by decide +kernel
theorem dX9_tabooOn_28 : decode cX9_tabooOn 28 = .ok (.aload_n 0, 1) := by decide +kernel
theorem dX9_tabooOn_29 : decode cX9_tabooOn 29 = .ok (.getfield 282, 3) := by decide +kernel
theorem dX9_tabooOn_32 : decode cX9_tabooOn 32 = .ok (.if_icmp .ge 63, 3) := by decide +kernel
theorem dX9_tabooOn_35 : decode cX9_tabooOn 35 = .ok (.aload_n 0, 1) := by decide +kernel
theorem dX9_tabooOn_36 : decode cX9_tabooOn 36 = .ok (.getfield 52, 3) := by decide +kernel
theorem dX9_tabooOn_39 : decode cX9_tabooOn 39 = .ok (.iload 5, 2) := by decide +kernel
theorem dX9_tabooOn_41 : decode cX9_tabooOn 41 = .ok (.iaload, 1) := by decide +kernel
theorem dX9_tabooOn_42 : decode cX9_tabooOn 42 = .ok (.iload_n 1, 1) := by decide +kernel
theorem dX9_tabooOn_43 : decode cX9_tabooOn 43 = .ok (.if_icmp .ne 46, 3) := by decide +kernel
theorem dX9_tabooOn_46 : decode cX9_tabooOn 46 = .ok (.aload_n 0, 1) := by decide +kernel
theorem dX9_tabooOn_47 : decode cX9_tabooOn 47 = .ok (.getfield 55, 3) := by decide +kernel
theorem dX9_tabooOn_50 : decode cX9_tabooOn 50 = .ok (.iload 5, 2) := by decide +kernel
theorem dX9_tabooOn_52 : decode cX9_tabooOn 52 = .ok (.iaload, 1) := by decide +kernel
theorem dX9_tabooOn_53 : decode cX9_tabooOn 53 = .ok (.iload_n 2, 1) := by decide +kernel
theorem dX9_tabooOn_54 : decode cX9_tabooOn 54 = .ok (.if_icmp .gt 35, 3) := by decide +kernel
theorem dX9_tabooOn_57 : decode cX9_tabooOn 57 = .ok (.aload_n 0, 1) := by decide +kernel
theorem dX9_tabooOn_58 : decode cX9_tabooOn 58 = .ok (.getfield 55, 3) := by decide +kernel
theorem dX9_tabooOn_61 : decode cX9_tabooOn 61 = .ok (.iload 5, 2) := by decide +kernel
theorem dX9_tabooOn_63 : decode cX9_tabooOn 63 = .ok (.iaload, 1) := by decide +kernel
theorem dX9_tabooOn_64 : decode cX9_tabooOn 64 = .ok (.iload 4, 2) := by decide +kernel
theorem dX9_tabooOn_66 : decode cX9_tabooOn 66 = .ok (.if_icmp .ge 6, 3) := by decide +kernel
theorem dX9_tabooOn_69 : decode cX9_tabooOn 69 = .ok (.goto 20, 3) := by decide +kernel
theorem dX9_tabooOn_72 : decode cX9_tabooOn 72 = .ok (.aload_n 0, 1) := by decide +kernel
theorem dX9_tabooOn_73 : decode cX9_tabooOn 73 = .ok (.getfield 55, 3) := by decide +kernel
theorem dX9_tabooOn_76 : decode cX9_tabooOn 76 = .ok (.iload 5, 2) := by decide +kernel
theorem dX9_tabooOn_78 : decode cX9_tabooOn 78 = .ok (.iaload, 1) := by decide +kernel
theorem dX9_tabooOn_79 : decode cX9_tabooOn 79 = .ok (.istore 4, 2) := by decide +kernel
theorem dX9_tabooOn_81 : decode cX9_tabooOn 81 = .ok (.aload_n 0, 1) := by decide +kernel
theorem dX9_tabooOn_82 : decode cX9_tabooOn 82 = .ok (.getfield 58, 3) := by decide +kernel
theorem dX9_tabooOn_85 : decode cX9_tabooOn 85 = .ok (.iload 5, 2) := by decide +kernel
theorem dX9_tabooOn_87 : decode cX9_tabooOn 87 = .ok (.iaload, 1) := by decide +kernel
theorem dX9_tabooOn_88 : decode cX9_tabooOn 88 = .ok (.istore_n 3, 1) := by decide +kernel
theorem dX9_tabooOn_89 : decode cX9_tabooOn 89 = .ok (.iinc 5 1, 3) := by decide +kernel
theorem dX9_tabooOn_92 : decode cX9_tabooOn 92 = .ok (.goto (-66), 3) := by decide +kernel
theorem dX9_tabooOn_95 : decode cX9_tabooOn 95 = .ok (.iload_n 3, 1) := by decide +kernel
theorem dX9_tabooOn_96 : decode cX9_tabooOn 96 = .ok (.ireturn, 1) := by decide +kernel
theorem dX9_taboo_0 : decode cX9_taboo 0 = .ok (.aload_n 0, 1) := by decide +kernel
theorem dX9_taboo_1 : decode cX9_taboo 1 = .ok (.aload_n 0, 1) := by decide +kernel
theorem dX9_taboo_2 : decode cX9_taboo 2 = .ok (.iload_n 1, 1) := by decide +kernel
theorem dX9_taboo_3 : decode cX9_taboo 3 = .ok (.invokevirtual 299, 3) := by decide +kernel
theorem dX9_taboo_6 : decode cX9_taboo 6 = .ok (.ifCond .eq 14, 3) := by decide +kernel
theorem dX9_taboo_9 : decode cX9_taboo 9 = .ok (.iload_n 2, 1) := by decide +kernel
theorem dX9_taboo_10 : decode cX9_taboo 10 = .ok (.invokestatic 302, 3) := by decide +kernel
theorem dX9_taboo_13 : decode cX9_taboo 13 = .ok (.ifCond .eq 7, 3) := by decide +kernel
theorem dX9_taboo_16 : decode cX9_taboo 16 = .ok (.iconst 0, 1) := by decide +kernel
theorem dX9_taboo_17 : decode cX9_taboo 17 = .ok (.goto 4, 3) := by decide +kernel
theorem dX9_taboo_20 : decode cX9_taboo 20 = .ok (.iconst 1, 1) := by decide +kernel
theorem dX9_taboo_21 : decode cX9_taboo 21 = .ok (.putfield 128, 3) := by decide +kernel
theorem dX9_taboo_24 : decode cX9_taboo 24 = .ok (.aload_n 0, 1) := by decide +kernel
theorem dX9_taboo_25 : decode cX9_taboo 25 = .ok (.getfield 128, 3) := by decide +kernel
theorem dX9_taboo_28 : decode cX9_taboo 28 = .ok (.ifCond .le 7, 3) := by decide +kernel
theorem dX9_taboo_31 : decode cX9_taboo 31 = .ok (.iconst 0, 1) := by decide +kernel
theorem dX9_taboo_32 : decode cX9_taboo 32 = .ok (.goto 9, 3) := by decide +kernel
theorem dX9_taboo_35 : decode cX9_taboo 35 = .ok (.aload_n 0, 1) := by decide +kernel
theorem dX9_taboo_36 : decode cX9_taboo 36 = .ok (.iload_n 1, 1) := by decide +kernel
theorem dX9_taboo_37 : decode cX9_taboo 37 = .ok (.iload_n 2, 1) := by decide +kernel
theorem dX9_taboo_38 : decode cX9_taboo 38 = .ok (.invokevirtual 305, 3) := by decide +kernel
theorem dX9_taboo_41 : decode cX9_taboo 41 = .ok (.ireturn, 1) := by decide +kernel
theorem dX9_way_0 : decode cX9_way 0 = .ok (.aload_n 0, 1) := by decide +kernel
theorem dX9_way_1 : decode cX9_way 1 = .ok (.iconst 0, 1) := by decide +kernel
theorem dX9_way_2 : decode cX9_way 2 = .ok (.putfield 128, 3) := by decide +kernel
theorem dX9_way_5 : decode cX9_way 5 = .ok (.aload_n 0, 1) := by decide +kernel
theorem dX9_way_6 : decode cX9_way 6 = .ok (.iload_n 1, 1) := by decide +kernel
theorem dX9_way_7 : decode cX9_way 7 = .ok (.invokevirtual 299, 3) := by decide +kernel
theorem dX9_way_10 : decode cX9_way 10 = .ok (.ifCond .eq 39, 3) := by decide +kernel
theorem dX9_way_13 : decode cX9_way 13 = .ok (.aload_n 0, 1) := by decide +kernel
theorem dX9_way_14 : decode cX9_way 14 = .ok (.iload_n 2, 1) := by decide +kernel
theorem dX9_way_15 : decode cX9_way 15 = .ok (.invokevirtual 299, 3) := by decide +kernel
theorem dX9_way_18 : decode cX9_way 18 = .ok (.ifCond .eq 31, 3) := by decide +kernel
theorem dX9_way_21 : decode cX9_way 21 = .ok (.aload_n 0, 1) := by decide +kernel
theorem dX9_way_22 : decode cX9_way 22 = .ok (.getfield 43, 3) := by decide +kernel
theorem dX9_way_25 : decode cX9_way 25 = .ok (.bipush 6, 2) := by decide +kernel
theorem dX9_way_27 : decode cX9_way 27 = .ok (.iload_n 1, 1) := by decide +kernel
theorem dX9_way_28 : decode cX9_way 28 = .ok (.imul, 1) := by decide +kernel
theorem dX9_way_29 : decode cX9_way 29 = .ok (.iload_n 2, 1) := by decide +kernel
theorem dX9_way_30 : decode cX9_way 30 = .ok (.iadd, 1) := by decide +kernel
theorem dX9_way_31 : decode cX9_way 31 = .ok (.iaload, 1) := by decide +kernel
theorem dX9_way_32 : decode cX9_way 32 = .ok (.ifCond .le 17, 3) := by decide +kernel
theorem dX9_way_35 : decode cX9_way 35 = .ok (.aload_n 0, 1) := by decide +kernel
theorem dX9_way_36 : decode cX9_way 36 = .ok (.getfield 43, 3) := by decide +kernel
theorem dX9_way_39 : decode cX9_way 39 = .ok (.bipush 6, 2) := by decide +kernel
theorem dX9_way_41 : decode cX9_way 41 = .ok (.iload_n 1, 1) := by decide +kernel
theorem dX9_way_42 : decode cX9_way 42 = .ok (.imul, 1) := by decide +kernel
theorem dX9_way_43 : decode cX9_way 43 = .ok (.iload_n 2, 1) := by decide +kernel
theorem dX9_way_44 : decode cX9_way 44 = .ok (.iadd, 1) := by decide +kernel
theorem dX9_way_45 : decode cX9_way 45 = .ok (.iaload, 1) := by decide +kernel
theorem dX9_way_46 : decode cX9_way 46 = .ok (.goto 4, 3) := by decide +kernel
theorem dX9_way_49 : decode cX9_way 49 = .ok (.iconst (-1), 1) := by decide +kernel
theorem dX9_way_50 : decode cX9_way 50 = .ok (.ireturn, 1) := by decide +kernel
theorem dX9_custom_0 : decode cX9_custom 0 = .ok (.aload_n 0, 1) := by decide +kernel
theorem dX9_custom_1 : decode cX9_custom 1 = .ok (.iconst 0, 1) := by decide +kernel
theorem dX9_custom_2 : decode cX9_custom 2 = .ok (.putfield 128, 3) := by decide +kernel
theorem dX9_custom_5 : decode cX9_custom 5 = .ok (.aload_n 0, 1) := by decide +kernel
theorem dX9_custom_6 : decode cX9_custom 6 = .ok (.iload_n 1, 1) := by decide +kernel
theorem dX9_custom_7 : decode cX9_custom 7 = .ok (.invokevirtual 299, 3) := by decide +kernel
theorem dX9_custom_10 : decode cX9_custom 10 = .ok (.ifCond .eq 24, 3) := by decide +kernel
theorem dX9_custom_13 : decode cX9_custom 13 = .ok (.iload_n 2, 1) := by decide +kernel
theorem dX9_custom_14 : decode cX9_custom 14 = .ok (.iconst (-1), 1) := by decide +kernel
theorem dX9_custom_15 : decode cX9_custom 15 = .ok (.if_icmp .eq 21, 3) := by decide +kernel
theorem dX9_custom_18 : decode cX9_custom 18 = .ok (.iload_n 2, 1) := by decide +kernel
theorem dX9_custom_19 : decode cX9_custom 19 = .ok (.i2l, 1) := by decide +kernel
theorem dX9_custom_20 : decode cX9_custom 20 = .ok (.lconst 0, 1) := by decide +kernel
theorem dX9_custom_21 : decode cX9_custom 21 = .ok (.aload_n 0, 1) := by decide +kernel
theorem dX9_custom_22 : decode cX9_custom 22 = .ok (.getfield 271, 3) := by decide +kernel
theorem dX9_custom_25 : decode cX9_custom 25 = .ok (.iconst 1, 1) := by decide +kernel
theorem dX9_custom_26 : decode cX9_custom 26 = .ok (.isub, 1) := by decide +kernel
theorem dX9_custom_27 : decode cX9_custom 27 = .ok (.i2l, 1) := by decide +kernel
theorem dX9_custom_28 : decode cX9_custom 28 = .ok (.invokestatic 261, 3) := by decide +kernel
theorem dX9_custom_31 : decode cX9_custom 31 = .ok (.ifCond .ne 5, 3) := by decide +kernel
theorem dX9_custom_34 : decode cX9_custom 34 = .ok (.iconst 0, 1) := by decide +kernel
theorem dX9_custom_35 : decode cX9_custom 35 = .ok (.ireturn, 1) := by decide +kernel
theorem dX9_custom_36 : decode cX9_custom 36 = .ok (.aload_n 0, 1) := by decide +kernel
theorem dX9_custom_37 : decode cX9_custom 37 = .ok (.getfield 49, 3) := by decide +kernel
theorem dX9_custom_40 : decode cX9_custom 40 = .ok (.iload_n 1, 1) := by decide +kernel
theorem dX9_custom_41 : decode cX9_custom 41 = .ok (.iload_n 2, 1) := by decide +kernel
theorem dX9_custom_42 : decode cX9_custom 42 = .ok (.iastore, 1) := by decide +kernel
theorem dX9_custom_43 : decode cX9_custom 43 = .ok (.iconst 1, 1) := by decide +kernel
theorem dX9_custom_44 : decode cX9_custom 44 = .ok (.ireturn, 1) := by decide +kernel
theorem dX9_isForbidden_0 : decode cX9_isForbidden 0 = .ok (.iload_n 2, 1) := by decide +kernel
theorem dX9_isForbidden_1 : decode cX9_isForbidden 1 = .ok (.ifCond .gt 5, 3) := by decide +kernel
theorem dX9_isForbidden_4 : decode cX9_isForbidden 4 = .ok (.iconst 0, 1) := by decide +kernel
theorem dX9_isForbidden_5 : decode cX9_isForbidden 5 = .ok (.ireturn, 1) := by decide +kernel
theorem dX9_isForbidden_6 : decode cX9_isForbidden 6 = .ok (.aload_n 0, 1) := by decide +kernel
theorem dX9_isForbidden_7 : decode cX9_isForbidden 7 = .ok (.iload_n 1, 1) := by decide +kernel
theorem dX9_isForbidden_8 : decode cX9_isForbidden 8 = .ok (.iload_n 3, 1) := by decide +kernel
theorem dX9_isForbidden_9 : decode cX9_isForbidden 9 = .ok (.invokevirtual 305, 3) := by decide +kernel
theorem dX9_isForbidden_12 : decode cX9_isForbidden 12 = .ok (.istore 4, 2) := by decide +kernel
theorem dX9_isForbidden_14 : decode cX9_isForbidden 14 = .ok (.iload_n 2, 1) := by decide +kernel
theorem dX9_isForbidden_15 : decode cX9_isForbidden 15 = .ok (.iload 4, 2) := by decide +kernel
theorem dX9_isForbidden_17 : decode cX9_isForbidden 17 = .ok (.if_icmp .ne 5, 3) := by decide +kernel
theorem dX9_isForbidden_20 : decode cX9_isForbidden 20 = .ok (.iconst 1, 1) := by decide +kernel
theorem dX9_isForbidden_21 : decode cX9_isForbidden 21 = .ok (.ireturn, 1) := by decide +kernel
theorem dX9_isForbidden_22 : decode cX9_isForbidden 22 = .ok (.aload_n 0, 1) := by decide +kernel
theorem dX9_isForbidden_23 : decode cX9_isForbidden 23 = .ok (.getfield 49, 3) := by decide +kernel
theorem dX9_isForbidden_26 : decode cX9_isForbidden 26 = .ok (.iload_n 1, 1) := by decide +kernel
theorem dX9_isForbidden_27 : decode cX9_isForbidden 27 = .ok (.iaload, 1) := by decide +kernel
theorem dX9_isForbidden_28 : decode cX9_isForbidden 28 = .ok (.iconst (-1), 1) := by decide +kernel
theorem dX9_isForbidden_29 : decode cX9_isForbidden 29 = .ok (.if_icmp .ne 5, 3) := by decide +kernel
theorem dX9_isForbidden_32 : decode cX9_isForbidden 32 = .ok (.iconst 0, 1) := by decide +kernel
theorem dX9_isForbidden_33 : decode cX9_isForbidden 33 = .ok (.ireturn, 1) := by decide +kernel
theorem dX9_isForbidden_34 : decode cX9_isForbidden 34 = .ok (.iconst 0, 1) := by decide +kernel
theorem dX9_isForbidden_35 : decode cX9_isForbidden 35 = .ok (.istore 5, 2) := by decide +kernel
theorem dX9_isForbidden_37 : decode cX9_isForbidden 37 = .ok (.iload_n 2, 1) := by decide +kernel
theorem dX9_isForbidden_38 : decode cX9_isForbidden 38 = .ok (.istore 6, 2) := by decide +kernel
theorem dX9_isForbidden_40 : decode cX9_isForbidden 40 = .ok (.iload 6, 2) := by decide +kernel
theorem dX9_isForbidden_42 : decode cX9_isForbidden 42 = .ok (.ifCond .le 23, 3) := by decide +kernel
theorem dX9_isForbidden_45 : decode cX9_isForbidden 45 = .ok (.iload 5, 2) := by decide +kernel
theorem dX9_isForbidden_47 : decode cX9_isForbidden 47 = .ok (.iload 6, 2) := by decide +kernel
theorem dX9_isForbidden_49 : decode cX9_isForbidden 49 = .ok (.bipush 10, 2) := by decide +kernel
theorem dX9_isForbidden_51 : decode cX9_isForbidden 51 = .ok (.irem, 1) := by decide +kernel
theorem dX9_isForbidden_52 : decode cX9_isForbidden 52 = .ok (.iadd, 1) := by decide +kernel
theorem dX9_isForbidden_53 : decode cX9_isForbidden 53 = .ok (.istore 5, 2) := by decide +kernel
theorem dX9_isForbidden_55 : decode cX9_isForbidden 55 = .ok (.iload 6, 2) := by decide +kernel
theorem dX9_isForbidden_57 : decode cX9_isForbidden 57 = .ok (.bipush 10, 2) := by decide +kernel
theorem dX9_isForbidden_59 : decode cX9_isForbidden 59 = .ok (.idiv, 1) := by decide +kernel
theorem dX9_isForbidden_60 : decode cX9_isForbidden 60 = .ok (.istore 6, 2) := by decide +kernel
theorem dX9_isForbidden_62 : decode cX9_isForbidden 62 = .ok (.goto (-22), 3) := by decide +kernel
theorem dX9_isForbidden_65 : decode cX9_isForbidden 65 = .ok (.aload_n 0, 1) := by decide +kernel
theorem dX9_isForbidden_66 : decode cX9_isForbidden 66 = .ok (.getfield 20, 3) := by decide +kernel
theorem dX9_isForbidden_69 : decode cX9_isForbidden 69 = .ok (.bipush 110, 2) := by decide +kernel
theorem dX9_isForbidden_71 : decode cX9_isForbidden 71 = .ok (.iload_n 2, 1) := by decide +kernel
theorem dX9_isForbidden_72 : decode cX9_isForbidden 72 = .ok (.iastore, 1) := by decide +kernel
theorem dX9_isForbidden_73 : decode cX9_isForbidden 73 = .ok (.aload_n 0, 1) := by decide +kernel
theorem dX9_isForbidden_74 : decode cX9_isForbidden 74 = .ok (.getfield 20, 3) := by decide +kernel
theorem dX9_isForbidden_77 : decode cX9_isForbidden 77 = .ok (.bipush 116, 2) := by decide +kernel
theorem dX9_isForbidden_79 : decode cX9_isForbidden 79 = .ok (.iload 4, 2) := by decide +kernel
theorem dX9_isForbidden_81 : decode cX9_isForbidden 81 = .ok (.iastore, 1) := by decide +kernel
theorem dX9_isForbidden_82 : decode cX9_isForbidden 82 = .ok (.aload_n 0, 1) := by decide +kernel
theorem dX9_isForbidden_83 : decode cX9_isForbidden 83 = .ok (.getfield 20, 3) := by decide +kernel
theorem dX9_isForbidden_86 : decode cX9_isForbidden 86 = .ok (.bipush 115, 2) := by decide +kernel
theorem dX9_isForbidden_88 : decode cX9_isForbidden 88 = .ok (.iload 5, 2) := by decide +kernel
theorem dX9_isForbidden_90 : decode cX9_isForbidden 90 = .ok (.iastore, 1) := by decide +kernel
theorem dX9_isForbidden_91 : decode cX9_isForbidden 91 = .ok (.aload_n 0, 1) := by decide +kernel
theorem dX9_isForbidden_92 : decode cX9_isForbidden 92 = .ok (.getfield 20, 3) := by decide +kernel
theorem dX9_isForbidden_95 : decode cX9_isForbidden 95 = .ok (.bipush 108, 2) := by decide +kernel
theorem dX9_isForbidden_97 : decode cX9_isForbidden 97 = .ok (.iload_n 2, 1) := by decide +kernel
theorem dX9_isForbidden_98 : decode cX9_isForbidden 98 = .ok (.bipush 10, 2) := by decide +kernel
theorem dX9_isForbidden_100 : decode cX9_isForbidden 100 = .ok (.irem, 1) := by decide +kernel
theorem dX9_isForbidden_101 : decode cX9_isForbidden 101 = .ok (.iastore, 1) := by decide +kernel
theorem dX9_isForbidden_102 : decode cX9_isForbidden 102 = .ok (.aload_n 0, 1) := by decide +kernel
theorem dX9_isForbidden_103 : decode cX9_isForbidden 103 = .ok (.getfield 20, 3) := by decide +kernel
theorem dX9_isForbidden_106 : decode cX9_isForbidden 106 = .ok (.bipush 105, 2) := by decide +kernel
theorem dX9_isForbidden_108 : decode cX9_isForbidden 108 = .ok (.iload_n 1, 1) := by decide +kernel
theorem dX9_isForbidden_109 : decode cX9_isForbidden 109 = .ok (.iastore, 1) := by decide +kernel
theorem dX9_isForbidden_110 : decode cX9_isForbidden 110 = .ok (.aload_n 0, 1) := by decide +kernel
theorem dX9_isForbidden_111 : decode cX9_isForbidden 111 = .ok (.getfield 20, 3) := by decide +kernel
theorem dX9_isForbidden_114 : decode cX9_isForbidden 114 = .ok (.bipush 100, 2) := by decide +kernel
theorem dX9_isForbidden_116 : decode cX9_isForbidden 116 = .ok (.iload_n 3, 1) := by decide +kernel
theorem dX9_isForbidden_117 : decode cX9_isForbidden 117 = .ok (.iastore, 1) := by decide +kernel
theorem dX9_isForbidden_118 : decode cX9_isForbidden 118 = .ok (.aload_n 0, 1) := by decide +kernel
theorem dX9_isForbidden_119 : decode cX9_isForbidden 119 = .ok (.aload_n 0, 1) := by decide +kernel
theorem dX9_isForbidden_120 : decode cX9_isForbidden 120 = .ok (.getfield 13, 3) := by decide +kernel
theorem dX9_isForbidden_123 : decode cX9_isForbidden 123 = .ok (.sipush 160, 3) := by decide +kernel
theorem dX9_isForbidden_126 : decode cX9_isForbidden 126 = .ok (.aload_n 0, 1) := by decide +kernel
theorem dX9_isForbidden_127 : decode cX9_isForbidden 127 = .ok (.getfield 49, 3) := by decide +kernel
theorem dX9_isForbidden_130 : decode cX9_isForbidden 130 = .ok (.iload_n 1, 1) := by decide +kernel
theorem dX9_isForbidden_131 : decode cX9_isForbidden 131 = .ok (.iaload, 1) := by decide +kernel
theorem dX9_isForbidden_132 : decode cX9_isForbidden 132 = .ok (.imul, 1) := by decide +kernel
theorem dX9_isForbidden_133 : decode cX9_isForbidden 133 = .ok (.aload_n 0, 1) := by decide +kernel
theorem dX9_isForbidden_134 : decode cX9_isForbidden 134 = .ok (.getfield 16, 3) := by decide +kernel
theorem dX9_isForbidden_137 : decode cX9_isForbidden 137 = .ok (.aload_n 0, 1) := by decide +kernel
theorem dX9_isForbidden_138 : decode cX9_isForbidden 138 = .ok (.getfield 49, 3) := by decide +kernel
theorem dX9_isForbidden_141 : decode cX9_isForbidden 141 = .ok (.iload_n 1, 1) := by decide +kernel
theorem dX9_isForbidden_142 : decode cX9_isForbidden 142 = .ok (.iaload, 1) := by decide +kernel
theorem dX9_isForbidden_143 : decode cX9_isForbidden 143 = .ok (.iaload, 1) := by decide +kernel
theorem dX9_isForbidden_144 : decode cX9_isForbidden 144 = .ok (.invokevirtual 268, 3) := by decide +kernel
theorem dX9_isForbidden_147 : decode cX9_isForbidden 147 = .ok (.aload_n 0, 1) := by decide +kernel
theorem dX9_isForbidden_148 : decode cX9_isForbidden 148 = .ok (.getfield 236, 3) := by decide +kernel
theorem dX9_isForbidden_151 : decode cX9_isForbidden 151 = .ok (.ifCond .le 7, 3) := by decide +kernel
theorem dX9_isForbidden_154 : decode cX9_isForbidden 154 = .ok (.iconst 1, 1) := by decide +kernel
theorem dX9_isForbidden_155 : decode cX9_isForbidden 155 = .ok (.goto 4, 3) := by decide +kernel
theorem dX9_isForbidden_158 : decode cX9_isForbidden 158 = .ok (.iconst 0, 1) := by decide +kernel
theorem dX9_isForbidden_159 : decode cX9_isForbidden 159 = .ok (.ireturn, 1) := by decide +kernel
theorem dX9_forbidden_0 : decode cX9_forbidden 0 = .ok (.aload_n 0, 1) := by decide +kernel
theorem dX9_forbidden_1 : decode cX9_forbidden 1 = .ok (.iconst 0, 1) := by decide +kernel
theorem dX9_forbidden_2 : decode cX9_forbidden 2 = .ok (.putfield 128, 3) := by decide +kernel
theorem dX9_forbidden_5 : decode cX9_forbidden 5 = .ok (.aload_n 0, 1) := by decide +kernel
theorem dX9_forbidden_6 : decode cX9_forbidden 6 = .ok (.iload_n 1, 1) := by decide +kernel
theorem dX9_forbidden_7 : decode cX9_forbidden 7 = .ok (.invokevirtual 299, 3) := by decide +kernel
theorem dX9_forbidden_10 : decode cX9_forbidden 10 = .ok (.ifCond .eq 22, 3) := by decide +kernel
theorem dX9_forbidden_13 : decode cX9_forbidden 13 = .ok (.iload_n 2, 1) := by decide +kernel
theorem dX9_forbidden_14 : decode cX9_forbidden 14 = .ok (.i2l, 1) := by decide +kernel
theorem dX9_forbidden_15 : decode cX9_forbidden 15 = .ok (.lconst 0, 1) := by decide +kernel
theorem dX9_forbidden_16 : decode cX9_forbidden 16 = .ok (.ldc2_w 309, 3) := by decide +kernel
theorem dX9_forbidden_19 : decode cX9_forbidden 19 = .ok (.invokestatic 261, 3) := by decide +kernel
theorem dX9_forbidden_22 : decode cX9_forbidden 22 = .ok (.ifCond .eq 10, 3) := by decide +kernel
theorem dX9_forbidden_25 : decode cX9_forbidden 25 = .ok (.iload_n 3, 1) := by decide +kernel
theorem dX9_forbidden_26 : decode cX9_forbidden 26 = .ok (.invokestatic 302, 3) := by decide +kernel
theorem dX9_forbidden_29 : decode cX9_forbidden 29 = .ok (.ifCond .ne 7, 3) := by decide +kernel
theorem dX9_forbidden_32 : decode cX9_forbidden 32 = .ok (.iconst (-1), 1) := by decide +kernel
theorem dX9_forbidden_33 : decode cX9_forbidden 33 = .ok (.goto 18, 3) := by decide +kernel
theorem dX9_forbidden_36 : decode cX9_forbidden 36 = .ok (.aload_n 0, 1) := by decide +kernel
theorem dX9_forbidden_37 : decode cX9_forbidden 37 = .ok (.iload_n 1, 1) := by decide +kernel
theorem dX9_forbidden_38 : decode cX9_forbidden 38 = .ok (.iload_n 2, 1) := by decide +kernel
theorem dX9_forbidden_39 : decode cX9_forbidden 39 = .ok (.iload_n 3, 1) := by decide +kernel
theorem dX9_forbidden_40 : decode cX9_forbidden 40 = .ok (.invokevirtual 311, 3) := by decide +kernel
theorem dX9_forbidden_43 : decode cX9_forbidden 43 = .ok (.ifCond .eq 7, 3) := by decide +kernel
theorem dX9_forbidden_46 : decode cX9_forbidden 46 = .ok (.iconst 1, 1) := by decide +kernel
theorem dX9_forbidden_47 : decode cX9_forbidden 47 = .ok (.goto 4, 3) := by decide +kernel
theorem dX9_forbidden_50 : decode cX9_forbidden 50 = .ok (.iconst 0, 1) := by decide +kernel
theorem dX9_forbidden_51 : decode cX9_forbidden 51 = .ok (.ireturn, 1) := by decide +kernel
theorem dX9_hand_0 : decode cX9_hand 0 = .ok (.aload_n 0, 1) := by decide +kernel
theorem dX9_hand_1 : decode cX9_hand 1 = .ok (.iconst 0, 1) := by decide +kernel
theorem dX9_hand_2 : decode cX9_hand 2 = .ok (.putfield 128, 3) := by decide +kernel
theorem dX9_hand_5 : decode cX9_hand 5 = .ok (.iload_n 1, 1) := by decide +kernel
theorem dX9_hand_6 : decode cX9_hand 6 = .ok (.i2l, 1) := by decide +kernel
theorem dX9_hand_7 : decode cX9_hand 7 = .ok (.lconst 1, 1) := by decide +kernel
theorem dX9_hand_8 : decode cX9_hand 8 = .ok (.ldc2_w 315, 3) := by decide +kernel
theorem dX9_hand_11 : decode cX9_hand 11 = .ok (.invokestatic 261, 3) := by decide +kernel
theorem dX9_hand_14 : decode cX9_hand 14 = .ok (.ifCond .ne 5, 3) := by decide +kernel
theorem dX9_hand_17 : decode cX9_hand 17 = .ok (.iconst 0, 1) := by decide +kernel
theorem dX9_hand_18 : decode cX9_hand 18 = .ok (.ireturn, 1) := by decide +kernel
theorem dX9_hand_19 : decode cX9_hand 19 = .ok (.aload_n 0, 1) := by decide +kernel
theorem dX9_hand_20 : decode cX9_hand 20 = .ok (.iload_n 1, 1) := by decide +kernel
theorem dX9_hand_21 : decode cX9_hand 21 = .ok (.putfield 65, 3) := by decide +kernel
theorem dX9_hand_24 : decode cX9_hand 24 = .ok (.iconst 1, 1) := by decide +kernel
theorem dX9_hand_25 : decode cX9_hand 25 = .ok (.ireturn, 1) := by decide +kernel
theorem dX9_layBad_0 : decode cX9_layBad 0 = .ok (.iconst 0, 1) := by decide +kernel
theorem dX9_layBad_1 : decode cX9_layBad 1 = .ok (.istore_n 3, 1) := by decide +kernel
theorem dX9_layBad_2 : decode cX9_layBad 2 = .ok (.iload_n 3, 1) := by decide +kernel
theorem dX9_layBad_3 : decode cX9_layBad 3 = .ok (.sipush 200, 3) := by decide +kernel
theorem dX9_layBad_6 : decode cX9_layBad 6 = .ok (.if_icmp .gt 22, 3) := by decide +kernel
theorem dX9_layBad_9 : decode cX9_layBad 9 = .ok (.aload_n 0, 1) := by decide +kernel
theorem dX9_layBad_10 : decode cX9_layBad 10 = .ok (.getfield 68, 3) := by decide +kernel
theorem dX9_layBad_13 : decode cX9_layBad 13 = .ok (.iload_n 3, 1) := by decide +kernel
theorem dX9_layBad_14 : decode cX9_layBad 14 = .ok (.aload_n 0, 1) := by decide +kernel
theorem dX9_layBad_15 : decode cX9_layBad 15 = .ok (.iload_n 1, 1) := by decide +kernel
theorem dX9_layBad_16 : decode cX9_layBad 16 = .ok (.iload_n 3, 1) := by decide +kernel
theorem dX9_layBad_17 : decode cX9_layBad 17 = .ok (.iload_n 2, 1) := by decide +kernel
theorem dX9_layBad_18 : decode cX9_layBad 18 = .ok (.invokevirtual 311, 3) := by decide +kernel
theorem dX9_layBad_21 : decode cX9_layBad 21 = .ok (.bastore, 1) := by decide +kernel
theorem dX9_layBad_22 : decode cX9_layBad 22 = .ok (.iinc 3 1, 3) := by decide +kernel
theorem dX9_layBad_25 : decode cX9_layBad 25 = .ok (.goto (-23), 3) := by decide +kernel
theorem dX9_layBad_28 : decode cX9_layBad 28 = .ok (.return_, 1) := by decide +kernel
theorem dX9_isPart_0 : decode cX9_isPart 0 = .ok (.iload_n 2, 1) := by decide +kernel
theorem dX9_isPart_1 : decode cX9_isPart 1 = .ok (.iconst 0, 1) := by decide +kernel
theorem dX9_isPart_2 : decode cX9_isPart 2 = .ok (.invokestatic 317, 3) := by decide +kernel
theorem dX9_isPart_5 : decode cX9_isPart 5 = .ok (.ifCond .eq 12, 3) := by decide +kernel
theorem dX9_isPart_8 : decode cX9_isPart 8 = .ok (.aload_n 0, 1) := by decide +kernel
theorem dX9_isPart_9 : decode cX9_isPart 9 = .ok (.getfield 68, 3) := by decide +kernel
theorem dX9_isPart_12 : decode cX9_isPart 12 = .ok (.iload_n 1, 1) := by decide +kernel
theorem dX9_isPart_13 : decode cX9_isPart 13 = .ok (.baload, 1) := by decide +kernel
theorem dX9_isPart_14 : decode cX9_isPart 14 = .ok (.ifCond .ne 7, 3) := by decide +kernel
theorem dX9_isPart_17 : decode cX9_isPart 17 = .ok (.iconst 1, 1) := by decide +kernel
theorem dX9_isPart_18 : decode cX9_isPart 18 = .ok (.goto 4, 3) := by decide +kernel
theorem dX9_isPart_21 : decode cX9_isPart 21 = .ok (.iconst 0, 1) := by decide +kernel
theorem dX9_isPart_22 : decode cX9_isPart 22 = .ok (.ireturn, 1) := by decide +kernel
theorem dX9_isTotal_0 : decode cX9_isTotal 0 = .ok (.iload_n 2, 1) := by decide +kernel
theorem dX9_isTotal_1 : decode cX9_isTotal 1 = .ok (.iconst 1, 1) := by decide +kernel
theorem dX9_isTotal_2 : decode cX9_isTotal 2 = .ok (.invokestatic 317, 3) := by decide +kernel
theorem dX9_isTotal_5 : decode cX9_isTotal 5 = .ok (.ifCond .eq 12, 3) := by decide +kernel
theorem dX9_isTotal_8 : decode cX9_isTotal 8 = .ok (.aload_n 0, 1) := by decide +kernel
theorem dX9_isTotal_9 : decode cX9_isTotal 9 = .ok (.getfield 68, 3) := by decide +kernel
theorem dX9_isTotal_12 : decode cX9_isTotal 12 = .ok (.iload_n 1, 1) := by decide +kernel
theorem dX9_isTotal_13 : decode cX9_isTotal 13 = .ok (.baload, 1) := by decide +kernel
theorem dX9_isTotal_14 : decode cX9_isTotal 14 = .ok (.ifCond .ne 7, 3) := by decide +kernel
theorem dX9_isTotal_17 : decode cX9_isTotal 17 = .ok (.iconst 1, 1) := by decide +kernel
theorem dX9_isTotal_18 : decode cX9_isTotal 18 = .ok (.goto 4, 3) := by decide +kernel
theorem dX9_isTotal_21 : decode cX9_isTotal 21 = .ok (.iconst 0, 1) := by decide +kernel
theorem dX9_isTotal_22 : decode cX9_isTotal 22 = .ok (.ireturn, 1) := by decide +kernel
theorem dX9_isCount_0 : decode cX9_isCount 0 = .ok (.iload_n 2, 1) := by decide +kernel
theorem dX9_isCount_1 : decode cX9_isCount 1 = .ok (.iconst 2, 1) := by decide +kernel
theorem dX9_isCount_2 : decode cX9_isCount 2 = .ok (.invokestatic 317, 3) := by decide +kernel
theorem dX9_isCount_5 : decode cX9_isCount 5 = .ok (.ifCond .eq 12, 3) := by decide +kernel
theorem dX9_isCount_8 : decode cX9_isCount 8 = .ok (.aload_n 0, 1) := by decide +kernel
theorem dX9_isCount_9 : decode cX9_isCount 9 = .ok (.getfield 68, 3) := by decide +kernel
theorem dX9_isCount_12 : decode cX9_isCount 12 = .ok (.iload_n 1, 1) := by decide +kernel
theorem dX9_isCount_13 : decode cX9_isCount 13 = .ok (.baload, 1) := by decide +kernel
theorem dX9_isCount_14 : decode cX9_isCount 14 = .ok (.ifCond .ne 7, 3) := by decide +kernel
theorem dX9_isCount_17 : decode cX9_isCount 17 = .ok (.iconst 1, 1) := by decide +kernel
theorem dX9_isCount_18 : decode cX9_isCount 18 = .ok (.goto 4, 3) := by decide +kernel
theorem dX9_isCount_21 : decode cX9_isCount 21 = .ok (.iconst 0, 1) := by decide +kernel
theorem dX9_isCount_22 : decode cX9_isCount 22 = .ok (.ireturn, 1) := by decide +kernel
theorem dX9_can_0 : decode cX9_can 0 = .ok (.aload_n 0, 1) := by decide +kernel
theorem dX9_can_1 : decode cX9_can 1 = .ok (.getfield 72, 3) := by decide +kernel
theorem dX9_can_4 : decode cX9_can 4 = .ok (.sipush 201, 3) := by decide +kernel
theorem dX9_can_7 : decode cX9_can 7 = .ok (.iload_n 1, 1) := by decide +kernel
theorem dX9_can_8 : decode cX9_can 8 = .ok (.imul, 1) := by decide +kernel
theorem dX9_can_9 : decode cX9_can 9 = .ok (.iload_n 2, 1) := by decide +kernel
theorem dX9_can_10 : decode cX9_can 10 = .ok (.iadd, 1) := by decide +kernel
theorem dX9_can_11 : decode cX9_can 11 = .ok (.baload, 1) := by decide +kernel
theorem dX9_can_12 : decode cX9_can 12 = .ok (.ireturn, 1) := by decide +kernel
theorem dX9_layComes_0 : decode cX9_layComes 0 = .ok (.iconst 0, 1) := by decide +kernel
theorem dX9_layComes_1 : decode cX9_layComes 1 = .ok (.istore_n 2, 1) := by decide +kernel
theorem dX9_layComes_2 : decode cX9_layComes 2 = .ok (.iload_n 2, 1) := by decide +kernel
theorem dX9_layComes_3 : decode cX9_layComes 3 = .ok (.aload_n 0, 1) := by decide +kernel
theorem dX9_layComes_4 : decode cX9_layComes 4 = .ok (.getfield 72, 3) := by decide +kernel
theorem dX9_layComes_7 : decode cX9_layComes 7 = .ok (.arraylength, 1) := by decide +kernel
theorem dX9_layComes_8 : decode cX9_layComes 8 = .ok (.if_icmp .ge 24, 3) := by decide +kernel
