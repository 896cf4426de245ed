theorem dX2_init_0 : decode cX2_init 0 = .ok (.aload_n 0, 1) := by decide +kernel
theorem dX2_init_1 : decode cX2_init 1 = .ok (.invokespecial 3, 3) := by decide +kernel
theorem dX2_init_4 : decode cX2_init 4 = .ok (.aload_n 0, 1) := by decide +kernel
theorem dX2_init_5 : decode cX2_init 5 = .ok (.aload_n 1, 1) := by decide +kernel
theorem dX2_init_6 : decode cX2_init 6 = .ok (.putfield 9, 3) := by decide +kernel
theorem dX2_init_9 : decode cX2_init 9 = .ok (.aload_n 0, 1) := by decide +kernel
theorem dX2_init_10 : decode cX2_init 10 = .ok (.sipush 161, 3) := by decide +kernel
theorem dX2_init_13 : decode cX2_init 13 = .ok (.newarray .int, 2) := by decide +kernel
theorem dX2_init_15 : decode cX2_init 15 = .ok (.putfield 15, 3) := by decide +kernel
theorem dX2_init_18 : decode cX2_init 18 = .ok (.return_, 1) := by decide +kernel
theorem dX2_read_0 : decode cX2_read 0 = .ok (.aload_n 0, 1) := by decide +kernel
theorem dX2_read_1 : decode cX2_read 1 = .ok (.iconst 0, 1) := by decide +kernel
theorem dX2_read_2 : decode cX2_read 2 = .ok (.putfield 19, 3) := by decide +kernel
theorem dX2_read_5 : decode cX2_read 5 = .ok (.aload_n 0, 1) := by decide +kernel
theorem dX2_read_6 : decode cX2_read 6 = .ok (.getfield 9, 3) := by decide +kernel
theorem dX2_read_9 : decode cX2_read 9 = .ok (.invokevirtual 23, 3) := by decide +kernel
theorem dX2_read_12 : decode cX2_read 12 = .ok (.iconst 0, 1) := by decide +kernel
theorem dX2_read_13 : decode cX2_read 13 = .ok (.istore_n 1, 1) := by decide +kernel
theorem dX2_read_14 : decode cX2_read 14 = .ok (.iload_n 1, 1) := by decide +kernel
theorem dX2_read_15 : decode cX2_read 15 = .ok (.sipush 160, 3) := by decide +kernel
theorem dX2_read_18 : decode cX2_read 18 = .ok (.if_icmp .gt 44, 3) := by decide +kernel
theorem dX2_read_21 : decode cX2_read 21 = .ok (.aload_n 0, 1) := by decide +kernel
theorem dX2_read_22 : decode cX2_read 22 = .ok (.invokevirtual 28, 3) := by decide +kernel
theorem dX2_read_25 : decode cX2_read 25 = .ok (.ifCond .ne 5, 3) := by decide +kernel
theorem dX2_read_28 : decode cX2_read 28 = .ok (.iconst 0, 1) := by decide +kernel
theorem dX2_read_29 : decode cX2_read 29 = .ok (.ireturn, 1) := by decide +kernel
theorem dX2_read_30 : decode cX2_read 30 = .ok (.aload_n 0, 1) := by decide +kernel
theorem dX2_read_31 : decode cX2_read 31 = .ok (.getfield 9, 3) := by decide +kernel
theorem dX2_read_34 : decode cX2_read 34 = .ok (.invokevirtual 32, 3) := by decide +kernel
theorem dX2_read_37 : decode cX2_read 37 = .ok (.ifCond .eq 5, 3) := by decide +kernel
theorem dX2_read_40 : decode cX2_read 40 = .ok (.iconst 1, 1) := by decide +kernel
theorem dX2_read_41 : decode cX2_read 41 = .ok (.ireturn, 1) := by decide +kernel
theorem dX2_read_42 : decode cX2_read 42 = .ok (.aload_n 0, 1) := by decide +kernel
theorem dX2_read_43 : decode cX2_read 43 = .ok (.getfield 9, 3) := by decide +kernel
theorem dX2_read_46 : decode cX2_read 46 = .ok (.bipush 59, 2) := by decide +kernel
theorem dX2_read_48 : decode cX2_read 48 = .ok (.invokevirtual 35, 3) := by decide +kernel
theorem dX2_read_51 : decode cX2_read 51 = .ok (.ifCond .ne 5, 3) := by decide +kernel
theorem dX2_read_54 : decode cX2_read 54 = .ok (.iconst 0, 1) := by decide +kernel
theorem dX2_read_55 : decode cX2_read 55 = .ok (.ireturn, 1) := by decide +kernel
theorem dX2_read_56 : decode cX2_read 56 = .ok (.iinc 1 1, 3) := by decide +kernel
theorem dX2_read_59 : decode cX2_read 59 = .ok (.goto (-45), 3) := by decide +kernel
theorem dX2_read_62 : decode cX2_read 62 = .ok (.iconst 0, 1) := by decide +kernel
theorem dX2_read_63 : decode cX2_read 63 = .ok (.ireturn, 1) := by decide +kernel
theorem dX2_compiled_0 : decode cX2_compiled 0 = .ok (.new 39, 3) := by decide +kernel
theorem dX2_compiled_3 : decode cX2_compiled 3 = .ok (.dup, 1) := by decide +kernel
theorem dX2_compiled_4 : decode cX2_compiled 4 = .ok (.aload_n 0, 1) := by decide +kernel
theorem dX2_compiled_5 : decode cX2_compiled 5 = .ok (.getfield 15, 3) := by decide +kernel
theorem dX2_compiled_8 : decode cX2_compiled 8 = .ok (.aload_n 0, 1) := by decide +kernel
theorem dX2_compiled_9 : decode cX2_compiled 9 = .ok (.getfield 19, 3) := by decide +kernel
theorem dX2_compiled_12 : decode cX2_compiled 12 = .ok (.invokespecial 41, 3) := by decide +kernel
theorem dX2_compiled_15 : decode cX2_compiled 15 = .ok (.areturn, 1) := by decide +kernel
theorem dX2_clause_0 : decode cX2_clause 0 = .ok (.aload_n 0, 1) := by decide +kernel
theorem dX2_clause_1 : decode cX2_clause 1 = .ok (.getfield 9, 3) := by decide +kernel
theorem dX2_clause_4 : decode cX2_clause 4 = .ok (.bipush 121, 2) := by decide +kernel
theorem dX2_clause_6 : decode cX2_clause 6 = .ok (.invokevirtual 35, 3) := by decide +kernel
theorem dX2_clause_9 : decode cX2_clause 9 = .ok (.ifCond .eq 15, 3) := by decide +kernel
theorem dX2_clause_12 : decode cX2_clause 12 = .ok (.aload_n 0, 1) := by decide +kernel
theorem dX2_clause_13 : decode cX2_clause 13 = .ok (.getfield 9, 3) := by decide +kernel
theorem dX2_clause_16 : decode cX2_clause 16 = .ok (.bipush 58, 2) := by decide +kernel
theorem dX2_clause_18 : decode cX2_clause 18 = .ok (.invokevirtual 35, 3) := by decide +kernel
theorem dX2_clause_21 : decode cX2_clause 21 = .ok (.ifCond .ne 5, 3) := by decide +kernel
theorem dX2_clause_24 : decode cX2_clause 24 = .ok (.iconst 0, 1) := by decide +kernel
theorem dX2_clause_25 : decode cX2_clause 25 = .ok (.ireturn, 1) := by decide +kernel
theorem dX2_clause_26 : decode cX2_clause 26 = .ok (.aload_n 0, 1) := by decide +kernel
theorem dX2_clause_27 : decode cX2_clause 27 = .ok (.getfield 9, 3) := by decide +kernel
theorem dX2_clause_30 : decode cX2_clause 30 = .ok (.invokevirtual 44, 3) := by decide +kernel
theorem dX2_clause_33 : decode cX2_clause 33 = .ok (.bipush 33, 2) := by decide +kernel
theorem dX2_clause_35 : decode cX2_clause 35 = .ok (.if_icmp .eq 15, 3) := by decide +kernel
theorem dX2_clause_38 : decode cX2_clause 38 = .ok (.aload_n 0, 1) := by decide +kernel
theorem dX2_clause_39 : decode cX2_clause 39 = .ok (.getfield 9, 3) := by decide +kernel
theorem dX2_clause_42 : decode cX2_clause 42 = .ok (.invokevirtual 44, 3) := by decide +kernel
theorem dX2_clause_45 : decode cX2_clause 45 = .ok (.bipush 40, 2) := by decide +kernel
theorem dX2_clause_47 : decode cX2_clause 47 = .ok (.if_icmp .ne 24, 3) := by decide +kernel
theorem dX2_clause_50 : decode cX2_clause 50 = .ok (.aload_n 0, 1) := by decide +kernel
theorem dX2_clause_51 : decode cX2_clause 51 = .ok (.iconst 0, 1) := by decide +kernel
theorem dX2_clause_52 : decode cX2_clause 52 = .ok (.invokevirtual 48, 3) := by decide +kernel
theorem dX2_clause_55 : decode cX2_clause 55 = .ok (.ifCond .eq 14, 3) := by decide +kernel
theorem dX2_clause_58 : decode cX2_clause 58 = .ok (.aload_n 0, 1) := by decide +kernel
theorem dX2_clause_59 : decode cX2_clause 59 = .ok (.invokevirtual 51, 3) := by decide +kernel
theorem dX2_clause_62 : decode cX2_clause 62 = .ok (.ifCond .eq 7, 3) := by decide +kernel
theorem dX2_clause_65 : decode cX2_clause 65 = .ok (.iconst 1, 1) := by decide +kernel
theorem dX2_clause_66 : decode cX2_clause 66 = .ok (.goto 4, 3) := by decide +kernel
theorem dX2_clause_69 : decode cX2_clause 69 = .ok (.iconst 0, 1) := by decide +kernel
theorem dX2_clause_70 : decode cX2_clause 70 = .ok (.ireturn, 1) := by decide +kernel
theorem dX2_clause_71 : decode cX2_clause 71 = .ok (.aload_n 0, 1) := by decide +kernel
theorem dX2_clause_72 : decode cX2_clause 72 = .ok (.iconst 0, 1) := by decide +kernel
theorem dX2_clause_73 : decode cX2_clause 73 = .ok (.invokevirtual 54, 3) := by decide +kernel
theorem dX2_clause_76 : decode cX2_clause 76 = .ok (.ifCond .ne 5, 3) := by decide +kernel
theorem dX2_clause_79 : decode cX2_clause 79 = .ok (.iconst 0, 1) := by decide +kernel
theorem dX2_clause_80 : decode cX2_clause 80 = .ok (.ireturn, 1) := by decide +kernel
theorem dX2_clause_81 : decode cX2_clause 81 = .ok (.aload_n 0, 1) := by decide +kernel
theorem dX2_clause_82 : decode cX2_clause 82 = .ok (.invokevirtual 57, 3) := by decide +kernel
theorem dX2_clause_85 : decode cX2_clause 85 = .ok (.istore_n 1, 1) := by decide +kernel
theorem dX2_clause_86 : decode cX2_clause 86 = .ok (.iload_n 1, 1) := by decide +kernel
theorem dX2_clause_87 : decode cX2_clause 87 = .ok (.iconst (-1), 1) := by decide +kernel
theorem dX2_clause_88 : decode cX2_clause 88 = .ok (.if_icmp .ne 11, 3) := by decide +kernel
theorem dX2_clause_91 : decode cX2_clause 91 = .ok (.aload_n 0, 1) := by decide +kernel
theorem dX2_clause_92 : decode cX2_clause 92 = .ok (.bipush (-59), 2) := by decide +kernel
theorem dX2_clause_94 : decode cX2_clause 94 = .ok (.invokevirtual 60, 3) := by decide +kernel
theorem dX2_clause_97 : decode cX2_clause 97 = .ok (.iconst 1, 1) := by decide +kernel
theorem dX2_clause_98 : decode cX2_clause 98 = .ok (.ireturn, 1) := by decide +kernel
theorem dX2_clause_99 : decode cX2_clause 99 = .ok (.aload_n 0, 1) := by decide +kernel
theorem dX2_clause_100 : decode cX2_clause 100 = .ok (.iconst 0, 1) := by decide +kernel
theorem dX2_clause_101 : decode cX2_clause 101 = .ok (.invokevirtual 54, 3) := by decide +kernel
theorem dX2_clause_104 : decode cX2_clause 104 = .ok (.ifCond .ne 5, 3) := by decide +kernel
theorem dX2_clause_107 : decode cX2_clause 107 = .ok (.iconst 0, 1) := by decide +kernel
theorem dX2_clause_108 : decode cX2_clause 108 = .ok (.ireturn, 1) := by decide +kernel
theorem dX2_clause_109 : decode cX2_clause 109 = .ok (.aload_n 0, 1) := by decide +kernel
theorem dX2_clause_110 : decode cX2_clause 110 = .ok (.iload_n 1, 1) := by decide +kernel
theorem dX2_clause_111 : decode cX2_clause 111 = .ok (.ineg, 1) := by decide +kernel
theorem dX2_clause_112 : decode cX2_clause 112 = .ok (.invokevirtual 60, 3) := by decide +kernel
theorem dX2_clause_115 : decode cX2_clause 115 = .ok (.aload_n 0, 1) := by decide +kernel
theorem dX2_clause_116 : decode cX2_clause 116 = .ok (.iconst 0, 1) := by decide +kernel
theorem dX2_clause_117 : decode cX2_clause 117 = .ok (.invokevirtual 64, 3) := by decide +kernel
theorem dX2_clause_120 : decode cX2_clause 120 = .ok (.ifCond .eq 14, 3) := by decide +kernel
theorem dX2_clause_123 : decode cX2_clause 123 = .ok (.aload_n 0, 1) := by decide +kernel
theorem dX2_clause_124 : decode cX2_clause 124 = .ok (.invokevirtual 51, 3) := by decide +kernel
theorem dX2_clause_127 : decode cX2_clause 127 = .ok (.ifCond .eq 7, 3) := by decide +kernel
theorem dX2_clause_130 : decode cX2_clause 130 = .ok (.iconst 1, 1) := by decide +kernel
theorem dX2_clause_131 : decode cX2_clause 131 = .ok (.goto 4, 3) := by decide +kernel
theorem dX2_clause_134 : decode cX2_clause 134 = .ok (.iconst 0, 1) := by decide +kernel
theorem dX2_clause_135 : decode cX2_clause 135 = .ok (.ireturn, 1) := by decide +kernel
theorem dX2_answer_0 : decode cX2_answer 0 = .ok (.aload_n 0, 1) := by decide +kernel
theorem dX2_answer_1 : decode cX2_answer 1 = .ok (.getfield 9, 3) := by decide +kernel
theorem dX2_answer_4 : decode cX2_answer 4 = .ok (.bipush 63, 2) := by decide +kernel
theorem dX2_answer_6 : decode cX2_answer 6 = .ok (.invokevirtual 35, 3) := by decide +kernel
theorem dX2_answer_9 : decode cX2_answer 9 = .ok (.ifCond .ne 5, 3) := by decide +kernel
theorem dX2_answer_12 : decode cX2_answer 12 = .ok (.iconst 0, 1) := by decide +kernel
theorem dX2_answer_13 : decode cX2_answer 13 = .ok (.ireturn, 1) := by decide +kernel
theorem dX2_answer_14 : decode cX2_answer 14 = .ok (.aload_n 0, 1) := by decide +kernel
theorem dX2_answer_15 : decode cX2_answer 15 = .ok (.bipush (-63), 2) := by decide +kernel
theorem dX2_answer_17 : decode cX2_answer 17 = .ok (.invokevirtual 60, 3) := by decide +kernel
theorem dX2_answer_20 : decode cX2_answer 20 = .ok (.aload_n 0, 1) := by decide +kernel
theorem dX2_answer_21 : decode cX2_answer 21 = .ok (.iconst 0, 1) := by decide +kernel
theorem dX2_answer_22 : decode cX2_answer 22 = .ok (.invokevirtual 54, 3) := by decide +kernel
theorem dX2_answer_25 : decode cX2_answer 25 = .ok (.ifCond .ne 5, 3) := by decide +kernel
theorem dX2_answer_28 : decode cX2_answer 28 = .ok (.iconst 0, 1) := by decide +kernel
theorem dX2_answer_29 : decode cX2_answer 29 = .ok (.ireturn, 1) := by decide +kernel
theorem dX2_answer_30 : decode cX2_answer 30 = .ok (.aload_n 0, 1) := by decide +kernel
theorem dX2_answer_31 : decode cX2_answer 31 = .ok (.bipush (-59), 2) := by decide +kernel
theorem dX2_answer_33 : decode cX2_answer 33 = .ok (.invokevirtual 60, 3) := by decide +kernel
theorem dX2_answer_36 : decode cX2_answer 36 = .ok (.iconst 1, 1) := by decide +kernel
theorem dX2_answer_37 : decode cX2_answer 37 = .ok (.ireturn, 1) := by decide +kernel
theorem dX2_condition_0 : decode cX2_condition 0 = .ok (.aload_n 0, 1) := by decide +kernel
theorem dX2_condition_1 : decode cX2_condition 1 = .ok (.iload_n 1, 1) := by decide +kernel
theorem dX2_condition_2 : decode cX2_condition 2 = .ok (.invokevirtual 67, 3) := by decide +kernel
theorem dX2_condition_5 : decode cX2_condition 5 = .ok (.ifCond .eq 15, 3) := by decide +kernel
theorem dX2_condition_8 : decode cX2_condition 8 = .ok (.aload_n 0, 1) := by decide +kernel
theorem dX2_condition_9 : decode cX2_condition 9 = .ok (.iload_n 1, 1) := by decide +kernel
theorem dX2_condition_10 : decode cX2_condition 10 = .ok (.invokevirtual 64, 3) := by decide +kernel
theorem dX2_condition_13 : decode cX2_condition 13 = .ok (.ifCond .eq 7, 3) := by decide +kernel
theorem dX2_condition_16 : decode cX2_condition 16 = .ok (.iconst 1, 1) := by decide +kernel
theorem dX2_condition_17 : decode cX2_condition 17 = .ok (.goto 4, 3) := by decide +kernel
theorem dX2_condition_20 : decode cX2_condition 20 = .ok (.iconst 0, 1) := by decide +kernel
theorem dX2_condition_21 : decode cX2_condition 21 = .ok (.ireturn, 1) := by decide +kernel
theorem dX2_moreTruths_0 : decode cX2_moreTruths 0 = .ok (.aload_n 0, 1) := by decide +kernel
theorem dX2_moreTruths_1 : decode cX2_moreTruths 1 = .ok (.iload_n 1, 1) := by decide +kernel
theorem dX2_moreTruths_2 : decode cX2_moreTruths 2 = .ok (.invokevirtual 70, 3) := by decide +kernel
theorem dX2_moreTruths_5 : decode cX2_moreTruths 5 = .ok (.ifCond .ne 5, 3) := by decide +kernel
theorem dX2_moreTruths_8 : decode cX2_moreTruths 8 = .ok (.iconst 0, 1) := by decide +kernel
theorem dX2_moreTruths_9 : decode cX2_moreTruths 9 = .ok (.ireturn, 1) := by decide +kernel
theorem dX2_moreTruths_10 : decode cX2_moreTruths 10 = .ok (.iconst 0, 1) := by decide +kernel
theorem dX2_moreTruths_11 : decode cX2_moreTruths 11 = .ok (.istore_n 2, 1) := by decide +kernel
theorem dX2_moreTruths_12 : decode cX2_moreTruths 12 = .ok (.iload_n 2, 1) := by decide +kernel
theorem dX2_moreTruths_13 : decode cX2_moreTruths 13 = .ok (.sipush 160, 3) := by decide +kernel
theorem dX2_moreTruths_16 : decode cX2_moreTruths 16 = .ok (.if_icmp .ge 45, 3) := by decide +kernel
theorem dX2_moreTruths_19 : decode cX2_moreTruths 19 = .ok (.aload_n 0, 1) := by decide +kernel
theorem dX2_moreTruths_20 : decode cX2_moreTruths 20 = .ok (.getfield 9, 3) := by decide +kernel
theorem dX2_moreTruths_23 : decode cX2_moreTruths 23 = .ok (.bipush 124, 2) := by decide +kernel
theorem dX2_moreTruths_25 : decode cX2_moreTruths 25 = .ok (.invokevirtual 35, 3) := by decide +kernel
theorem dX2_moreTruths_28 : decode cX2_moreTruths 28 = .ok (.ifCond .eq 33, 3) := by decide +kernel
theorem dX2_moreTruths_31 : decode cX2_moreTruths 31 = .ok (.aload_n 0, 1) := by decide +kernel
theorem dX2_moreTruths_32 : decode cX2_moreTruths 32 = .ok (.iload_n 1, 1) := by decide +kernel
theorem dX2_moreTruths_33 : decode cX2_moreTruths 33 = .ok (.invokevirtual 67, 3) := by decide +kernel
theorem dX2_moreTruths_36 : decode cX2_moreTruths 36 = .ok (.ifCond .eq 11, 3) := by decide +kernel
theorem dX2_moreTruths_39 : decode cX2_moreTruths 39 = .ok (.aload_n 0, 1) := by decide +kernel
theorem dX2_moreTruths_40 : decode cX2_moreTruths 40 = .ok (.iload_n 1, 1) := by decide +kernel
theorem dX2_moreTruths_41 : decode cX2_moreTruths 41 = .ok (.invokevirtual 70, 3) := by decide +kernel
theorem dX2_moreTruths_44 : decode cX2_moreTruths 44 = .ok (.ifCond .ne 5, 3) := by decide +kernel
theorem dX2_moreTruths_47 : decode cX2_moreTruths 47 = .ok (.iconst 0, 1) := by decide +kernel
theorem dX2_moreTruths_48 : decode cX2_moreTruths 48 = .ok (.ireturn, 1) := by decide +kernel
theorem dX2_moreTruths_49 : decode cX2_moreTruths 49 = .ok (.aload_n 0, 1) := by decide +kernel
theorem dX2_moreTruths_50 : decode cX2_moreTruths 50 = .ok (.bipush (-124), 2) := by decide +kernel
theorem dX2_moreTruths_52 : decode cX2_moreTruths 52 = .ok (.invokevirtual 60, 3) := by decide +kernel
theorem dX2_moreTruths_55 : decode cX2_moreTruths 55 = .ok (.iinc 2 1, 3) := by decide +kernel
theorem dX2_moreTruths_58 : decode cX2_moreTruths 58 = .ok (.goto (-46), 3) := by decide +kernel
theorem dX2_moreTruths_61 : decode cX2_moreTruths 61 = .ok (.iconst 1, 1) := by decide +kernel
theorem dX2_moreTruths_62 : decode cX2_moreTruths 62 = .ok (.ireturn, 1) := by decide +kernel
theorem dX2_moreUnits_0 : decode cX2_moreUnits 0 = .ok (.iconst 0, 1) := by decide +kernel
theorem dX2_moreUnits_1 : decode cX2_moreUnits 1 = .ok (.istore_n 2, 1) := by decide +kernel
theorem dX2_moreUnits_2 : decode cX2_moreUnits 2 = .ok (.iload_n 2, 1) := by decide +kernel
theorem dX2_moreUnits_3 : decode cX2_moreUnits 3 = .ok (.sipush 160, 3) := by decide +kernel
theorem dX2_moreUnits_6 : decode cX2_moreUnits 6 = .ok (.if_icmp .ge 37, 3) := by decide +kernel
theorem dX2_moreUnits_9 : decode cX2_moreUnits 9 = .ok (.aload_n 0, 1) := by decide +kernel
theorem dX2_moreUnits_10 : decode cX2_moreUnits 10 = .ok (.getfield 9, 3) := by decide +kernel
theorem dX2_moreUnits_13 : decode cX2_moreUnits 13 = .ok (.bipush 38, 2) := by decide +kernel
theorem dX2_moreUnits_15 : decode cX2_moreUnits 15 = .ok (.invokevirtual 35, 3) := by decide +kernel
theorem dX2_moreUnits_18 : decode cX2_moreUnits 18 = .ok (.ifCond .eq 25, 3) := by decide +kernel
theorem dX2_moreUnits_21 : decode cX2_moreUnits 21 = .ok (.aload_n 0, 1) := by decide +kernel
theorem dX2_moreUnits_22 : decode cX2_moreUnits 22 = .ok (.iload_n 1, 1) := by decide +kernel
theorem dX2_moreUnits_23 : decode cX2_moreUnits 23 = .ok (.invokevirtual 67, 3) := by decide +kernel
theorem dX2_moreUnits_26 : decode cX2_moreUnits 26 = .ok (.ifCond .ne 5, 3) := by decide +kernel
theorem dX2_moreUnits_29 : decode cX2_moreUnits 29 = .ok (.iconst 0, 1) := by decide +kernel
theorem dX2_moreUnits_30 : decode cX2_moreUnits 30 = .ok (.ireturn, 1) := by decide +kernel
theorem dX2_moreUnits_31 : decode cX2_moreUnits 31 = .ok (.aload_n 0, 1) := by decide +kernel
theorem dX2_moreUnits_32 : decode cX2_moreUnits 32 = .ok (.bipush (-38), 2) := by decide +kernel
theorem dX2_moreUnits_34 : decode cX2_moreUnits 34 = .ok (.invokevirtual 60, 3) := by decide +kernel
theorem dX2_moreUnits_37 : decode cX2_moreUnits 37 = .ok (.iinc 2 1, 3) := by decide +kernel
theorem dX2_moreUnits_40 : decode cX2_moreUnits 40 = .ok (.goto (-38), 3) := by decide +kernel
theorem dX2_moreUnits_43 : decode cX2_moreUnits 43 = .ok (.iconst 1, 1) := by decide +kernel
theorem dX2_moreUnits_44 : decode cX2_moreUnits 44 = .ok (.ireturn, 1) := by decide +kernel
theorem dX2_unit_0 : decode cX2_unit 0 = .ok (.aload_n 0, 1) := by decide +kernel
theorem dX2_unit_1 : decode cX2_unit 1 = .ok (.getfield 9, 3) := by decide +kernel
theorem dX2_unit_4 : decode cX2_unit 4 = .ok (.invokevirtual 44, 3) := by decide +kernel
theorem dX2_unit_7 : decode cX2_unit 7 = .ok (.istore_n 2, 1) := by decide +kernel
theorem dX2_unit_8 : decode cX2_unit 8 = .ok (.iload_n 2, 1) := by decide +kernel
theorem dX2_unit_9 : decode cX2_unit 9 = .ok (.bipush 33, 2) := by decide +kernel
theorem dX2_unit_11 : decode cX2_unit 11 = .ok (.if_icmp .eq 47, 3) := by decide +kernel
theorem dX2_unit_14 : decode cX2_unit 14 = .ok (.iload_n 2, 1) := by decide +kernel
theorem dX2_unit_15 : decode cX2_unit 15 = .ok (.bipush 40, 2) := by decide +kernel
theorem dX2_unit_17 : decode cX2_unit 17 = .ok (.if_icmp .eq 41, 3) := by decide +kernel
theorem dX2_unit_20 : decode cX2_unit 20 = .ok (.aload_n 0, 1) := by decide +kernel
theorem dX2_unit_21 : decode cX2_unit 21 = .ok (.iload_n 1, 1) := by decide +kernel
theorem dX2_unit_22 : decode cX2_unit 22 = .ok (.invokevirtual 54, 3) := by decide +kernel
theorem dX2_unit_25 : decode cX2_unit 25 = .ok (.ifCond .ne 5, 3) := by decide +kernel
theorem dX2_unit_28 : decode cX2_unit 28 = .ok (.iconst 0, 1) := by decide +kernel
theorem dX2_unit_29 : decode cX2_unit 29 = .ok (.ireturn, 1) := by decide +kernel
theorem dX2_unit_30 : decode cX2_unit 30 = .ok (.aload_n 0, 1) := by decide +kernel
theorem dX2_unit_31 : decode cX2_unit 31 = .ok (.invokevirtual 57, 3) := by decide +kernel
theorem dX2_unit_34 : decode cX2_unit 34 = .ok (.istore_n 3, 1) := by decide +kernel
theorem dX2_unit_35 : decode cX2_unit 35 = .ok (.iload_n 3, 1) := by decide +kernel
theorem dX2_unit_36 : decode cX2_unit 36 = .ok (.iconst (-1), 1) := by decide +kernel
theorem dX2_unit_37 : decode cX2_unit 37 = .ok (.if_icmp .eq 11, 3) := by decide +kernel
theorem dX2_unit_40 : decode cX2_unit 40 = .ok (.aload_n 0, 1) := by decide +kernel
theorem dX2_unit_41 : decode cX2_unit 41 = .ok (.iload_n 1, 1) := by decide +kernel
theorem dX2_unit_42 : decode cX2_unit 42 = .ok (.invokevirtual 54, 3) := by decide +kernel
theorem dX2_unit_45 : decode cX2_unit 45 = .ok (.ifCond .ne 5, 3) := by decide +kernel
theorem dX2_unit_48 : decode cX2_unit 48 = .ok (.iconst 0, 1) := by decide +kernel
theorem dX2_unit_49 : decode cX2_unit 49 = .ok (.ireturn, 1) := by decide +kernel
theorem dX2_unit_50 : decode cX2_unit 50 = .ok (.aload_n 0, 1) := by decide +kernel
theorem dX2_unit_51 : decode cX2_unit 51 = .ok (.iload_n 3, 1) := by decide +kernel
theorem dX2_unit_52 : decode cX2_unit 52 = .ok (.ineg, 1) := by decide +kernel
theorem dX2_unit_53 : decode cX2_unit 53 = .ok (.invokevirtual 60, 3) := by decide +kernel
theorem dX2_unit_56 : decode cX2_unit 56 = .ok (.iconst 1, 1) := by decide +kernel
theorem dX2_unit_57 : decode cX2_unit 57 = .ok (.ireturn, 1) := by decide +kernel
theorem dX2_unit_58 : decode cX2_unit 58 = .ok (.iload_n 1, 1) := by decide +kernel
theorem dX2_unit_59 : decode cX2_unit 59 = .ok (.bipush 6, 2) := by decide +kernel
theorem dX2_unit_61 : decode cX2_unit 61 = .ok (.if_icmp .ge 14, 3) := by decide +kernel
theorem dX2_unit_64 : decode cX2_unit 64 = .ok (.aload_n 0, 1) := by decide +kernel
theorem dX2_unit_65 : decode cX2_unit 65 = .ok (.getfield 9, 3) := by decide +kernel
theorem dX2_unit_68 : decode cX2_unit 68 = .ok (.iload_n 2, 1) := by decide +kernel
theorem dX2_unit_69 : decode cX2_unit 69 = .ok (.invokevirtual 35, 3) := by decide +kernel
theorem dX2_unit_72 : decode cX2_unit 72 = .ok (.ifCond .ne 5, 3) := by decide +kernel
theorem dX2_unit_75 : decode cX2_unit 75 = .ok (.iconst 0, 1) := by decide +kernel
theorem dX2_unit_76 : decode cX2_unit 76 = .ok (.ireturn, 1) := by decide +kernel
theorem dX2_unit_77 : decode cX2_unit 77 = .ok (.iload_n 2, 1) := by decide +kernel
theorem dX2_unit_78 : decode cX2_unit 78 = .ok (.bipush 40, 2) := by decide +kernel
theorem dX2_unit_80 : decode cX2_unit 80 = .ok (.if_icmp .ne 31, 3) := by decide +kernel
theorem dX2_unit_83 : decode cX2_unit 83 = .ok (.aload_n 0, 1) := by decide +kernel
theorem dX2_unit_84 : decode cX2_unit 84 = .ok (.iload_n 1, 1) := by decide +kernel
theorem dX2_unit_85 : decode cX2_unit 85 = .ok (.iconst 1, 1) := by decide +kernel
theorem dX2_unit_86 : decode cX2_unit 86 = .ok (.iadd, 1) := by decide +kernel
theorem dX2_unit_87 : decode cX2_unit 87 = .ok (.invokevirtual 48, 3) := by decide +kernel
theorem dX2_unit_90 : decode cX2_unit 90 = .ok (.ifCond .eq 19, 3) := by decide +kernel
theorem dX2_unit_93 : decode cX2_unit 93 = .ok (.aload_n 0, 1) := by decide +kernel
theorem dX2_unit_94 : decode cX2_unit 94 = .ok (.getfield 9, 3) := by decide +kernel
theorem dX2_unit_97 : decode cX2_unit 97 = .ok (.bipush 41, 2) := by decide +kernel
theorem dX2_unit_99 : decode cX2_unit 99 = .ok (.invokevirtual 35, 3) := by decide +kernel
theorem dX2_unit_102 : decode cX2_unit 102 = .ok (.ifCond .eq 7, 3) := by decide +kernel
theorem dX2_unit_105 : decode cX2_unit 105 = .ok (.iconst 1, 1) := by decide +kernel
theorem dX2_unit_106 : decode cX2_unit 106 = .ok (.goto 4, 3) := by decide +kernel
theorem dX2_unit_109 : decode cX2_unit 109 = .ok (.iconst 0, 1) := by decide +kernel
theorem dX2_unit_110 : decode cX2_unit 110 = .ok (.ireturn, 1) := by decide +kernel
theorem dX2_unit_111 : decode cX2_unit 111 = .ok (.aload_n 0, 1) := by decide +kernel
theorem dX2_unit_112 : decode cX2_unit 112 = .ok (.iload_n 1, 1) := by decide +kernel
theorem dX2_unit_113 : decode cX2_unit 113 = .ok (.iconst 1, 1) := by decide +kernel
theorem dX2_unit_114 : decode cX2_unit 114 = .ok (.iadd, 1) := by decide +kernel
theorem dX2_unit_115 : decode cX2_unit 115 = .ok (.invokevirtual 67, 3) := by decide +kernel
theorem dX2_unit_118 : decode cX2_unit 118 = .ok (.ifCond .ne 5, 3) := by decide +kernel
theorem dX2_unit_121 : decode cX2_unit 121 = .ok (.iconst 0, 1) := by decide +kernel
theorem dX2_unit_122 : decode cX2_unit 122 = .ok (.ireturn, 1) := by decide +kernel
theorem dX2_unit_123 : decode cX2_unit 123 = .ok (.aload_n 0, 1) := by decide +kernel
theorem dX2_unit_124 : decode cX2_unit 124 = .ok (.bipush (-33), 2) := by decide +kernel
theorem dX2_unit_126 : decode cX2_unit 126 = .ok (.invokevirtual 60, 3) := by decide +kernel
theorem dX2_unit_129 : decode cX2_unit 129 = .ok (.iconst 1, 1) := by decide +kernel
theorem dX2_unit_130 : decode cX2_unit 130 = .ok (.ireturn, 1) := by decide +kernel
theorem dX2_comparison_0 : decode cX2_comparison 0 = .ok (.aload_n 0, 1) := by decide +kernel
theorem dX2_comparison_1 : decode cX2_comparison 1 = .ok (.getfield 9, 3) := by decide +kernel
theorem dX2_comparison_4 : decode cX2_comparison 4 = .ok (.invokevirtual 44, 3) := by decide +kernel
theorem dX2_comparison_7 : decode cX2_comparison 7 = .ok (.istore_n 1, 1) := by decide +kernel
theorem dX2_comparison_8 : decode cX2_comparison 8 = .ok (.iload_n 1, 1) := by decide +kernel
theorem dX2_comparison_9 : decode cX2_comparison 9 = .ok (.bipush 61, 2) := by decide +kernel
theorem dX2_comparison_11 : decode cX2_comparison 11 = .ok (.if_icmp .eq 15, 3) := by decide +kernel
theorem dX2_comparison_14 : decode cX2_comparison 14 = .ok (.iload_n 1, 1) := by decide +kernel
theorem dX2_comparison_15 : decode cX2_comparison 15 = .ok (.bipush 60, 2) := by decide +kernel
theorem dX2_comparison_17 : decode cX2_comparison 17 = .ok (.if_icmp .eq 9, 3) := by decide +kernel
theorem dX2_comparison_20 : decode cX2_comparison 20 = .ok (.iload_n 1, 1) := by decide +kernel
theorem dX2_comparison_21 : decode cX2_comparison 21 = .ok (.bipush 62, 2) := by decide +kernel
theorem dX2_comparison_23 : decode cX2_comparison 23 = .ok (.if_icmp .ne 7, 3) := by decide +kernel
theorem dX2_comparison_26 : decode cX2_comparison 26 = .ok (.iconst 1, 1) := by decide +kernel
theorem dX2_comparison_27 : decode cX2_comparison 27 = .ok (.goto 4, 3) := by decide +kernel
theorem dX2_comparison_30 : decode cX2_comparison 30 = .ok (.iconst 0, 1) := by decide +kernel
theorem dX2_comparison_31 : decode cX2_comparison 31 = .ok (.istore_n 2, 1) := by decide +kernel
theorem dX2_comparison_32 : decode cX2_comparison 32 = .ok (.iload_n 2, 1) := by decide +kernel
theorem dX2_comparison_33 : decode cX2_comparison 33 = .ok (.ifCond .eq 18, 3) := by decide +kernel
theorem dX2_comparison_36 : decode cX2_comparison 36 = .ok (.aload_n 0, 1) := by decide +kernel
theorem dX2_comparison_37 : decode cX2_comparison 37 = .ok (.getfield 9, 3) := by decide +kernel
theorem dX2_comparison_40 : decode cX2_comparison 40 = .ok (.iload_n 1, 1) := by decide +kernel
theorem dX2_comparison_41 : decode cX2_comparison 41 = .ok (.invokevirtual 35, 3) := by decide +kernel
theorem dX2_comparison_44 : decode cX2_comparison 44 = .ok (.ifCond .eq 7, 3) := by decide +kernel
theorem dX2_comparison_47 : decode cX2_comparison 47 = .ok (.iload_n 1, 1) := by decide +kernel
theorem dX2_comparison_48 : decode cX2_comparison 48 = .ok (.goto 4, 3) := by decide +kernel
theorem dX2_comparison_51 : decode cX2_comparison 51 = .ok (.iconst (-1), 1) := by decide +kernel
theorem dX2_comparison_52 : decode cX2_comparison 52 = .ok (.ireturn, 1) := by decide +kernel
theorem dX2_sum_0 : decode cX2_sum 0 = .ok (.aload_n 0, 1) := by decide +kernel
theorem dX2_sum_1 : decode cX2_sum 1 = .ok (.iload_n 1, 1) := by decide +kernel
theorem dX2_sum_2 : decode cX2_sum 2 = .ok (.invokevirtual 73, 3) := by decide +kernel
theorem dX2_sum_5 : decode cX2_sum 5 = .ok (.ifCond .ne 5, 3) := by decide +kernel
theorem dX2_sum_8 : decode cX2_sum 8 = .ok (.iconst 0, 1) := by decide +kernel
theorem dX2_sum_9 : decode cX2_sum 9 = .ok (.ireturn, 1) := by decide +kernel
theorem dX2_sum_10 : decode cX2_sum 10 = .ok (.iconst 0, 1) := by decide +kernel
theorem dX2_sum_11 : decode cX2_sum 11 = .ok (.istore_n 2, 1) := by decide +kernel
theorem dX2_sum_12 : decode cX2_sum 12 = .ok (.iload_n 2, 1) := by decide +kernel
theorem dX2_sum_13 : decode cX2_sum 13 = .ok (.sipush 160, 3) := by decide +kernel
theorem dX2_sum_16 : decode cX2_sum 16 = .ok (.if_icmp .ge 58, 3) := by decide +kernel
theorem dX2_sum_19 : decode cX2_sum 19 = .ok (.aload_n 0, 1) := by decide +kernel
theorem dX2_sum_20 : decode cX2_sum 20 = .ok (.getfield 9, 3) := by decide +kernel
theorem dX2_sum_23 : decode cX2_sum 23 = .ok (.invokevirtual 44, 3) := by decide +kernel
theorem dX2_sum_26 : decode cX2_sum 26 = .ok (.istore_n 3, 1) := by decide +kernel
theorem dX2_sum_27 : decode cX2_sum 27 = .ok (.iload_n 3, 1) := by decide +kernel
theorem dX2_sum_28 : decode cX2_sum 28 = .ok (.bipush 43, 2) := by decide +kernel
theorem dX2_sum_30 : decode cX2_sum 30 = .ok (.if_icmp .eq 11, 3) := by decide +kernel
theorem dX2_sum_33 : decode cX2_sum 33 = .ok (.iload_n 3, 1) := by decide +kernel
theorem dX2_sum_34 : decode cX2_sum 34 = .ok (.bipush 45, 2) := by decide +kernel
theorem dX2_sum_36 : decode cX2_sum 36 = .ok (.if_icmp .eq 5, 3) := by decide +kernel
theorem dX2_sum_39 : decode cX2_sum 39 = .ok (.iconst 1, 1) := by decide +kernel
theorem dX2_sum_40 : decode cX2_sum 40 = .ok (.ireturn, 1) := by decide +kernel
theorem dX2_sum_41 : decode cX2_sum 41 = .ok (.aload_n 0, 1) := by decide +kernel
theorem dX2_sum_42 : decode cX2_sum 42 = .ok (.getfield 9, 3) := by decide +kernel
theorem dX2_sum_45 : decode cX2_sum 45 = .ok (.iload_n 3, 1) := by decide +kernel
theorem dX2_sum_46 : decode cX2_sum 46 = .ok (.invokevirtual 35, 3) := by decide +kernel
theorem dX2_sum_49 : decode cX2_sum 49 = .ok (.ifCond .eq 11, 3) := by decide +kernel
theorem dX2_sum_52 : decode cX2_sum 52 = .ok (.aload_n 0, 1) := by decide +kernel
theorem dX2_sum_53 : decode cX2_sum 53 = .ok (.iload_n 1, 1) := by decide +kernel
theorem dX2_sum_54 : decode cX2_sum 54 = .ok (.invokevirtual 73, 3) := by decide +kernel
theorem dX2_sum_57 : decode cX2_sum 57 = .ok (.ifCond .ne 5, 3) := by decide +kernel
theorem dX2_sum_60 : decode cX2_sum 60 = .ok (.iconst 0, 1) := by decide +kernel
theorem dX2_sum_61 : decode cX2_sum 61 = .ok (.ireturn, 1) := by decide +kernel
theorem dX2_sum_62 : decode cX2_sum 62 = .ok (.aload_n 0, 1) := by decide +kernel
theorem dX2_sum_63 : decode cX2_sum 63 = .ok (.iload_n 3, 1) := by decide +kernel
theorem dX2_sum_64 : decode cX2_sum 64 = .ok (.ineg, 1) := by decide +kernel
theorem dX2_sum_65 : decode cX2_sum 65 = .ok (.invokevirtual 60, 3) := by decide +kernel
theorem dX2_sum_68 : decode cX2_sum 68 = .ok (.iinc 2 1, 3) := by decide +kernel
theorem dX2_sum_71 : decode cX2_sum 71 = .ok (.goto (-59), 3) := by decide +kernel
theorem dX2_sum_74 : decode cX2_sum 74 = .ok (.iconst 1, 1) := by decide +kernel
theorem dX2_sum_75 : decode cX2_sum 75 = .ok (.ireturn, 1) := by decide +kernel
theorem dX2_term_0 : decode cX2_term 0 = .ok (.aload_n 0, 1) := by decide +kernel
theorem dX2_term_1 : decode cX2_term 1 = .ok (.iload_n 1, 1) := by decide +kernel
theorem dX2_term_2 : decode cX2_term 2 = .ok (.invokevirtual 76, 3) := by decide +kernel
theorem dX2_term_5 : decode cX2_term 5 = .ok (.ifCond .ne 5, 3) := by decide +kernel
theorem dX2_term_8 : decode cX2_term 8 = .ok (.iconst 0, 1) := by decide +kernel
theorem dX2_term_9 : decode cX2_term 9 = .ok (.ireturn, 1) := by decide +kernel
theorem dX2_term_10 : decode cX2_term 10 = .ok (.iconst 0, 1) := by decide +kernel
theorem dX2_term_11 : decode cX2_term 11 = .ok (.istore_n 2, 1) := by decide +kernel
theorem dX2_term_12 : decode cX2_term 12 = .ok (.iload_n 2, 1) := by decide +kernel
theorem dX2_term_13 : decode cX2_term 13 = .ok (.sipush 160, 3) := by decide +kernel
theorem dX2_term_16 : decode cX2_term 16 = .ok (.if_icmp .ge 58, 3) := by decide +kernel
theorem dX2_term_19 : decode cX2_term 19 = .ok (.aload_n 0, 1) := by decide +kernel
theorem dX2_term_20 : decode cX2_term 20 = .ok (.getfield 9, 3) := by decide +kernel
theorem dX2_term_23 : decode cX2_term 23 = .ok (.invokevirtual 44, 3) := by decide +kernel
theorem dX2_term_26 : decode cX2_term 26 = .ok (.istore_n 3, 1) := by decide +kernel
theorem dX2_term_27 : decode cX2_term 27 = .ok (.iload_n 3, 1) := by decide +kernel
theorem dX2_term_28 : decode cX2_term 28 = .ok (.bipush 42, 2) := by decide +kernel
theorem dX2_term_30 : decode cX2_term 30 = .ok (.if_icmp .eq 11, 3) := by decide +kernel
theorem dX2_term_33 : decode cX2_term 33 = .ok (.iload_n 3, 1) := by decide +kernel
theorem dX2_term_34 : decode cX2_term 34 = .ok (.bipush 47, 2) := by decide +kernel
theorem dX2_term_36 : decode cX2_term 36 = .ok (.if_icmp .eq 5, 3) := by decide +kernel
theorem dX2_term_39 : decode cX2_term 39 = .ok (.iconst 1, 1) := by decide +kernel
theorem dX2_term_40 : decode cX2_term 40 = .ok (.ireturn, 1) := by decide +kernel
theorem dX2_term_41 : decode cX2_term 41 = .ok (.aload_n 0, 1) := by decide +kernel
theorem dX2_term_42 : decode cX2_term 42 = .ok (.getfield 9, 3) := by decide +kernel
theorem dX2_term_45 : decode cX2_term 45 = .ok (.iload_n 3, 1) := by decide +kernel
theorem dX2_term_46 : decode cX2_term 46 = .ok (.invokevirtual 35, 3) := by decide +kernel
theorem dX2_term_49 : decode cX2_term 49 = .ok (.ifCond .eq 11, 3) := by decide +kernel
theorem dX2_term_52 : decode cX2_term 52 = .ok (.aload_n 0, 1) := by decide +kernel
theorem dX2_term_53 : decode cX2_term 53 = .ok (.iload_n 1, 1) := by decide +kernel
theorem dX2_term_54 : decode cX2_term 54 = .ok (.invokevirtual 76, 3) := by decide +kernel
theorem dX2_term_57 : decode cX2_term 57 = .ok (.ifCond .ne 5, 3) := by decide +kernel
theorem dX2_term_60 : decode cX2_term 60 = .ok (.iconst 0, 1) := by decide +kernel
theorem dX2_term_61 : decode cX2_term 61 = .ok (.ireturn, 1) := by decide +kernel
theorem dX2_term_62 : decode cX2_term 62 = .ok (.aload_n 0, 1) := by decide +kernel
theorem dX2_term_63 : decode cX2_term 63 = .ok (.iload_n 3, 1) := by decide +kernel
theorem dX2_term_64 : decode cX2_term 64 = .ok (.ineg, 1) := by decide +kernel
theorem dX2_term_65 : decode cX2_term 65 = .ok (.invokevirtual 60, 3) := by decide +kernel
theorem dX2_term_68 : decode cX2_term 68 = .ok (.iinc 2 1, 3) := by decide +kernel
theorem dX2_term_71 : decode cX2_term 71 = .ok (.goto (-59), 3) := by decide +kernel
theorem dX2_term_74 : decode cX2_term 74 = .ok (.iconst 1, 1) := by decide +kernel
theorem dX2_term_75 : decode cX2_term 75 = .ok (.ireturn, 1) := by decide +kernel
theorem dX2_atom_0 : decode cX2_atom 0 = .ok (.aload_n 0, 1) := by decide +kernel
theorem dX2_atom_1 : decode cX2_atom 1 = .ok (.getfield 9, 3) := by decide +kernel
theorem dX2_atom_4 : decode cX2_atom 4 = .ok (.invokevirtual 44, 3) := by decide +kernel
theorem dX2_atom_7 : decode cX2_atom 7 = .ok (.istore_n 2, 1) := by decide +kernel
theorem dX2_atom_8 : decode cX2_atom 8 = .ok (.iload_n 2, 1) := by decide +kernel
theorem dX2_atom_9 : decode cX2_atom 9 = .ok (.bipush 91, 2) := by decide +kernel
theorem dX2_atom_11 : decode cX2_atom 11 = .ok (.if_icmp .ne 48, 3) := by decide +kernel
theorem dX2_atom_14 : decode cX2_atom 14 = .ok (.iload_n 1, 1) := by decide +kernel
theorem dX2_atom_15 : decode cX2_atom 15 = .ok (.bipush 6, 2) := by decide +kernel
theorem dX2_atom_17 : decode cX2_atom 17 = .ok (.if_icmp .ge 40, 3) := by decide +kernel
theorem dX2_atom_20 : decode cX2_atom 20 = .ok (.aload_n 0, 1) := by decide +kernel
theorem dX2_atom_21 : decode cX2_atom 21 = .ok (.getfield 9, 3) := by decide +kernel
theorem dX2_atom_24 : decode cX2_atom 24 = .ok (.iload_n 2, 1) := by decide +kernel
theorem dX2_atom_25 : decode cX2_atom 25 = .ok (.invokevirtual 35, 3) := by decide +kernel
theorem dX2_atom_28 : decode cX2_atom 28 = .ok (.ifCond .eq 29, 3) := by decide +kernel
theorem dX2_atom_31 : decode cX2_atom 31 = .ok (.aload_n 0, 1) := by decide +kernel
theorem dX2_atom_32 : decode cX2_atom 32 = .ok (.iload_n 1, 1) := by decide +kernel
theorem dX2_atom_33 : decode cX2_atom 33 = .ok (.iconst 1, 1) := by decide +kernel
theorem dX2_atom_34 : decode cX2_atom 34 = .ok (.iadd, 1) := by decide +kernel
theorem dX2_atom_35 : decode cX2_atom 35 = .ok (.invokevirtual 54, 3) := by decide +kernel
theorem dX2_atom_38 : decode cX2_atom 38 = .ok (.ifCond .eq 19, 3) := by decide +kernel
theorem dX2_atom_41 : decode cX2_atom 41 = .ok (.aload_n 0, 1) := by decide +kernel
theorem dX2_atom_42 : decode cX2_atom 42 = .ok (.getfield 9, 3) := by decide +kernel
theorem dX2_atom_45 : decode cX2_atom 45 = .ok (.bipush 93, 2) := by decide +kernel
theorem dX2_atom_47 : decode cX2_atom 47 = .ok (.invokevirtual 35, 3) := by decide +kernel
theorem dX2_atom_50 : decode cX2_atom 50 = .ok (.ifCond .eq 7, 3) := by decide +kernel
theorem dX2_atom_53 : decode cX2_atom 53 = .ok (.iconst 1, 1) := by decide +kernel
theorem dX2_atom_54 : decode cX2_atom 54 = .ok (.goto 4, 3) := by decide +kernel
theorem dX2_atom_57 : decode cX2_atom 57 = .ok (.iconst 0, 1) := by decide +kernel
theorem dX2_atom_58 : decode cX2_atom 58 = .ok (.ireturn, 1) := by decide +kernel
theorem dX2_atom_59 : decode cX2_atom 59 = .ok (.iload_n 2, 1) := by decide +kernel
theorem dX2_atom_60 : decode cX2_atom 60 = .ok (.invokestatic 79, 3) := by decide +kernel
theorem dX2_atom_63 : decode cX2_atom 63 = .ok (.ifCond .eq 18, 3) := by decide +kernel
theorem dX2_atom_66 : decode cX2_atom 66 = .ok (.aload_n 0, 1) := by decide +kernel
theorem dX2_atom_67 : decode cX2_atom 67 = .ok (.iload_n 2, 1) := by decide +kernel
theorem dX2_atom_68 : decode cX2_atom 68 = .ok (.ineg, 1) := by decide +kernel
theorem dX2_atom_69 : decode cX2_atom 69 = .ok (.invokevirtual 60, 3) := by decide +kernel
theorem dX2_atom_72 : decode cX2_atom 72 = .ok (.aload_n 0, 1) := by decide +kernel
theorem dX2_atom_73 : decode cX2_atom 73 = .ok (.getfield 9, 3) := by decide +kernel
theorem dX2_atom_76 : decode cX2_atom 76 = .ok (.iload_n 2, 1) := by decide +kernel
theorem dX2_atom_77 : decode cX2_atom 77 = .ok (.invokevirtual 35, 3) := by decide +kernel
theorem dX2_atom_80 : decode cX2_atom 80 = .ok (.ireturn, 1) := by decide +kernel
theorem dX2_atom_81 : decode cX2_atom 81 = .ok (.aload_n 0, 1) := by decide +kernel
theorem dX2_atom_82 : decode cX2_atom 82 = .ok (.getfield 9, 3) := by decide +kernel
theorem dX2_atom_85 : decode cX2_atom 85 = .ok (.iconst 4, 1) := by decide +kernel
theorem dX2_atom_86 : decode cX2_atom 86 = .ok (.invokevirtual 82, 3) := by decide +kernel
theorem dX2_atom_89 : decode cX2_atom 89 = .ok (.istore_n 3, 1) := by decide +kernel
theorem dX2_atom_90 : decode cX2_atom 90 = .ok (.iload_n 3, 1) := by decide +kernel
theorem dX2_atom_91 : decode cX2_atom 91 = .ok (.iconst (-1), 1) := by decide +kernel
theorem dX2_atom_92 : decode cX2_atom 92 = .ok (.if_icmp .ne 5, 3) := by decide +kernel
theorem dX2_atom_95 : decode cX2_atom 95 = .ok (.iconst 0, 1) := by decide +kernel
theorem dX2_atom_96 : decode cX2_atom 96 = .ok (.ireturn, 1) := by decide +kernel
theorem dX2_atom_97 : decode cX2_atom 97 = .ok (.aload_n 0, 1) := by decide +kernel
theorem dX2_atom_98 : decode cX2_atom 98 = .ok (.iload_n 3, 1) := by decide +kernel
theorem dX2_atom_99 : decode cX2_atom 99 = .ok (.invokevirtual 60, 3) := by decide +kernel
theorem dX2_atom_102 : decode cX2_atom 102 = .ok (.iconst 1, 1) := by decide +kernel
theorem dX2_atom_103 : decode cX2_atom 103 = .ok (.ireturn, 1) := by decide +kernel
theorem dX2_isLetter_0 : decode cX2_isLetter 0 = .ok (.iload_n 0, 1) := by decide +kernel
theorem dX2_isLetter_1 : decode cX2_isLetter 1 = .ok (.bipush 110, 2) := by decide +kernel
theorem dX2_isLetter_3 : decode cX2_isLetter 3 = .ok (.if_icmp .eq 33, 3) := by decide +kernel
theorem dX2_isLetter_6 : decode cX2_isLetter 6 = .ok (.iload_n 0, 1) := by decide +kernel
theorem dX2_isLetter_7 : decode cX2_isLetter 7 = .ok (.bipush 116, 2) := by decide +kernel
theorem dX2_isLetter_9 : decode cX2_isLetter 9 = .ok (.if_icmp .eq 27, 3) := by decide +kernel
theorem dX2_isLetter_12 : decode cX2_isLetter 12 = .ok (.iload_n 0, 1) := by decide +kernel
theorem dX2_isLetter_13 : decode cX2_isLetter 13 = .ok (.bipush 115, 2) := by decide +kernel
theorem dX2_isLetter_15 : decode cX2_isLetter 15 = .ok (.if_icmp .eq 21, 3) := by decide +kernel
theorem dX2_isLetter_18 : decode cX2_isLetter 18 = .ok (.iload_n 0, 1) := by decide +kernel
theorem dX2_isLetter_19 : decode cX2_isLetter 19 = .ok (.bipush 108, 2) := by decide +kernel
theorem dX2_isLetter_21 : decode cX2_isLetter 21 = .ok (.if_icmp .eq 15, 3) := by decide +kernel
theorem dX2_isLetter_24 : decode cX2_isLetter 24 = .ok (.iload_n 0, 1) := by decide +kernel
theorem dX2_isLetter_25 : decode cX2_isLetter 25 = .ok (.bipush 105, 2) := by decide +kernel
theorem dX2_isLetter_27 : decode cX2_isLetter 27 = .ok (.if_icmp .eq 9, 3) := by decide +kernel
theorem dX2_isLetter_30 : decode cX2_isLetter 30 = .ok (.iload_n 0, 1) := by decide +kernel
theorem dX2_isLetter_31 : decode cX2_isLetter 31 = .ok (.bipush 100, 2) := by decide +kernel
theorem dX2_isLetter_33 : decode cX2_isLetter 33 = .ok (.if_icmp .ne 7, 3) := by decide +kernel
theorem dX2_isLetter_36 : decode cX2_isLetter 36 = .ok (.iconst 1, 1) := by decide +kernel
theorem dX2_isLetter_37 : decode cX2_isLetter 37 = .ok (.goto 4, 3) := by decide +kernel
theorem dX2_isLetter_40 : decode cX2_isLetter 40 = .ok (.iconst 0, 1) := by decide +kernel
theorem dX2_isLetter_41 : decode cX2_isLetter 41 = .ok (.ireturn, 1) := by decide +kernel
theorem dX2_emit_0 : decode cX2_emit 0 = .ok (.aload_n 0, 1) := by decide +kernel
theorem dX2_emit_1 : decode cX2_emit 1 = .ok (.getfield 19, 3) := by decide +kernel
theorem dX2_emit_4 : decode cX2_emit 4 = .ok (.ifCond .lt 35, 3) := by decide +kernel
theorem dX2_emit_7 : decode cX2_emit 7 = .ok (.aload_n 0, 1) := by decide +kernel
theorem dX2_emit_8 : decode cX2_emit 8 = .ok (.getfield 19, 3) := by decide +kernel
theorem dX2_emit_11 : decode cX2_emit 11 = .ok (.aload_n 0, 1) := by decide +kernel
theorem dX2_emit_12 : decode cX2_emit 12 = .ok (.getfield 15, 3) := by decide +kernel
theorem dX2_emit_15 : decode cX2_emit 15 = .ok (.arraylength, 1) := by decide +kernel
theorem dX2_emit_16 : decode cX2_emit 16 = .ok (.if_icmp .ge 23, 3) := by decide +kernel
theorem dX2_emit_19 : decode cX2_emit 19 = .ok (.aload_n 0, 1) := by decide +kernel
theorem dX2_emit_20 : decode cX2_emit 20 = .ok (.getfield 15, 3) := by decide +kernel
theorem dX2_emit_23 : decode cX2_emit 23 = .ok (.aload_n 0, 1) := by decide +kernel
theorem dX2_emit_24 : decode cX2_emit 24 = .ok (.getfield 19, 3) := by decide +kernel
theorem dX2_emit_27 : decode cX2_emit 27 = .ok (.iload_n 1, 1) := by decide +kernel
theorem dX2_emit_28 : decode cX2_emit 28 = .ok (.iastore, 1) := by decide +kernel
theorem dX2_emit_29 : decode cX2_emit 29 = .ok (.aload_n 0, 1) := by decide +kernel
theorem dX2_emit_30 : decode cX2_emit 30 = .ok (.dup, 1) := by decide +kernel
theorem dX2_emit_31 : decode cX2_emit 31 = .ok (.getfield 19, 3) := by decide +kernel
theorem dX2_emit_34 : decode cX2_emit 34 = .ok (.iconst 1, 1) := by decide +kernel
theorem dX2_emit_35 : decode cX2_emit 35 = .ok (.iadd, 1) := by decide +kernel
theorem dX2_emit_36 : decode cX2_emit 36 = .ok (.putfield 19, 3) := by decide +kernel
theorem dX2_emit_39 : decode cX2_emit 39 = .ok (.return_, 1) := by decide +kernel
