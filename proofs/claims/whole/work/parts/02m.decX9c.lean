theorem dX9_layComes_11 : decode cX9_layComes 11 = .ok (.aload_n 0, 1) := by decide +kernel
theorem dX9_layComes_12 : decode cX9_layComes 12 = .ok (.getfield 72, 3) := by decide +kernel
theorem dX9_layComes_15 : decode cX9_layComes 15 = .ok (.iload_n 2, 1) := by decide +kernel
theorem dX9_layComes_16 : decode cX9_layComes 16 = .ok (.iload_n 2, 1) := by decide +kernel
theorem dX9_layComes_17 : decode cX9_layComes 17 = .ok (.ifCond .ne 7, 3) := by decide +kernel
theorem dX9_layComes_20 : decode cX9_layComes 20 = .ok (.iconst 1, 1) := by decide +kernel
theorem dX9_layComes_21 : decode cX9_layComes 21 = .ok (.goto 4, 3) := by decide +kernel
theorem dX9_layComes_24 : decode cX9_layComes 24 = .ok (.iconst 0, 1) := by decide +kernel
theorem dX9_layComes_25 : decode cX9_layComes 25 = .ok (.bastore, 1) := by decide +kernel
theorem dX9_layComes_26 : decode cX9_layComes 26 = .ok (.iinc 2 1, 3) := by decide +kernel
theorem dX9_layComes_29 : decode cX9_layComes 29 = .ok (.goto (-27), 3) := by decide +kernel
theorem dX9_layComes_32 : decode cX9_layComes 32 = .ok (.iconst 0, 1) := by decide +kernel
theorem dX9_layComes_33 : decode cX9_layComes 33 = .ok (.istore_n 2, 1) := by decide +kernel
theorem dX9_layComes_34 : decode cX9_layComes 34 = .ok (.iload_n 2, 1) := by decide +kernel
theorem dX9_layComes_35 : decode cX9_layComes 35 = .ok (.bipush 60, 2) := by decide +kernel
theorem dX9_layComes_37 : decode cX9_layComes 37 = .ok (.if_icmp .ge 104, 3) := by decide +kernel
theorem dX9_layComes_40 : decode cX9_layComes 40 = .ok (.iconst 0, 1) := by decide +kernel
theorem dX9_layComes_41 : decode cX9_layComes 41 = .ok (.istore_n 3, 1) := by decide +kernel
theorem dX9_layComes_42 : decode cX9_layComes 42 = .ok (.iload_n 3, 1) := by decide +kernel
theorem dX9_layComes_43 : decode cX9_layComes 43 = .ok (.sipush 200, 3) := by decide +kernel
theorem dX9_layComes_46 : decode cX9_layComes 46 = .ok (.if_icmp .gt 89, 3) := by decide +kernel
theorem dX9_layComes_49 : decode cX9_layComes 49 = .ok (.aload_n 0, 1) := by decide +kernel
theorem dX9_layComes_50 : decode cX9_layComes 50 = .ok (.iload_n 2, 1) := by decide +kernel
theorem dX9_layComes_51 : decode cX9_layComes 51 = .ok (.iload_n 3, 1) := by decide +kernel
theorem dX9_layComes_52 : decode cX9_layComes 52 = .ok (.invokevirtual 321, 3) := by decide +kernel
theorem dX9_layComes_55 : decode cX9_layComes 55 = .ok (.ifCond .ne 6, 3) := by decide +kernel
theorem dX9_layComes_58 : decode cX9_layComes 58 = .ok (.goto 71, 3) := by decide +kernel
theorem dX9_layComes_61 : decode cX9_layComes 61 = .ok (.iconst 1, 1) := by decide +kernel
theorem dX9_layComes_62 : decode cX9_layComes 62 = .ok (.istore 4, 2) := by decide +kernel
theorem dX9_layComes_64 : decode cX9_layComes 64 = .ok (.iload 4, 2) := by decide +kernel
theorem dX9_layComes_66 : decode cX9_layComes 66 = .ok (.aload_n 0, 1) := by decide +kernel
theorem dX9_layComes_67 : decode cX9_layComes 67 = .ok (.getfield 65, 3) := by decide +kernel
theorem dX9_layComes_70 : decode cX9_layComes 70 = .ok (.if_icmp .gt 59, 3) := by decide +kernel
theorem dX9_layComes_73 : decode cX9_layComes 73 = .ok (.iload_n 3, 1) := by decide +kernel
theorem dX9_layComes_74 : decode cX9_layComes 74 = .ok (.iload 4, 2) := by decide +kernel
theorem dX9_layComes_76 : decode cX9_layComes 76 = .ok (.iadd, 1) := by decide +kernel
theorem dX9_layComes_77 : decode cX9_layComes 77 = .ok (.sipush 200, 3) := by decide +kernel
theorem dX9_layComes_80 : decode cX9_layComes 80 = .ok (.if_icmp .gt 49, 3) := by decide +kernel
theorem dX9_layComes_83 : decode cX9_layComes 83 = .ok (.aload_n 0, 1) := by decide +kernel
theorem dX9_layComes_84 : decode cX9_layComes 84 = .ok (.iload 4, 2) := by decide +kernel
theorem dX9_layComes_86 : decode cX9_layComes 86 = .ok (.iload_n 1, 1) := by decide +kernel
theorem dX9_layComes_87 : decode cX9_layComes 87 = .ok (.invokevirtual 324, 3) := by decide +kernel
theorem dX9_layComes_90 : decode cX9_layComes 90 = .ok (.ifCond .eq 33, 3) := by decide +kernel
theorem dX9_layComes_93 : decode cX9_layComes 93 = .ok (.aload_n 0, 1) := by decide +kernel
theorem dX9_layComes_94 : decode cX9_layComes 94 = .ok (.iload_n 3, 1) := by decide +kernel
theorem dX9_layComes_95 : decode cX9_layComes 95 = .ok (.iload 4, 2) := by decide +kernel
theorem dX9_layComes_97 : decode cX9_layComes 97 = .ok (.iadd, 1) := by decide +kernel
theorem dX9_layComes_98 : decode cX9_layComes 98 = .ok (.iload_n 1, 1) := by decide +kernel
theorem dX9_layComes_99 : decode cX9_layComes 99 = .ok (.invokevirtual 327, 3) := by decide +kernel
theorem dX9_layComes_102 : decode cX9_layComes 102 = .ok (.ifCond .eq 21, 3) := by decide +kernel
theorem dX9_layComes_105 : decode cX9_layComes 105 = .ok (.aload_n 0, 1) := by decide +kernel
theorem dX9_layComes_106 : decode cX9_layComes 106 = .ok (.getfield 72, 3) := by decide +kernel
theorem dX9_layComes_109 : decode cX9_layComes 109 = .ok (.sipush 201, 3) := by decide +kernel
theorem dX9_layComes_112 : decode cX9_layComes 112 = .ok (.iload_n 2, 1) := by decide +kernel
theorem dX9_layComes_113 : decode cX9_layComes 113 = .ok (.iconst 1, 1) := by decide +kernel
theorem dX9_layComes_114 : decode cX9_layComes 114 = .ok (.iadd, 1) := by decide +kernel
theorem dX9_layComes_115 : decode cX9_layComes 115 = .ok (.imul, 1) := by decide +kernel
theorem dX9_layComes_116 : decode cX9_layComes 116 = .ok (.iload_n 3, 1) := by decide +kernel
theorem dX9_layComes_117 : decode cX9_layComes 117 = .ok (.iadd, 1) := by decide +kernel
theorem dX9_layComes_118 : decode cX9_layComes 118 = .ok (.iload 4, 2) := by decide +kernel
theorem dX9_layComes_120 : decode cX9_layComes 120 = .ok (.iadd, 1) := by decide +kernel
theorem dX9_layComes_121 : decode cX9_layComes 121 = .ok (.iconst 1, 1) := by decide +kernel
theorem dX9_layComes_122 : decode cX9_layComes 122 = .ok (.bastore, 1) := by decide +kernel
theorem dX9_layComes_123 : decode cX9_layComes 123 = .ok (.iinc 4 1, 3) := by decide +kernel
theorem dX9_layComes_126 : decode cX9_layComes 126 = .ok (.goto (-62), 3) := by decide +kernel
theorem dX9_layComes_129 : decode cX9_layComes 129 = .ok (.iinc 3 1, 3) := by decide +kernel
theorem dX9_layComes_132 : decode cX9_layComes 132 = .ok (.goto (-90), 3) := by decide +kernel
theorem dX9_layComes_135 : decode cX9_layComes 135 = .ok (.iinc 2 1, 3) := by decide +kernel
theorem dX9_layComes_138 : decode cX9_layComes 138 = .ok (.goto (-104), 3) := by decide +kernel
theorem dX9_layComes_141 : decode cX9_layComes 141 = .ok (.return_, 1) := by decide +kernel
theorem dX9_layGoes_0 : decode cX9_layGoes 0 = .ok (.iconst 0, 1) := by decide +kernel
theorem dX9_layGoes_1 : decode cX9_layGoes 1 = .ok (.istore_n 3, 1) := by decide +kernel
theorem dX9_layGoes_2 : decode cX9_layGoes 2 = .ok (.iload_n 3, 1) := by decide +kernel
theorem dX9_layGoes_3 : decode cX9_layGoes 3 = .ok (.aload_n 0, 1) := by decide +kernel
theorem dX9_layGoes_4 : decode cX9_layGoes 4 = .ok (.getfield 72, 3) := by decide +kernel
theorem dX9_layGoes_7 : decode cX9_layGoes 7 = .ok (.arraylength, 1) := by decide +kernel
theorem dX9_layGoes_8 : decode cX9_layGoes 8 = .ok (.if_icmp .ge 25, 3) := by decide +kernel
theorem dX9_layGoes_11 : decode cX9_layGoes 11 = .ok (.aload_n 0, 1) := by decide +kernel
theorem dX9_layGoes_12 : decode cX9_layGoes 12 = .ok (.getfield 72, 3) := by decide +kernel
theorem dX9_layGoes_15 : decode cX9_layGoes 15 = .ok (.iload_n 3, 1) := by decide +kernel
theorem dX9_layGoes_16 : decode cX9_layGoes 16 = .ok (.iload_n 3, 1) := by decide +kernel
theorem dX9_layGoes_17 : decode cX9_layGoes 17 = .ok (.iload_n 1, 1) := by decide +kernel
theorem dX9_layGoes_18 : decode cX9_layGoes 18 = .ok (.if_icmp .ne 7, 3) := by decide +kernel
theorem dX9_layGoes_21 : decode cX9_layGoes 21 = .ok (.iconst 1, 1) := by decide +kernel
theorem dX9_layGoes_22 : decode cX9_layGoes 22 = .ok (.goto 4, 3) := by decide +kernel
theorem dX9_layGoes_25 : decode cX9_layGoes 25 = .ok (.iconst 0, 1) := by decide +kernel
theorem dX9_layGoes_26 : decode cX9_layGoes 26 = .ok (.bastore, 1) := by decide +kernel
theorem dX9_layGoes_27 : decode cX9_layGoes 27 = .ok (.iinc 3 1, 3) := by decide +kernel
theorem dX9_layGoes_30 : decode cX9_layGoes 30 = .ok (.goto (-28), 3) := by decide +kernel
theorem dX9_layGoes_33 : decode cX9_layGoes 33 = .ok (.iconst 0, 1) := by decide +kernel
theorem dX9_layGoes_34 : decode cX9_layGoes 34 = .ok (.istore_n 3, 1) := by decide +kernel
theorem dX9_layGoes_35 : decode cX9_layGoes 35 = .ok (.iload_n 3, 1) := by decide +kernel
theorem dX9_layGoes_36 : decode cX9_layGoes 36 = .ok (.bipush 60, 2) := by decide +kernel
theorem dX9_layGoes_38 : decode cX9_layGoes 38 = .ok (.if_icmp .ge 103, 3) := by decide +kernel
theorem dX9_layGoes_41 : decode cX9_layGoes 41 = .ok (.iconst 0, 1) := by decide +kernel
theorem dX9_layGoes_42 : decode cX9_layGoes 42 = .ok (.istore 4, 2) := by decide +kernel
theorem dX9_layGoes_44 : decode cX9_layGoes 44 = .ok (.iload 4, 2) := by decide +kernel
theorem dX9_layGoes_46 : decode cX9_layGoes 46 = .ok (.iload_n 1, 1) := by decide +kernel
theorem dX9_layGoes_47 : decode cX9_layGoes 47 = .ok (.if_icmp .gt 88, 3) := by decide +kernel
theorem dX9_layGoes_50 : decode cX9_layGoes 50 = .ok (.iconst 1, 1) := by decide +kernel
theorem dX9_layGoes_51 : decode cX9_layGoes 51 = .ok (.istore 5, 2) := by decide +kernel
theorem dX9_layGoes_53 : decode cX9_layGoes 53 = .ok (.iload 5, 2) := by decide +kernel
theorem dX9_layGoes_55 : decode cX9_layGoes 55 = .ok (.aload_n 0, 1) := by decide +kernel
theorem dX9_layGoes_56 : decode cX9_layGoes 56 = .ok (.getfield 65, 3) := by decide +kernel
theorem dX9_layGoes_59 : decode cX9_layGoes 59 = .ok (.if_icmp .gt 70, 3) := by decide +kernel
theorem dX9_layGoes_62 : decode cX9_layGoes 62 = .ok (.iload 4, 2) := by decide +kernel
theorem dX9_layGoes_64 : decode cX9_layGoes 64 = .ok (.iload 5, 2) := by decide +kernel
theorem dX9_layGoes_66 : decode cX9_layGoes 66 = .ok (.iadd, 1) := by decide +kernel
theorem dX9_layGoes_67 : decode cX9_layGoes 67 = .ok (.iload_n 1, 1) := by decide +kernel
theorem dX9_layGoes_68 : decode cX9_layGoes 68 = .ok (.if_icmp .gt 61, 3) := by decide +kernel
theorem dX9_layGoes_71 : decode cX9_layGoes 71 = .ok (.aload_n 0, 1) := by decide +kernel
theorem dX9_layGoes_72 : decode cX9_layGoes 72 = .ok (.iload_n 3, 1) := by decide +kernel
theorem dX9_layGoes_73 : decode cX9_layGoes 73 = .ok (.iload 4, 2) := by decide +kernel
theorem dX9_layGoes_75 : decode cX9_layGoes 75 = .ok (.iload 5, 2) := by decide +kernel
theorem dX9_layGoes_77 : decode cX9_layGoes 77 = .ok (.iadd, 1) := by decide +kernel
theorem dX9_layGoes_78 : decode cX9_layGoes 78 = .ok (.invokevirtual 321, 3) := by decide +kernel
theorem dX9_layGoes_81 : decode cX9_layGoes 81 = .ok (.ifCond .eq 42, 3) := by decide +kernel
theorem dX9_layGoes_84 : decode cX9_layGoes 84 = .ok (.aload_n 0, 1) := by decide +kernel
theorem dX9_layGoes_85 : decode cX9_layGoes 85 = .ok (.iload 5, 2) := by decide +kernel
theorem dX9_layGoes_87 : decode cX9_layGoes 87 = .ok (.iload_n 2, 1) := by decide +kernel
theorem dX9_layGoes_88 : decode cX9_layGoes 88 = .ok (.invokevirtual 324, 3) := by decide +kernel
theorem dX9_layGoes_91 : decode cX9_layGoes 91 = .ok (.ifCond .eq 32, 3) := by decide +kernel
theorem dX9_layGoes_94 : decode cX9_layGoes 94 = .ok (.aload_n 0, 1) := by decide +kernel
theorem dX9_layGoes_95 : decode cX9_layGoes 95 = .ok (.iload 4, 2) := by decide +kernel
theorem dX9_layGoes_97 : decode cX9_layGoes 97 = .ok (.iload 5, 2) := by decide +kernel
theorem dX9_layGoes_99 : decode cX9_layGoes 99 = .ok (.iadd, 1) := by decide +kernel
theorem dX9_layGoes_100 : decode cX9_layGoes 100 = .ok (.iload_n 2, 1) := by decide +kernel
theorem dX9_layGoes_101 : decode cX9_layGoes 101 = .ok (.invokevirtual 327, 3) := by decide +kernel
theorem dX9_layGoes_104 : decode cX9_layGoes 104 = .ok (.ifCond .eq 19, 3) := by decide +kernel
theorem dX9_layGoes_107 : decode cX9_layGoes 107 = .ok (.aload_n 0, 1) := by decide +kernel
theorem dX9_layGoes_108 : decode cX9_layGoes 108 = .ok (.getfield 72, 3) := by decide +kernel
theorem dX9_layGoes_111 : decode cX9_layGoes 111 = .ok (.sipush 201, 3) := by decide +kernel
theorem dX9_layGoes_114 : decode cX9_layGoes 114 = .ok (.iload_n 3, 1) := by decide +kernel
theorem dX9_layGoes_115 : decode cX9_layGoes 115 = .ok (.iconst 1, 1) := by decide +kernel
theorem dX9_layGoes_116 : decode cX9_layGoes 116 = .ok (.iadd, 1) := by decide +kernel
theorem dX9_layGoes_117 : decode cX9_layGoes 117 = .ok (.imul, 1) := by decide +kernel
theorem dX9_layGoes_118 : decode cX9_layGoes 118 = .ok (.iload 4, 2) := by decide +kernel
theorem dX9_layGoes_120 : decode cX9_layGoes 120 = .ok (.iadd, 1) := by decide +kernel
theorem dX9_layGoes_121 : decode cX9_layGoes 121 = .ok (.iconst 1, 1) := by decide +kernel
theorem dX9_layGoes_122 : decode cX9_layGoes 122 = .ok (.bastore, 1) := by decide +kernel
theorem dX9_layGoes_123 : decode cX9_layGoes 123 = .ok (.iinc 5 1, 3) := by decide +kernel
theorem dX9_layGoes_126 : decode cX9_layGoes 126 = .ok (.goto (-73), 3) := by decide +kernel
theorem dX9_layGoes_129 : decode cX9_layGoes 129 = .ok (.iinc 4 1, 3) := by decide +kernel
theorem dX9_layGoes_132 : decode cX9_layGoes 132 = .ok (.goto (-88), 3) := by decide +kernel
theorem dX9_layGoes_135 : decode cX9_layGoes 135 = .ok (.iinc 3 1, 3) := by decide +kernel
theorem dX9_layGoes_138 : decode cX9_layGoes 138 = .ok (.goto (-103), 3) := by decide +kernel
theorem dX9_layGoes_141 : decode cX9_layGoes 141 = .ok (.return_, 1) := by decide +kernel
theorem dX9_areRules_0 : decode cX9_areRules 0 = .ok (.iload_n 0, 1) := by decide +kernel
theorem dX9_areRules_1 : decode cX9_areRules 1 = .ok (.i2l, 1) := by decide +kernel
theorem dX9_areRules_2 : decode cX9_areRules 2 = .ok (.lconst 0, 1) := by decide +kernel
theorem dX9_areRules_3 : decode cX9_areRules 3 = .ok (.ldc2_w 330, 3) := by decide +kernel
theorem dX9_areRules_6 : decode cX9_areRules 6 = .ok (.invokestatic 261, 3) := by decide +kernel
theorem dX9_areRules_9 : decode cX9_areRules 9 = .ok (.ireturn, 1) := by decide +kernel
theorem dX9_pay_0 : decode cX9_pay 0 = .ok (.aload_n 0, 1) := by decide +kernel
theorem dX9_pay_1 : decode cX9_pay 1 = .ok (.iconst 0, 1) := by decide +kernel
theorem dX9_pay_2 : decode cX9_pay 2 = .ok (.putfield 128, 3) := by decide +kernel
theorem dX9_pay_5 : decode cX9_pay 5 = .ok (.aload_n 0, 1) := by decide +kernel
theorem dX9_pay_6 : decode cX9_pay 6 = .ok (.iload_n 1, 1) := by decide +kernel
theorem dX9_pay_7 : decode cX9_pay 7 = .ok (.invokevirtual 299, 3) := by decide +kernel
theorem dX9_pay_10 : decode cX9_pay 10 = .ok (.ifCond .eq 28, 3) := by decide +kernel
theorem dX9_pay_13 : decode cX9_pay 13 = .ok (.iload_n 2, 1) := by decide +kernel
theorem dX9_pay_14 : decode cX9_pay 14 = .ok (.i2l, 1) := by decide +kernel
theorem dX9_pay_15 : decode cX9_pay 15 = .ok (.lconst 1, 1) := by decide +kernel
theorem dX9_pay_16 : decode cX9_pay 16 = .ok (.ldc2_w 332, 3) := by decide +kernel
theorem dX9_pay_19 : decode cX9_pay 19 = .ok (.invokestatic 261, 3) := by decide +kernel
theorem dX9_pay_22 : decode cX9_pay 22 = .ok (.ifCond .eq 16, 3) := by decide +kernel
theorem dX9_pay_25 : decode cX9_pay 25 = .ok (.iload_n 3, 1) := by decide +kernel
theorem dX9_pay_26 : decode cX9_pay 26 = .ok (.invokestatic 334, 3) := by decide +kernel
theorem dX9_pay_29 : decode cX9_pay 29 = .ok (.ifCond .eq 9, 3) := by decide +kernel
theorem dX9_pay_32 : decode cX9_pay 32 = .ok (.iload 4, 2) := by decide +kernel
theorem dX9_pay_34 : decode cX9_pay 34 = .ok (.iconst (-1), 1) := by decide +kernel
theorem dX9_pay_35 : decode cX9_pay 35 = .ok (.if_icmp .ge 5, 3) := by decide +kernel
theorem dX9_pay_38 : decode cX9_pay 38 = .ok (.iconst (-1), 1) := by decide +kernel
theorem dX9_pay_39 : decode cX9_pay 39 = .ok (.ireturn, 1) := by decide +kernel
theorem dX9_pay_40 : decode cX9_pay 40 = .ok (.aload_n 0, 1) := by decide +kernel
theorem dX9_pay_41 : decode cX9_pay 41 = .ok (.iload_n 1, 1) := by decide +kernel
theorem dX9_pay_42 : decode cX9_pay 42 = .ok (.aload_n 0, 1) := by decide +kernel
theorem dX9_pay_43 : decode cX9_pay 43 = .ok (.getfield 288, 3) := by decide +kernel
theorem dX9_pay_46 : decode cX9_pay 46 = .ok (.invokevirtual 337, 3) := by decide +kernel
theorem dX9_pay_49 : decode cX9_pay 49 = .ok (.aload_n 0, 1) := by decide +kernel
theorem dX9_pay_50 : decode cX9_pay 50 = .ok (.iload_n 2, 1) := by decide +kernel
theorem dX9_pay_51 : decode cX9_pay 51 = .ok (.iload_n 3, 1) := by decide +kernel
theorem dX9_pay_52 : decode cX9_pay 52 = .ok (.invokevirtual 341, 3) := by decide +kernel
theorem dX9_pay_55 : decode cX9_pay 55 = .ok (.iconst 1, 1) := by decide +kernel
theorem dX9_pay_56 : decode cX9_pay 56 = .ok (.istore 5, 2) := by decide +kernel
theorem dX9_pay_58 : decode cX9_pay 58 = .ok (.iload 5, 2) := by decide +kernel
theorem dX9_pay_60 : decode cX9_pay 60 = .ok (.bipush 60, 2) := by decide +kernel
theorem dX9_pay_62 : decode cX9_pay 62 = .ok (.if_icmp .gt 29, 3) := by decide +kernel
theorem dX9_pay_65 : decode cX9_pay 65 = .ok (.aload_n 0, 1) := by decide +kernel
theorem dX9_pay_66 : decode cX9_pay 66 = .ok (.iload 5, 2) := by decide +kernel
theorem dX9_pay_68 : decode cX9_pay 68 = .ok (.iconst 0, 1) := by decide +kernel
theorem dX9_pay_69 : decode cX9_pay 69 = .ok (.invokevirtual 321, 3) := by decide +kernel
theorem dX9_pay_72 : decode cX9_pay 72 = .ok (.ifCond .eq 13, 3) := by decide +kernel
theorem dX9_pay_75 : decode cX9_pay 75 = .ok (.aload_n 0, 1) := by decide +kernel
theorem dX9_pay_76 : decode cX9_pay 76 = .ok (.iload 5, 2) := by decide +kernel
theorem dX9_pay_78 : decode cX9_pay 78 = .ok (.iload_n 3, 1) := by decide +kernel
theorem dX9_pay_79 : decode cX9_pay 79 = .ok (.invokevirtual 344, 3) := by decide +kernel
theorem dX9_pay_82 : decode cX9_pay 82 = .ok (.ifCond .ne 9, 3) := by decide +kernel
theorem dX9_pay_85 : decode cX9_pay 85 = .ok (.iinc 5 1, 3) := by decide +kernel
theorem dX9_pay_88 : decode cX9_pay 88 = .ok (.goto (-30), 3) := by decide +kernel
theorem dX9_pay_91 : decode cX9_pay 91 = .ok (.iload 5, 2) := by decide +kernel
theorem dX9_pay_93 : decode cX9_pay 93 = .ok (.bipush 60, 2) := by decide +kernel
theorem dX9_pay_95 : decode cX9_pay 95 = .ok (.if_icmp .le 5, 3) := by decide +kernel
theorem dX9_pay_98 : decode cX9_pay 98 = .ok (.iconst (-1), 1) := by decide +kernel
theorem dX9_pay_99 : decode cX9_pay 99 = .ok (.ireturn, 1) := by decide +kernel
theorem dX9_pay_100 : decode cX9_pay 100 = .ok (.iload 4, 2) := by decide +kernel
theorem dX9_pay_102 : decode cX9_pay 102 = .ok (.iconst (-1), 1) := by decide +kernel
theorem dX9_pay_103 : decode cX9_pay 103 = .ok (.if_icmp .ne 6, 3) := by decide +kernel
theorem dX9_pay_106 : decode cX9_pay 106 = .ok (.iload 5, 2) := by decide +kernel
theorem dX9_pay_108 : decode cX9_pay 108 = .ok (.ireturn, 1) := by decide +kernel
theorem dX9_pay_109 : decode cX9_pay 109 = .ok (.iload 4, 2) := by decide +kernel
theorem dX9_pay_111 : decode cX9_pay 111 = .ok (.iload 5, 2) := by decide +kernel
theorem dX9_pay_113 : decode cX9_pay 113 = .ok (.if_icmp .lt 5, 3) := by decide +kernel
theorem dX9_pay_116 : decode cX9_pay 116 = .ok (.iconst (-1), 1) := by decide +kernel
theorem dX9_pay_117 : decode cX9_pay 117 = .ok (.ireturn, 1) := by decide +kernel
theorem dX9_pay_118 : decode cX9_pay 118 = .ok (.iconst 0, 1) := by decide +kernel
theorem dX9_pay_119 : decode cX9_pay 119 = .ok (.istore 6, 2) := by decide +kernel
theorem dX9_pay_121 : decode cX9_pay 121 = .ok (.iconst 0, 1) := by decide +kernel
theorem dX9_pay_122 : decode cX9_pay 122 = .ok (.istore 7, 2) := by decide +kernel
theorem dX9_pay_124 : decode cX9_pay 124 = .ok (.iconst 0, 1) := by decide +kernel
theorem dX9_pay_125 : decode cX9_pay 125 = .ok (.istore 8, 2) := by decide +kernel
theorem dX9_pay_127 : decode cX9_pay 127 = .ok (.iload 8, 2) := by decide +kernel
theorem dX9_pay_129 : decode cX9_pay 129 = .ok (.iload 4, 2) := by decide +kernel
theorem dX9_pay_131 : decode cX9_pay 131 = .ok (.if_icmp .gt 77, 3) := by decide +kernel
theorem dX9_pay_134 : decode cX9_pay 134 = .ok (.aload_n 0, 1) := by decide +kernel
theorem dX9_pay_135 : decode cX9_pay 135 = .ok (.getfield 65, 3) := by decide +kernel
theorem dX9_pay_138 : decode cX9_pay 138 = .ok (.iload_n 2, 1) := by decide +kernel
theorem dX9_pay_139 : decode cX9_pay 139 = .ok (.iload 6, 2) := by decide +kernel
theorem dX9_pay_141 : decode cX9_pay 141 = .ok (.isub, 1) := by decide +kernel
theorem dX9_pay_142 : decode cX9_pay 142 = .ok (.invokestatic 347, 3) := by decide +kernel
theorem dX9_pay_145 : decode cX9_pay 145 = .ok (.istore 7, 2) := by decide +kernel
theorem dX9_pay_147 : decode cX9_pay 147 = .ok (.aload_n 0, 1) := by decide +kernel
theorem dX9_pay_148 : decode cX9_pay 148 = .ok (.iload 5, 2) := by decide +kernel
theorem dX9_pay_150 : decode cX9_pay 150 = .ok (.iload 8, 2) := by decide +kernel
theorem dX9_pay_152 : decode cX9_pay 152 = .ok (.isub, 1) := by decide +kernel
theorem dX9_pay_153 : decode cX9_pay 153 = .ok (.iconst 1, 1) := by decide +kernel
theorem dX9_pay_154 : decode cX9_pay 154 = .ok (.isub, 1) := by decide +kernel
theorem dX9_pay_155 : decode cX9_pay 155 = .ok (.iload 6, 2) := by decide +kernel
theorem dX9_pay_157 : decode cX9_pay 157 = .ok (.iload 7, 2) := by decide +kernel
theorem dX9_pay_159 : decode cX9_pay 159 = .ok (.iadd, 1) := by decide +kernel
theorem dX9_pay_160 : decode cX9_pay 160 = .ok (.invokevirtual 321, 3) := by decide +kernel
theorem dX9_pay_163 : decode cX9_pay 163 = .ok (.ifCond .eq 26, 3) := by decide +kernel
theorem dX9_pay_166 : decode cX9_pay 166 = .ok (.aload_n 0, 1) := by decide +kernel
theorem dX9_pay_167 : decode cX9_pay 167 = .ok (.iload 7, 2) := by decide +kernel
theorem dX9_pay_169 : decode cX9_pay 169 = .ok (.iload_n 3, 1) := by decide +kernel
theorem dX9_pay_170 : decode cX9_pay 170 = .ok (.invokevirtual 324, 3) := by decide +kernel
theorem dX9_pay_173 : decode cX9_pay 173 = .ok (.ifCond .eq 16, 3) := by decide +kernel
theorem dX9_pay_176 : decode cX9_pay 176 = .ok (.aload_n 0, 1) := by decide +kernel
theorem dX9_pay_177 : decode cX9_pay 177 = .ok (.iload 6, 2) := by decide +kernel
theorem dX9_pay_179 : decode cX9_pay 179 = .ok (.iload 7, 2) := by decide +kernel
theorem dX9_pay_181 : decode cX9_pay 181 = .ok (.iadd, 1) := by decide +kernel
theorem dX9_pay_182 : decode cX9_pay 182 = .ok (.iload_n 3, 1) := by decide +kernel
theorem dX9_pay_183 : decode cX9_pay 183 = .ok (.invokevirtual 327, 3) := by decide +kernel
theorem dX9_pay_186 : decode cX9_pay 186 = .ok (.ifCond .ne 9, 3) := by decide +kernel
theorem dX9_pay_189 : decode cX9_pay 189 = .ok (.iinc 7 (-1), 3) := by decide +kernel
theorem dX9_pay_192 : decode cX9_pay 192 = .ok (.goto (-45), 3) := by decide +kernel
theorem dX9_pay_195 : decode cX9_pay 195 = .ok (.iload 6, 2) := by decide +kernel
theorem dX9_pay_197 : decode cX9_pay 197 = .ok (.iload 7, 2) := by decide +kernel
theorem dX9_pay_199 : decode cX9_pay 199 = .ok (.iadd, 1) := by decide +kernel
theorem dX9_pay_200 : decode cX9_pay 200 = .ok (.istore 6, 2) := by decide +kernel
theorem dX9_pay_202 : decode cX9_pay 202 = .ok (.iinc 8 1, 3) := by decide +kernel
theorem dX9_pay_205 : decode cX9_pay 205 = .ok (.goto (-78), 3) := by decide +kernel
theorem dX9_pay_208 : decode cX9_pay 208 = .ok (.iload 7, 2) := by decide +kernel
theorem dX9_pay_210 : decode cX9_pay 210 = .ok (.ireturn, 1) := by decide +kernel
theorem dX9_ways_0 : decode cX9_ways 0 = .ok (.aload_n 0, 1) := by decide +kernel
theorem dX9_ways_1 : decode cX9_ways 1 = .ok (.iconst 0, 1) := by decide +kernel
theorem dX9_ways_2 : decode cX9_ways 2 = .ok (.putfield 128, 3) := by decide +kernel
theorem dX9_ways_5 : decode cX9_ways 5 = .ok (.aload_n 0, 1) := by decide +kernel
theorem dX9_ways_6 : decode cX9_ways 6 = .ok (.iload_n 1, 1) := by decide +kernel
theorem dX9_ways_7 : decode cX9_ways 7 = .ok (.invokevirtual 299, 3) := by decide +kernel
theorem dX9_ways_10 : decode cX9_ways 10 = .ok (.ifCond .eq 35, 3) := by decide +kernel
theorem dX9_ways_13 : decode cX9_ways 13 = .ok (.iload_n 2, 1) := by decide +kernel
theorem dX9_ways_14 : decode cX9_ways 14 = .ok (.i2l, 1) := by decide +kernel
theorem dX9_ways_15 : decode cX9_ways 15 = .ok (.lconst 1, 1) := by decide +kernel
theorem dX9_ways_16 : decode cX9_ways 16 = .ok (.ldc2_w 332, 3) := by decide +kernel
theorem dX9_ways_19 : decode cX9_ways 19 = .ok (.invokestatic 261, 3) := by decide +kernel
theorem dX9_ways_22 : decode cX9_ways 22 = .ok (.ifCond .eq 23, 3) := by decide +kernel
theorem dX9_ways_25 : decode cX9_ways 25 = .ok (.iload_n 3, 1) := by decide +kernel
theorem dX9_ways_26 : decode cX9_ways 26 = .ok (.invokestatic 334, 3) := by decide +kernel
theorem dX9_ways_29 : decode cX9_ways 29 = .ok (.ifCond .eq 16, 3) := by decide +kernel
theorem dX9_ways_32 : decode cX9_ways 32 = .ok (.iload 4, 2) := by decide +kernel
theorem dX9_ways_34 : decode cX9_ways 34 = .ok (.i2l, 1) := by decide +kernel
theorem dX9_ways_35 : decode cX9_ways 35 = .ok (.lconst 1, 1) := by decide +kernel
theorem dX9_ways_36 : decode cX9_ways 36 = .ok (.ldc2_w 349, 3) := by decide +kernel
theorem dX9_ways_39 : decode cX9_ways 39 = .ok (.invokestatic 261, 3) := by decide +kernel
theorem dX9_ways_42 : decode cX9_ways 42 = .ok (.ifCond .ne 7, 3) := by decide +kernel
theorem dX9_ways_45 : decode cX9_ways 45 = .ok (.ldc2_w 351, 3) := by decide +kernel
theorem dX9_ways_48 : decode cX9_ways 48 = .ok (.lreturn, 1) := by decide +kernel
theorem dX9_ways_49 : decode cX9_ways 49 = .ok (.aload_n 0, 1) := by decide +kernel
theorem dX9_ways_50 : decode cX9_ways 50 = .ok (.iload_n 1, 1) := by decide +kernel
theorem dX9_ways_51 : decode cX9_ways 51 = .ok (.aload_n 0, 1) := by decide +kernel
theorem dX9_ways_52 : decode cX9_ways 52 = .ok (.getfield 288, 3) := by decide +kernel
theorem dX9_ways_55 : decode cX9_ways 55 = .ok (.invokevirtual 337, 3) := by decide +kernel
theorem dX9_ways_58 : decode cX9_ways 58 = .ok (.aload_n 0, 1) := by decide +kernel
theorem dX9_ways_59 : decode cX9_ways 59 = .ok (.iload 4, 2) := by decide +kernel
theorem dX9_ways_61 : decode cX9_ways 61 = .ok (.iload_n 3, 1) := by decide +kernel
theorem dX9_ways_62 : decode cX9_ways 62 = .ok (.invokevirtual 344, 3) := by decide +kernel
theorem dX9_ways_65 : decode cX9_ways 65 = .ok (.ifCond .ne 5, 3) := by decide +kernel
theorem dX9_ways_68 : decode cX9_ways 68 = .ok (.lconst 0, 1) := by decide +kernel
theorem dX9_ways_69 : decode cX9_ways 69 = .ok (.lreturn, 1) := by decide +kernel
theorem dX9_ways_70 : decode cX9_ways 70 = .ok (.iconst 0, 1) := by decide +kernel
theorem dX9_ways_71 : decode cX9_ways 71 = .ok (.istore 5, 2) := by decide +kernel
theorem dX9_ways_73 : decode cX9_ways 73 = .ok (.iload 5, 2) := by decide +kernel
theorem dX9_ways_75 : decode cX9_ways 75 = .ok (.sipush 200, 3) := by decide +kernel
theorem dX9_ways_78 : decode cX9_ways 78 = .ok (.if_icmp .gt 26, 3) := by decide +kernel
theorem dX9_ways_81 : decode cX9_ways 81 = .ok (.aload_n 0, 1) := by decide +kernel
theorem dX9_ways_82 : decode cX9_ways 82 = .ok (.getfield 75, 3) := by decide +kernel
theorem dX9_ways_85 : decode cX9_ways 85 = .ok (.iload 5, 2) := by decide +kernel
theorem dX9_ways_87 : decode cX9_ways 87 = .ok (.iload 5, 2) := by decide +kernel
theorem dX9_ways_89 : decode cX9_ways 89 = .ok (.ifCond .ne 7, 3) := by decide +kernel
theorem dX9_ways_92 : decode cX9_ways 92 = .ok (.lconst 1, 1) := by decide +kernel
theorem dX9_ways_93 : decode cX9_ways 93 = .ok (.goto 4, 3) := by decide +kernel
theorem dX9_ways_96 : decode cX9_ways 96 = .ok (.lconst 0, 1) := by decide +kernel
theorem dX9_ways_97 : decode cX9_ways 97 = .ok (.lastore, 1) := by decide +kernel
theorem dX9_ways_98 : decode cX9_ways 98 = .ok (.iinc 5 1, 3) := by decide +kernel
theorem dX9_ways_101 : decode cX9_ways 101 = .ok (.goto (-28), 3) := by decide +kernel
theorem dX9_ways_104 : decode cX9_ways 104 = .ok (.iconst 0, 1) := by decide +kernel
theorem dX9_ways_105 : decode cX9_ways 105 = .ok (.istore 5, 2) := by decide +kernel
theorem dX9_ways_107 : decode cX9_ways 107 = .ok (.iload 5, 2) := by decide +kernel
theorem dX9_ways_109 : decode cX9_ways 109 = .ok (.iload 4, 2) := by decide +kernel
theorem dX9_ways_111 : decode cX9_ways 111 = .ok (.if_icmp .ge 126, 3) := by decide +kernel
theorem dX9_ways_114 : decode cX9_ways 114 = .ok (.iconst 0, 1) := by decide +kernel
theorem dX9_ways_115 : decode cX9_ways 115 = .ok (.istore 6, 2) := by decide +kernel
theorem dX9_ways_117 : decode cX9_ways 117 = .ok (.iload 6, 2) := by decide +kernel
theorem dX9_ways_119 : decode cX9_ways 119 = .ok (.iload_n 2, 1) := by decide +kernel
theorem dX9_ways_120 : decode cX9_ways 120 = .ok (.if_icmp .gt 82, 3) := by decide +kernel
theorem dX9_ways_123 : decode cX9_ways 123 = .ok (.aload_n 0, 1) := by decide +kernel
theorem dX9_ways_124 : decode cX9_ways 124 = .ok (.getfield 79, 3) := by decide +kernel
theorem dX9_ways_127 : decode cX9_ways 127 = .ok (.iload 6, 2) := by decide +kernel
theorem dX9_ways_129 : decode cX9_ways 129 = .ok (.lconst 0, 1) := by decide +kernel
theorem dX9_ways_130 : decode cX9_ways 130 = .ok (.lastore, 1) := by decide +kernel
theorem dX9_ways_131 : decode cX9_ways 131 = .ok (.iconst 1, 1) := by decide +kernel
theorem dX9_ways_132 : decode cX9_ways 132 = .ok (.istore 7, 2) := by decide +kernel
theorem dX9_ways_134 : decode cX9_ways 134 = .ok (.iload 7, 2) := by decide +kernel
theorem dX9_ways_136 : decode cX9_ways 136 = .ok (.aload_n 0, 1) := by decide +kernel
theorem dX9_ways_137 : decode cX9_ways 137 = .ok (.getfield 65, 3) := by decide +kernel
theorem dX9_ways_140 : decode cX9_ways 140 = .ok (.if_icmp .gt 56, 3) := by decide +kernel
theorem dX9_ways_143 : decode cX9_ways 143 = .ok (.iload 7, 2) := by decide +kernel
theorem dX9_ways_145 : decode cX9_ways 145 = .ok (.iload 6, 2) := by decide +kernel
theorem dX9_ways_147 : decode cX9_ways 147 = .ok (.if_icmp .gt 49, 3) := by decide +kernel
theorem dX9_ways_150 : decode cX9_ways 150 = .ok (.aload_n 0, 1) := by decide +kernel
theorem dX9_ways_151 : decode cX9_ways 151 = .ok (.iload 7, 2) := by decide +kernel
theorem dX9_ways_153 : decode cX9_ways 153 = .ok (.iload_n 3, 1) := by decide +kernel
theorem dX9_ways_154 : decode cX9_ways 154 = .ok (.invokevirtual 324, 3) := by decide +kernel
theorem dX9_ways_157 : decode cX9_ways 157 = .ok (.ifCond .eq 33, 3) := by decide +kernel
theorem dX9_ways_160 : decode cX9_ways 160 = .ok (.aload_n 0, 1) := by decide +kernel
theorem dX9_ways_161 : decode cX9_ways 161 = .ok (.iload 6, 2) := by decide +kernel
theorem dX9_ways_163 : decode cX9_ways 163 = .ok (.iload_n 3, 1) := by decide +kernel
theorem dX9_ways_164 : decode cX9_ways 164 = .ok (.invokevirtual 327, 3) := by decide +kernel
theorem dX9_ways_167 : decode cX9_ways 167 = .ok (.ifCond .eq 23, 3) := by decide +kernel
theorem dX9_ways_170 : decode cX9_ways 170 = .ok (.aload_n 0, 1) := by decide +kernel
theorem dX9_ways_171 : decode cX9_ways 171 = .ok (.getfield 79, 3) := by decide +kernel
theorem dX9_ways_174 : decode cX9_ways 174 = .ok (.iload 6, 2) := by decide +kernel
theorem dX9_ways_176 : decode cX9_ways 176 = .ok (.dup2, 1) := by decide +kernel
theorem dX9_ways_177 : decode cX9_ways 177 = .ok (.laload, 1) := by decide +kernel
theorem dX9_ways_178 : decode cX9_ways 178 = .ok (.aload_n 0, 1) := by decide +kernel
theorem dX9_ways_179 : decode cX9_ways 179 = .ok (.getfield 75, 3) := by decide +kernel
theorem dX9_ways_182 : decode cX9_ways 182 = .ok (.iload 6, 2) := by decide +kernel
theorem dX9_ways_184 : decode cX9_ways 184 = .ok (.iload 7, 2) := by decide +kernel
theorem dX9_ways_186 : decode cX9_ways 186 = .ok (.isub, 1) := by decide +kernel
theorem dX9_ways_187 : decode cX9_ways 187 = .ok (.laload, 1) := by decide +kernel
theorem dX9_ways_188 : decode cX9_ways 188 = .ok (.ladd, 1) := by decide +kernel
theorem dX9_ways_189 : decode cX9_ways 189 = .ok (.lastore, 1) := by decide +kernel
theorem dX9_ways_190 : decode cX9_ways 190 = .ok (.iinc 7 1, 3) := by decide +kernel
theorem dX9_ways_193 : decode cX9_ways 193 = .ok (.goto (-59), 3) := by decide +kernel
theorem dX9_ways_196 : decode cX9_ways 196 = .ok (.iinc 6 1, 3) := by decide +kernel
theorem dX9_ways_199 : decode cX9_ways 199 = .ok (.goto (-82), 3) := by decide +kernel
theorem dX9_ways_202 : decode cX9_ways 202 = .ok (.iconst 0, 1) := by decide +kernel
theorem dX9_ways_203 : decode cX9_ways 203 = .ok (.istore 6, 2) := by decide +kernel
theorem dX9_ways_205 : decode cX9_ways 205 = .ok (.iload 6, 2) := by decide +kernel
theorem dX9_ways_207 : decode cX9_ways 207 = .ok (.iload_n 2, 1) := by decide +kernel
theorem dX9_ways_208 : decode cX9_ways 208 = .ok (.if_icmp .gt 23, 3) := by decide +kernel
theorem dX9_ways_211 : decode cX9_ways 211 = .ok (.aload_n 0, 1) := by decide +kernel
theorem dX9_ways_212 : decode cX9_ways 212 = .ok (.getfield 75, 3) := by decide +kernel
theorem dX9_ways_215 : decode cX9_ways 215 = .ok (.iload 6, 2) := by decide +kernel
theorem dX9_ways_217 : decode cX9_ways 217 = .ok (.aload_n 0, 1) := by decide +kernel
theorem dX9_ways_218 : decode cX9_ways 218 = .ok (.getfield 79, 3) := by decide +kernel
theorem dX9_ways_221 : decode cX9_ways 221 = .ok (.iload 6, 2) := by decide +kernel
theorem dX9_ways_223 : decode cX9_ways 223 = .ok (.laload, 1) := by decide +kernel
theorem dX9_ways_224 : decode cX9_ways 224 = .ok (.lastore, 1) := by decide +kernel
theorem dX9_ways_225 : decode cX9_ways 225 = .ok (.iinc 6 1, 3) := by decide +kernel
theorem dX9_ways_228 : decode cX9_ways 228 = .ok (.goto (-23), 3) := by decide +kernel
theorem dX9_ways_231 : decode cX9_ways 231 = .ok (.iinc 5 1, 3) := by decide +kernel
theorem dX9_ways_234 : decode cX9_ways 234 = .ok (.goto (-127), 3) := by decide +kernel
theorem dX9_ways_237 : decode cX9_ways 237 = .ok (.aload_n 0, 1) := by decide +kernel
theorem dX9_ways_238 : decode cX9_ways 238 = .ok (.getfield 75, 3) := by decide +kernel
theorem dX9_ways_241 : decode cX9_ways 241 = .ok (.iload_n 2, 1) := by decide +kernel
theorem dX9_ways_242 : decode cX9_ways 242 = .ok (.laload, 1) := by decide +kernel
theorem dX9_ways_243 : decode cX9_ways 243 = .ok (.lreturn, 1) := by decide +kernel
theorem dX9_isPaid_0 : decode cX9_isPaid 0 = .ok (.iconst 1, 1) := by decide +kernel
theorem dX9_isPaid_1 : decode cX9_isPaid 1 = .ok (.istore_n 3, 1) := by decide +kernel
theorem dX9_isPaid_2 : decode cX9_isPaid 2 = .ok (.iload_n 3, 1) := by decide +kernel
theorem dX9_isPaid_3 : decode cX9_isPaid 3 = .ok (.bipush 60, 2) := by decide +kernel
theorem dX9_isPaid_5 : decode cX9_isPaid 5 = .ok (.if_icmp .gt 29, 3) := by decide +kernel
theorem dX9_isPaid_8 : decode cX9_isPaid 8 = .ok (.aload_n 0, 1) := by decide +kernel
theorem dX9_isPaid_9 : decode cX9_isPaid 9 = .ok (.iload_n 3, 1) := by decide +kernel
theorem dX9_isPaid_10 : decode cX9_isPaid 10 = .ok (.iload_n 1, 1) := by decide +kernel
theorem dX9_isPaid_11 : decode cX9_isPaid 11 = .ok (.invokevirtual 321, 3) := by decide +kernel
theorem dX9_isPaid_14 : decode cX9_isPaid 14 = .ok (.ifCond .eq 14, 3) := by decide +kernel
theorem dX9_isPaid_17 : decode cX9_isPaid 17 = .ok (.aload_n 0, 1) := by decide +kernel
theorem dX9_isPaid_18 : decode cX9_isPaid 18 = .ok (.iload_n 3, 1) := by decide +kernel
theorem dX9_isPaid_19 : decode cX9_isPaid 19 = .ok (.iload_n 2, 1) := by decide +kernel
theorem dX9_isPaid_20 : decode cX9_isPaid 20 = .ok (.invokevirtual 344, 3) := by decide +kernel
theorem dX9_isPaid_23 : decode cX9_isPaid 23 = .ok (.ifCond .eq 5, 3) := by decide +kernel
theorem dX9_isPaid_26 : decode cX9_isPaid 26 = .ok (.iconst 1, 1) := by decide +kernel
theorem dX9_isPaid_27 : decode cX9_isPaid 27 = .ok (.ireturn, 1) := by decide +kernel
theorem dX9_isPaid_28 : decode cX9_isPaid 28 = .ok (.iinc 3 1, 3) := by decide +kernel
theorem dX9_isPaid_31 : decode cX9_isPaid 31 = .ok (.goto (-29), 3) := by decide +kernel
theorem dX9_isPaid_34 : decode cX9_isPaid 34 = .ok (.iconst 0, 1) := by decide +kernel
theorem dX9_isPaid_35 : decode cX9_isPaid 35 = .ok (.ireturn, 1) := by decide +kernel
theorem dX9_cant_0 : decode cX9_cant 0 = .ok (.aload_n 0, 1) := by decide +kernel
theorem dX9_cant_1 : decode cX9_cant 1 = .ok (.iconst 0, 1) := by decide +kernel
theorem dX9_cant_2 : decode cX9_cant 2 = .ok (.putfield 128, 3) := by decide +kernel
theorem dX9_cant_5 : decode cX9_cant 5 = .ok (.aload_n 0, 1) := by decide +kernel
theorem dX9_cant_6 : decode cX9_cant 6 = .ok (.iload_n 1, 1) := by decide +kernel
theorem dX9_cant_7 : decode cX9_cant 7 = .ok (.invokevirtual 299, 3) := by decide +kernel
theorem dX9_cant_10 : decode cX9_cant 10 = .ok (.ifCond .eq 15, 3) := by decide +kernel
theorem dX9_cant_13 : decode cX9_cant 13 = .ok (.iload_n 2, 1) := by decide +kernel
theorem dX9_cant_14 : decode cX9_cant 14 = .ok (.invokestatic 334, 3) := by decide +kernel
theorem dX9_cant_17 : decode cX9_cant 17 = .ok (.ifCond .eq 8, 3) := by decide +kernel
theorem dX9_cant_20 : decode cX9_cant 20 = .ok (.iload_n 3, 1) := by decide +kernel
theorem dX9_cant_21 : decode cX9_cant 21 = .ok (.iconst (-1), 1) := by decide +kernel
theorem dX9_cant_22 : decode cX9_cant 22 = .ok (.if_icmp .ge 5, 3) := by decide +kernel
theorem dX9_cant_25 : decode cX9_cant 25 = .ok (.iconst (-1), 1) := by decide +kernel
theorem dX9_cant_26 : decode cX9_cant 26 = .ok (.ireturn, 1) := by decide +kernel
theorem dX9_cant_27 : decode cX9_cant 27 = .ok (.aload_n 0, 1) := by decide +kernel
theorem dX9_cant_28 : decode cX9_cant 28 = .ok (.iload_n 1, 1) := by decide +kernel
theorem dX9_cant_29 : decode cX9_cant 29 = .ok (.aload_n 0, 1) := by decide +kernel
theorem dX9_cant_30 : decode cX9_cant 30 = .ok (.getfield 288, 3) := by decide +kernel
theorem dX9_cant_33 : decode cX9_cant 33 = .ok (.invokevirtual 337, 3) := by decide +kernel
theorem dX9_cant_36 : decode cX9_cant 36 = .ok (.aload_n 0, 1) := by decide +kernel
theorem dX9_cant_37 : decode cX9_cant 37 = .ok (.iload_n 2, 1) := by decide +kernel
theorem dX9_cant_38 : decode cX9_cant 38 = .ok (.invokevirtual 353, 3) := by decide +kernel
theorem dX9_cant_41 : decode cX9_cant 41 = .ok (.iconst 0, 1) := by decide +kernel
theorem dX9_cant_42 : decode cX9_cant 42 = .ok (.istore 4, 2) := by decide +kernel
theorem dX9_cant_44 : decode cX9_cant 44 = .ok (.iconst 1, 1) := by decide +kernel
theorem dX9_cant_45 : decode cX9_cant 45 = .ok (.istore 5, 2) := by decide +kernel
theorem dX9_cant_47 : decode cX9_cant 47 = .ok (.iload 5, 2) := by decide +kernel
theorem dX9_cant_49 : decode cX9_cant 49 = .ok (.sipush 200, 3) := by decide +kernel
theorem dX9_cant_52 : decode cX9_cant 52 = .ok (.if_icmp .gt 34, 3) := by decide +kernel
theorem dX9_cant_55 : decode cX9_cant 55 = .ok (.aload_n 0, 1) := by decide +kernel
theorem dX9_cant_56 : decode cX9_cant 56 = .ok (.iload 5, 2) := by decide +kernel
theorem dX9_cant_58 : decode cX9_cant 58 = .ok (.iload_n 2, 1) := by decide +kernel
theorem dX9_cant_59 : decode cX9_cant 59 = .ok (.invokevirtual 356, 3) := by decide +kernel
theorem dX9_cant_62 : decode cX9_cant 62 = .ok (.ifCond .eq 6, 3) := by decide +kernel
theorem dX9_cant_65 : decode cX9_cant 65 = .ok (.goto 15, 3) := by decide +kernel
theorem dX9_cant_68 : decode cX9_cant 68 = .ok (.iload 4, 2) := by decide +kernel
theorem dX9_cant_70 : decode cX9_cant 70 = .ok (.iload_n 3, 1) := by decide +kernel
theorem dX9_cant_71 : decode cX9_cant 71 = .ok (.if_icmp .ne 6, 3) := by decide +kernel
theorem dX9_cant_74 : decode cX9_cant 74 = .ok (.iload 5, 2) := by decide +kernel
theorem dX9_cant_76 : decode cX9_cant 76 = .ok (.ireturn, 1) := by decide +kernel
theorem dX9_cant_77 : decode cX9_cant 77 = .ok (.iinc 4 1, 3) := by decide +kernel
theorem dX9_cant_80 : decode cX9_cant 80 = .ok (.iinc 5 1, 3) := by decide +kernel
theorem dX9_cant_83 : decode cX9_cant 83 = .ok (.goto (-36), 3) := by decide +kernel
theorem dX9_cant_86 : decode cX9_cant 86 = .ok (.iload_n 3, 1) := by decide +kernel
theorem dX9_cant_87 : decode cX9_cant 87 = .ok (.iconst (-1), 1) := by decide +kernel
theorem dX9_cant_88 : decode cX9_cant 88 = .ok (.if_icmp .ne 8, 3) := by decide +kernel
theorem dX9_cant_91 : decode cX9_cant 91 = .ok (.iload 4, 2) := by decide +kernel
theorem dX9_cant_93 : decode cX9_cant 93 = .ok (.goto 4, 3) := by decide +kernel
theorem dX9_cant_96 : decode cX9_cant 96 = .ok (.iconst (-1), 1) := by decide +kernel
theorem dX9_cant_97 : decode cX9_cant 97 = .ok (.ireturn, 1) := by decide +kernel
theorem dX9_lands_0 : decode cX9_lands 0 = .ok (.iload_n 2, 1) := by decide +kernel
theorem dX9_lands_1 : decode cX9_lands 1 = .ok (.ifCond .ne 13, 3) := by decide +kernel
theorem dX9_lands_4 : decode cX9_lands 4 = .ok (.iload_n 1, 1) := by decide +kernel
theorem dX9_lands_5 : decode cX9_lands 5 = .ok (.ifCond .ne 7, 3) := by decide +kernel
theorem dX9_lands_8 : decode cX9_lands 8 = .ok (.iconst 1, 1) := by decide +kernel
theorem dX9_lands_9 : decode cX9_lands 9 = .ok (.goto 4, 3) := by decide +kernel
theorem dX9_lands_12 : decode cX9_lands 12 = .ok (.iconst 0, 1) := by decide +kernel
theorem dX9_lands_13 : decode cX9_lands 13 = .ok (.ireturn, 1) := by decide +kernel
theorem dX9_lands_14 : decode cX9_lands 14 = .ok (.iload_n 3, 1) := by decide +kernel
theorem dX9_lands_15 : decode cX9_lands 15 = .ok (.iload_n 1, 1) := by decide +kernel
theorem dX9_lands_16 : decode cX9_lands 16 = .ok (.invokestatic 347, 3) := by decide +kernel
theorem dX9_lands_19 : decode cX9_lands 19 = .ok (.istore 4, 2) := by decide +kernel
theorem dX9_lands_21 : decode cX9_lands 21 = .ok (.iload 4, 2) := by decide +kernel
theorem dX9_lands_23 : decode cX9_lands 23 = .ok (.ifCond .le 45, 3) := by decide +kernel
theorem dX9_lands_26 : decode cX9_lands 26 = .ok (.iload 4, 2) := by decide +kernel
theorem dX9_lands_28 : decode cX9_lands 28 = .ok (.iload_n 2, 1) := by decide +kernel
theorem dX9_lands_29 : decode cX9_lands 29 = .ok (.imul, 1) := by decide +kernel
theorem dX9_lands_30 : decode cX9_lands 30 = .ok (.iload_n 1, 1) := by decide +kernel
theorem dX9_lands_31 : decode cX9_lands 31 = .ok (.if_icmp .lt 37, 3) := by decide +kernel
theorem dX9_lands_34 : decode cX9_lands 34 = .ok (.aload_n 0, 1) := by decide +kernel
theorem dX9_lands_35 : decode cX9_lands 35 = .ok (.getfield 68, 3) := by decide +kernel
theorem dX9_lands_38 : decode cX9_lands 38 = .ok (.iload 4, 2) := by decide +kernel
theorem dX9_lands_40 : decode cX9_lands 40 = .ok (.baload, 1) := by decide +kernel
theorem dX9_lands_41 : decode cX9_lands 41 = .ok (.ifCond .ne 21, 3) := by decide +kernel
theorem dX9_lands_44 : decode cX9_lands 44 = .ok (.aload_n 0, 1) := by decide +kernel
theorem dX9_lands_45 : decode cX9_lands 45 = .ok (.iload_n 1, 1) := by decide +kernel
theorem dX9_lands_46 : decode cX9_lands 46 = .ok (.iload 4, 2) := by decide +kernel
theorem dX9_lands_48 : decode cX9_lands 48 = .ok (.isub, 1) := by decide +kernel
theorem dX9_lands_49 : decode cX9_lands 49 = .ok (.iload_n 2, 1) := by decide +kernel
theorem dX9_lands_50 : decode cX9_lands 50 = .ok (.iconst 1, 1) := by decide +kernel
theorem dX9_lands_51 : decode cX9_lands 51 = .ok (.isub, 1) := by decide +kernel
theorem dX9_lands_52 : decode cX9_lands 52 = .ok (.iload 4, 2) := by decide +kernel
theorem dX9_lands_54 : decode cX9_lands 54 = .ok (.invokevirtual 359, 3) := by decide +kernel
theorem dX9_lands_57 : decode cX9_lands 57 = .ok (.ifCond .eq 5, 3) := by decide +kernel
theorem dX9_lands_60 : decode cX9_lands 60 = .ok (.iconst 1, 1) := by decide +kernel
theorem dX9_lands_61 : decode cX9_lands 61 = .ok (.ireturn, 1) := by decide +kernel
theorem dX9_lands_62 : decode cX9_lands 62 = .ok (.iinc 4 (-1), 3) := by decide +kernel
theorem dX9_lands_65 : decode cX9_lands 65 = .ok (.goto (-44), 3) := by decide +kernel
theorem dX9_lands_68 : decode cX9_lands 68 = .ok (.iconst 0, 1) := by decide +kernel
theorem dX9_lands_69 : decode cX9_lands 69 = .ok (.ireturn, 1) := by decide +kernel
theorem dX9_family_0 : decode cX9_family 0 = .ok (.aload_n 0, 1) := by decide +kernel
theorem dX9_family_1 : decode cX9_family 1 = .ok (.iconst 0, 1) := by decide +kernel
theorem dX9_family_2 : decode cX9_family 2 = .ok (.putfield 128, 3) := by decide +kernel
theorem dX9_family_5 : decode cX9_family 5 = .ok (.aload_n 0, 1) := by decide +kernel
theorem dX9_family_6 : decode cX9_family 6 = .ok (.iload_n 1, 1) := by decide +kernel
theorem dX9_family_7 : decode cX9_family 7 = .ok (.invokevirtual 299, 3) := by decide +kernel
theorem dX9_family_10 : decode cX9_family 10 = .ok (.ifCond .eq 20, 3) := by decide +kernel
theorem dX9_family_13 : decode cX9_family 13 = .ok (.iload_n 2, 1) := by decide +kernel
theorem dX9_family_14 : decode cX9_family 14 = .ok (.i2l, 1) := by decide +kernel
theorem dX9_family_15 : decode cX9_family 15 = .ok (.lconst 1, 1) := by decide +kernel
theorem dX9_family_16 : decode cX9_family 16 = .ok (.ldc2_w 362, 3) := by decide +kernel
theorem dX9_family_19 : decode cX9_family 19 = .ok (.invokestatic 261, 3) := by decide +kernel
theorem dX9_family_22 : decode cX9_family 22 = .ok (.ifCond .eq 8, 3) := by decide +kernel
theorem dX9_family_25 : decode cX9_family 25 = .ok (.iload_n 3, 1) := by decide +kernel
theorem dX9_family_26 : decode cX9_family 26 = .ok (.iconst (-1), 1) := by decide +kernel
theorem dX9_family_27 : decode cX9_family 27 = .ok (.if_icmp .ge 5, 3) := by decide +kernel
theorem dX9_family_30 : decode cX9_family 30 = .ok (.iconst (-1), 1) := by decide +kernel
theorem dX9_family_31 : decode cX9_family 31 = .ok (.ireturn, 1) := by decide +kernel
theorem dX9_family_32 : decode cX9_family 32 = .ok (.aload_n 0, 1) := by decide +kernel
theorem dX9_family_33 : decode cX9_family 33 = .ok (.iload_n 1, 1) := by decide +kernel
theorem dX9_family_34 : decode cX9_family 34 = .ok (.aload_n 0, 1) := by decide +kernel
theorem dX9_family_35 : decode cX9_family 35 = .ok (.getfield 288, 3) := by decide +kernel
theorem dX9_family_38 : decode cX9_family 38 = .ok (.invokevirtual 337, 3) := by decide +kernel
theorem dX9_family_41 : decode cX9_family 41 = .ok (.iconst 1, 1) := by decide +kernel
theorem dX9_family_42 : decode cX9_family 42 = .ok (.istore 4, 2) := by decide +kernel
theorem dX9_family_44 : decode cX9_family 44 = .ok (.iload 4, 2) := by decide +kernel
theorem dX9_family_46 : decode cX9_family 46 = .ok (.iload_n 2, 1) := by decide +kernel
theorem dX9_family_47 : decode cX9_family 47 = .ok (.if_icmp .gt 126, 3) := by decide +kernel
theorem dX9_family_50 : decode cX9_family 50 = .ok (.aload_n 0, 1) := by decide +kernel
theorem dX9_family_51 : decode cX9_family 51 = .ok (.getfield 68, 3) := by decide +kernel
theorem dX9_family_54 : decode cX9_family 54 = .ok (.iload 4, 2) := by decide +kernel
theorem dX9_family_56 : decode cX9_family 56 = .ok (.baload, 1) := by decide +kernel
theorem dX9_family_57 : decode cX9_family 57 = .ok (.ifCond .ne 110, 3) := by decide +kernel
theorem dX9_family_60 : decode cX9_family 60 = .ok (.aload_n 0, 1) := by decide +kernel
theorem dX9_family_61 : decode cX9_family 61 = .ok (.iload_n 2, 1) := by decide +kernel
theorem dX9_family_62 : decode cX9_family 62 = .ok (.iload 4, 2) := by decide +kernel
theorem dX9_family_64 : decode cX9_family 64 = .ok (.iload_n 2, 1) := by decide +kernel
theorem dX9_family_65 : decode cX9_family 65 = .ok (.invokevirtual 359, 3) := by decide +kernel
theorem dX9_family_68 : decode cX9_family 68 = .ok (.ifCond .ne 6, 3) := by decide +kernel
theorem dX9_family_71 : decode cX9_family 71 = .ok (.goto 96, 3) := by decide +kernel
theorem dX9_family_74 : decode cX9_family 74 = .ok (.iload_n 3, 1) := by decide +kernel
theorem dX9_family_75 : decode cX9_family 75 = .ok (.iconst (-1), 1) := by decide +kernel
theorem dX9_family_76 : decode cX9_family 76 = .ok (.if_icmp .ne 6, 3) := by decide +kernel
theorem dX9_family_79 : decode cX9_family 79 = .ok (.iload 4, 2) := by decide +kernel
theorem dX9_family_81 : decode cX9_family 81 = .ok (.ireturn, 1) := by decide +kernel
theorem dX9_family_82 : decode cX9_family 82 = .ok (.iload_n 3, 1) := by decide +kernel
theorem dX9_family_83 : decode cX9_family 83 = .ok (.iload 4, 2) := by decide +kernel
theorem dX9_family_85 : decode cX9_family 85 = .ok (.if_icmp .lt 5, 3) := by decide +kernel
theorem dX9_family_88 : decode cX9_family 88 = .ok (.iconst (-1), 1) := by decide +kernel
theorem dX9_family_89 : decode cX9_family 89 = .ok (.ireturn, 1) := by decide +kernel
theorem dX9_family_90 : decode cX9_family 90 = .ok (.iload_n 2, 1) := by decide +kernel
theorem dX9_family_91 : decode cX9_family 91 = .ok (.istore 5, 2) := by decide +kernel
theorem dX9_family_93 : decode cX9_family 93 = .ok (.iload_n 2, 1) := by decide +kernel
theorem dX9_family_94 : decode cX9_family 94 = .ok (.istore 6, 2) := by decide +kernel
theorem dX9_family_96 : decode cX9_family 96 = .ok (.iconst 0, 1) := by decide +kernel
theorem dX9_family_97 : decode cX9_family 97 = .ok (.istore 7, 2) := by decide +kernel
theorem dX9_family_99 : decode cX9_family 99 = .ok (.iload 7, 2) := by decide +kernel
theorem dX9_family_101 : decode cX9_family 101 = .ok (.iload_n 3, 1) := by decide +kernel
theorem dX9_family_102 : decode cX9_family 102 = .ok (.if_icmp .gt 62, 3) := by decide +kernel
theorem dX9_family_105 : decode cX9_family 105 = .ok (.iload 6, 2) := by decide +kernel
theorem dX9_family_107 : decode cX9_family 107 = .ok (.iload 5, 2) := by decide +kernel
theorem dX9_family_109 : decode cX9_family 109 = .ok (.invokestatic 347, 3) := by decide +kernel
theorem dX9_family_112 : decode cX9_family 112 = .ok (.istore 6, 2) := by decide +kernel
theorem dX9_family_114 : decode cX9_family 114 = .ok (.aload_n 0, 1) := by decide +kernel
theorem dX9_family_115 : decode cX9_family 115 = .ok (.getfield 68, 3) := by decide +kernel
theorem dX9_family_118 : decode cX9_family 118 = .ok (.iload 6, 2) := by decide +kernel
theorem dX9_family_120 : decode cX9_family 120 = .ok (.baload, 1) := by decide +kernel
theorem dX9_family_121 : decode cX9_family 121 = .ok (.ifCond .ne 24, 3) := by decide +kernel
theorem dX9_family_124 : decode cX9_family 124 = .ok (.aload_n 0, 1) := by decide +kernel
theorem dX9_family_125 : decode cX9_family 125 = .ok (.iload 5, 2) := by decide +kernel
theorem dX9_family_127 : decode cX9_family 127 = .ok (.iload 6, 2) := by decide +kernel
theorem dX9_family_129 : decode cX9_family 129 = .ok (.isub, 1) := by decide +kernel
theorem dX9_family_130 : decode cX9_family 130 = .ok (.iload 4, 2) := by decide +kernel
theorem dX9_family_132 : decode cX9_family 132 = .ok (.iload 7, 2) := by decide +kernel
theorem dX9_family_134 : decode cX9_family 134 = .ok (.isub, 1) := by decide +kernel
theorem dX9_family_135 : decode cX9_family 135 = .ok (.iconst 1, 1) := by decide +kernel
theorem dX9_family_136 : decode cX9_family 136 = .ok (.isub, 1) := by decide +kernel
theorem dX9_family_137 : decode cX9_family 137 = .ok (.iload 6, 2) := by decide +kernel
theorem dX9_family_139 : decode cX9_family 139 = .ok (.invokevirtual 359, 3) := by decide +kernel
theorem dX9_family_142 : decode cX9_family 142 = .ok (.ifCond .ne 9, 3) := by decide +kernel
theorem dX9_family_145 : decode cX9_family 145 = .ok (.iinc 6 (-1), 3) := by decide +kernel
theorem dX9_family_148 : decode cX9_family 148 = .ok (.goto (-34), 3) := by decide +kernel
theorem dX9_family_151 : decode cX9_family 151 = .ok (.iload 5, 2) := by decide +kernel
theorem dX9_family_153 : decode cX9_family 153 = .ok (.iload 6, 2) := by decide +kernel
theorem dX9_family_155 : decode cX9_family 155 = .ok (.isub, 1) := by decide +kernel
theorem dX9_family_156 : decode cX9_family 156 = .ok (.istore 5, 2) := by decide +kernel
theorem dX9_family_158 : decode cX9_family 158 = .ok (.iinc 7 1, 3) := by decide +kernel
theorem dX9_family_161 : decode cX9_family 161 = .ok (.goto (-62), 3) := by decide +kernel
theorem dX9_family_164 : decode cX9_family 164 = .ok (.iload 6, 2) := by decide +kernel
theorem dX9_family_166 : decode cX9_family 166 = .ok (.ireturn, 1) := by decide +kernel
theorem dX9_family_167 : decode cX9_family 167 = .ok (.iinc 4 1, 3) := by decide +kernel
theorem dX9_family_170 : decode cX9_family 170 = .ok (.goto (-126), 3) := by decide +kernel
theorem dX9_family_173 : decode cX9_family 173 = .ok (.iconst (-1), 1) := by decide +kernel
theorem dX9_family_174 : decode cX9_family 174 = .ok (.ireturn, 1) := by decide +kernel
theorem dX9_splitsOf_0 : decode cX9_splitsOf 0 = .ok (.iload_n 1, 1) := by decide +kernel
theorem dX9_splitsOf_1 : decode cX9_splitsOf 1 = .ok (.ifCond .ne 18, 3) := by decide +kernel
theorem dX9_splitsOf_4 : decode cX9_splitsOf 4 = .ok (.aload_n 0, 1) := by decide +kernel
theorem dX9_splitsOf_5 : decode cX9_splitsOf 5 = .ok (.getfield 68, 3) := by decide +kernel
theorem dX9_splitsOf_8 : decode cX9_splitsOf 8 = .ok (.iload_n 2, 1) := by decide +kernel
theorem dX9_splitsOf_9 : decode cX9_splitsOf 9 = .ok (.baload, 1) := by decide +kernel
theorem dX9_splitsOf_10 : decode cX9_splitsOf 10 = .ok (.ifCond .eq 7, 3) := by decide +kernel
theorem dX9_splitsOf_13 : decode cX9_splitsOf 13 = .ok (.iconst 0, 1) := by decide +kernel
theorem dX9_splitsOf_14 : decode cX9_splitsOf 14 = .ok (.goto 4, 3) := by decide +kernel
theorem dX9_splitsOf_17 : decode cX9_splitsOf 17 = .ok (.iconst 1, 1) := by decide +kernel
theorem dX9_splitsOf_18 : decode cX9_splitsOf 18 = .ok (.ireturn, 1) := by decide +kernel
theorem dX9_splitsOf_19 : decode cX9_splitsOf 19 = .ok (.iconst 0, 1) := by decide +kernel
theorem dX9_splitsOf_20 : decode cX9_splitsOf 20 = .ok (.istore 4, 2) := by decide +kernel
theorem dX9_splitsOf_22 : decode cX9_splitsOf 22 = .ok (.iload_n 3, 1) := by decide +kernel
theorem dX9_splitsOf_23 : decode cX9_splitsOf 23 = .ok (.iload_n 1, 1) := by decide +kernel
theorem dX9_splitsOf_24 : decode cX9_splitsOf 24 = .ok (.invokestatic 347, 3) := by decide +kernel
theorem dX9_splitsOf_27 : decode cX9_splitsOf 27 = .ok (.istore 5, 2) := by decide +kernel
theorem dX9_splitsOf_29 : decode cX9_splitsOf 29 = .ok (.iload 5, 2) := by decide +kernel
theorem dX9_splitsOf_31 : decode cX9_splitsOf 31 = .ok (.ifCond .le 37, 3) := by decide +kernel
theorem dX9_splitsOf_34 : decode cX9_splitsOf 34 = .ok (.aload_n 0, 1) := by decide +kernel
theorem dX9_splitsOf_35 : decode cX9_splitsOf 35 = .ok (.getfield 68, 3) := by decide +kernel
theorem dX9_splitsOf_38 : decode cX9_splitsOf 38 = .ok (.iload 5, 2) := by decide +kernel
theorem dX9_splitsOf_40 : decode cX9_splitsOf 40 = .ok (.baload, 1) := by decide +kernel
theorem dX9_splitsOf_41 : decode cX9_splitsOf 41 = .ok (.ifCond .ne 21, 3) := by decide +kernel
theorem dX9_splitsOf_44 : decode cX9_splitsOf 44 = .ok (.iload 4, 2) := by decide +kernel
theorem dX9_splitsOf_46 : decode cX9_splitsOf 46 = .ok (.aload_n 0, 1) := by decide +kernel
theorem dX9_splitsOf_47 : decode cX9_splitsOf 47 = .ok (.iload_n 1, 1) := by decide +kernel
theorem dX9_splitsOf_48 : decode cX9_splitsOf 48 = .ok (.iload 5, 2) := by decide +kernel
theorem dX9_splitsOf_50 : decode cX9_splitsOf 50 = .ok (.isub, 1) := by decide +kernel
theorem dX9_splitsOf_51 : decode cX9_splitsOf 51 = .ok (.iload_n 2, 1) := by decide +kernel
theorem dX9_splitsOf_52 : decode cX9_splitsOf 52 = .ok (.iconst 1, 1) := by decide +kernel
theorem dX9_splitsOf_53 : decode cX9_splitsOf 53 = .ok (.iadd, 1) := by decide +kernel
theorem dX9_splitsOf_54 : decode cX9_splitsOf 54 = .ok (.iload 5, 2) := by decide +kernel
theorem dX9_splitsOf_56 : decode cX9_splitsOf 56 = .ok (.invokevirtual 364, 3) := by decide +kernel
theorem dX9_splitsOf_59 : decode cX9_splitsOf 59 = .ok (.iadd, 1) := by decide +kernel
theorem dX9_splitsOf_60 : decode cX9_splitsOf 60 = .ok (.istore 4, 2) := by decide +kernel
theorem dX9_splitsOf_62 : decode cX9_splitsOf 62 = .ok (.iinc 5 (-1), 3) := by decide +kernel
theorem dX9_splitsOf_65 : decode cX9_splitsOf 65 = .ok (.goto (-36), 3) := by decide +kernel
theorem dX9_splitsOf_68 : decode cX9_splitsOf 68 = .ok (.iload 4, 2) := by decide +kernel
theorem dX9_splitsOf_70 : decode cX9_splitsOf 70 = .ok (.ireturn, 1) := by decide +kernel
theorem dX9_splits_0 : decode cX9_splits 0 = .ok (.aload_n 0, 1) := by decide +kernel
theorem dX9_splits_1 : decode cX9_splits 1 = .ok (.iconst 0, 1) := by decide +kernel
theorem dX9_splits_2 : decode cX9_splits 2 = .ok (.putfield 128, 3) := by decide +kernel
theorem dX9_splits_5 : decode cX9_splits 5 = .ok (.aload_n 0, 1) := by decide +kernel
theorem dX9_splits_6 : decode cX9_splits 6 = .ok (.iload_n 1, 1) := by decide +kernel
theorem dX9_splits_7 : decode cX9_splits 7 = .ok (.invokevirtual 299, 3) := by decide +kernel
theorem dX9_splits_10 : decode cX9_splits 10 = .ok (.ifCond .eq 15, 3) := by decide +kernel
theorem dX9_splits_13 : decode cX9_splits 13 = .ok (.iload_n 2, 1) := by decide +kernel
theorem dX9_splits_14 : decode cX9_splits 14 = .ok (.i2l, 1) := by decide +kernel
theorem dX9_splits_15 : decode cX9_splits 15 = .ok (.lconst 1, 1) := by decide +kernel
theorem dX9_splits_16 : decode cX9_splits 16 = .ok (.ldc2_w 362, 3) := by decide +kernel
theorem dX9_splits_19 : decode cX9_splits 19 = .ok (.invokestatic 261, 3) := by decide +kernel
theorem dX9_splits_22 : decode cX9_splits 22 = .ok (.ifCond .ne 5, 3) := by decide +kernel
theorem dX9_splits_25 : decode cX9_splits 25 = .ok (.iconst (-1), 1) := by decide +kernel
theorem dX9_splits_26 : decode cX9_splits 26 = .ok (.ireturn, 1) := by decide +kernel
theorem dX9_splits_27 : decode cX9_splits 27 = .ok (.aload_n 0, 1) := by decide +kernel
theorem dX9_splits_28 : decode cX9_splits 28 = .ok (.iload_n 1, 1) := by decide +kernel
theorem dX9_splits_29 : decode cX9_splits 29 = .ok (.aload_n 0, 1) := by decide +kernel
theorem dX9_splits_30 : decode cX9_splits 30 = .ok (.getfield 288, 3) := by decide +kernel
theorem dX9_splits_33 : decode cX9_splits 33 = .ok (.invokevirtual 337, 3) := by decide +kernel
theorem dX9_splits_36 : decode cX9_splits 36 = .ok (.aload_n 0, 1) := by decide +kernel
theorem dX9_splits_37 : decode cX9_splits 37 = .ok (.iload_n 2, 1) := by decide +kernel
theorem dX9_splits_38 : decode cX9_splits 38 = .ok (.iconst 0, 1) := by decide +kernel
theorem dX9_splits_39 : decode cX9_splits 39 = .ok (.iload_n 2, 1) := by decide +kernel
theorem dX9_splits_40 : decode cX9_splits 40 = .ok (.invokevirtual 364, 3) := by decide +kernel
theorem dX9_splits_43 : decode cX9_splits 43 = .ok (.ireturn, 1) := by decide +kernel
theorem dX9_date_0 : decode cX9_date 0 = .ok (.aload_n 0, 1) := by decide +kernel
theorem dX9_date_1 : decode cX9_date 1 = .ok (.iconst 0, 1) := by decide +kernel
theorem dX9_date_2 : decode cX9_date 2 = .ok (.putfield 128, 3) := by decide +kernel
theorem dX9_date_5 : decode cX9_date 5 = .ok (.aload_n 0, 1) := by decide +kernel
theorem dX9_date_6 : decode cX9_date 6 = .ok (.iload_n 1, 1) := by decide +kernel
theorem dX9_date_7 : decode cX9_date 7 = .ok (.invokevirtual 299, 3) := by decide +kernel
theorem dX9_date_10 : decode cX9_date 10 = .ok (.ifCond .eq 20, 3) := by decide +kernel
theorem dX9_date_13 : decode cX9_date 13 = .ok (.iload_n 2, 1) := by decide +kernel
theorem dX9_date_14 : decode cX9_date 14 = .ok (.iconst (-1), 1) := by decide +kernel
theorem dX9_date_15 : decode cX9_date 15 = .ok (.if_icmp .eq 17, 3) := by decide +kernel
theorem dX9_date_18 : decode cX9_date 18 = .ok (.iload_n 2, 1) := by decide +kernel
theorem dX9_date_19 : decode cX9_date 19 = .ok (.i2l, 1) := by decide +kernel
theorem dX9_date_20 : decode cX9_date 20 = .ok (.lconst 1, 1) := by decide +kernel
theorem dX9_date_21 : decode cX9_date 21 = .ok (.ldc2_w 362, 3) := by decide +kernel
theorem dX9_date_24 : decode cX9_date 24 = .ok (.invokestatic 261, 3) := by decide +kernel
theorem dX9_date_27 : decode cX9_date 27 = .ok (.ifCond .ne 5, 3) := by decide +kernel
theorem dX9_date_30 : decode cX9_date 30 = .ok (.iconst (-1), 1) := by decide +kernel
theorem dX9_date_31 : decode cX9_date 31 = .ok (.ireturn, 1) := by decide +kernel
theorem dX9_date_32 : decode cX9_date 32 = .ok (.iconst 0, 1) := by decide +kernel
theorem dX9_date_33 : decode cX9_date 33 = .ok (.istore_n 3, 1) := by decide +kernel
theorem dX9_date_34 : decode cX9_date 34 = .ok (.iconst 1, 1) := by decide +kernel
theorem dX9_date_35 : decode cX9_date 35 = .ok (.istore 4, 2) := by decide +kernel
theorem dX9_date_37 : decode cX9_date 37 = .ok (.iload 4, 2) := by decide +kernel
theorem dX9_date_39 : decode cX9_date 39 = .ok (.bipush 30, 2) := by decide +kernel
theorem dX9_date_41 : decode cX9_date 41 = .ok (.if_icmp .gt 37, 3) := by decide +kernel
theorem dX9_date_44 : decode cX9_date 44 = .ok (.aload_n 0, 1) := by decide +kernel
theorem dX9_date_45 : decode cX9_date 45 = .ok (.iload_n 1, 1) := by decide +kernel
theorem dX9_date_46 : decode cX9_date 46 = .ok (.iload 4, 2) := by decide +kernel
theorem dX9_date_48 : decode cX9_date 48 = .ok (.aload_n 0, 1) := by decide +kernel
theorem dX9_date_49 : decode cX9_date 49 = .ok (.getfield 288, 3) := by decide +kernel
theorem dX9_date_52 : decode cX9_date 52 = .ok (.invokevirtual 311, 3) := by decide +kernel
theorem dX9_date_55 : decode cX9_date 55 = .ok (.ifCond .eq 6, 3) := by decide +kernel
theorem dX9_date_58 : decode cX9_date 58 = .ok (.goto 14, 3) := by decide +kernel
theorem dX9_date_61 : decode cX9_date 61 = .ok (.iinc 3 1, 3) := by decide +kernel
theorem dX9_date_64 : decode cX9_date 64 = .ok (.iload_n 3, 1) := by decide +kernel
theorem dX9_date_65 : decode cX9_date 65 = .ok (.iload_n 2, 1) := by decide +kernel
theorem dX9_date_66 : decode cX9_date 66 = .ok (.if_icmp .ne 6, 3) := by decide +kernel
theorem dX9_date_69 : decode cX9_date 69 = .ok (.iload 4, 2) := by decide +kernel
theorem dX9_date_71 : decode cX9_date 71 = .ok (.ireturn, 1) := by decide +kernel
theorem dX9_date_72 : decode cX9_date 72 = .ok (.iinc 4 1, 3) := by decide +kernel
theorem dX9_date_75 : decode cX9_date 75 = .ok (.goto (-38), 3) := by decide +kernel
theorem dX9_date_78 : decode cX9_date 78 = .ok (.iload_n 2, 1) := by decide +kernel
theorem dX9_date_79 : decode cX9_date 79 = .ok (.iconst (-1), 1) := by decide +kernel
theorem dX9_date_80 : decode cX9_date 80 = .ok (.if_icmp .ne 7, 3) := by decide +kernel
theorem dX9_date_83 : decode cX9_date 83 = .ok (.iload_n 3, 1) := by decide +kernel
theorem dX9_date_84 : decode cX9_date 84 = .ok (.goto 4, 3) := by decide +kernel
theorem dX9_date_87 : decode cX9_date 87 = .ok (.iconst (-1), 1) := by decide +kernel
theorem dX9_date_88 : decode cX9_date 88 = .ok (.ireturn, 1) := by decide +kernel
theorem dX9_debt_0 : decode cX9_debt 0 = .ok (.aload_n 0, 1) := by decide +kernel
theorem dX9_debt_1 : decode cX9_debt 1 = .ok (.iconst 0, 1) := by decide +kernel
theorem dX9_debt_2 : decode cX9_debt 2 = .ok (.putfield 128, 3) := by decide +kernel
theorem dX9_debt_5 : decode cX9_debt 5 = .ok (.aload_n 0, 1) := by decide +kernel
theorem dX9_debt_6 : decode cX9_debt 6 = .ok (.iload_n 1, 1) := by decide +kernel
theorem dX9_debt_7 : decode cX9_debt 7 = .ok (.invokevirtual 299, 3) := by decide +kernel
theorem dX9_debt_10 : decode cX9_debt 10 = .ok (.ifCond .eq 25, 3) := by decide +kernel
theorem dX9_debt_13 : decode cX9_debt 13 = .ok (.iload_n 2, 1) := by decide +kernel
theorem dX9_debt_14 : decode cX9_debt 14 = .ok (.i2l, 1) := by decide +kernel
theorem dX9_debt_15 : decode cX9_debt 15 = .ok (.lconst 1, 1) := by decide +kernel
theorem dX9_debt_16 : decode cX9_debt 16 = .ok (.ldc2_w 362, 3) := by decide +kernel
theorem dX9_debt_19 : decode cX9_debt 19 = .ok (.invokestatic 261, 3) := by decide +kernel
theorem dX9_debt_22 : decode cX9_debt 22 = .ok (.ifCond .eq 13, 3) := by decide +kernel
theorem dX9_debt_25 : decode cX9_debt 25 = .ok (.iload_n 3, 1) := by decide +kernel
theorem dX9_debt_26 : decode cX9_debt 26 = .ok (.i2l, 1) := by decide +kernel
theorem dX9_debt_27 : decode cX9_debt 27 = .ok (.lconst 0, 1) := by decide +kernel
theorem dX9_debt_28 : decode cX9_debt 28 = .ok (.lconst 1, 1) := by decide +kernel
theorem dX9_debt_29 : decode cX9_debt 29 = .ok (.invokestatic 261, 3) := by decide +kernel
theorem dX9_debt_32 : decode cX9_debt 32 = .ok (.ifCond .ne 5, 3) := by decide +kernel
theorem dX9_debt_35 : decode cX9_debt 35 = .ok (.iconst (-1), 1) := by decide +kernel
theorem dX9_debt_36 : decode cX9_debt 36 = .ok (.ireturn, 1) := by decide +kernel
theorem dX9_debt_37 : decode cX9_debt 37 = .ok (.iconst 0, 1) := by decide +kernel
theorem dX9_debt_38 : decode cX9_debt 38 = .ok (.istore 4, 2) := by decide +kernel
theorem dX9_debt_40 : decode cX9_debt 40 = .ok (.iload 4, 2) := by decide +kernel
theorem dX9_debt_42 : decode cX9_debt 42 = .ok (.bipush 30, 2) := by decide +kernel
theorem dX9_debt_44 : decode cX9_debt 44 = .ok (.if_icmp .ge 57, 3) := by decide +kernel
theorem dX9_debt_47 : decode cX9_debt 47 = .ok (.iload_n 2, 1) := by decide +kernel
theorem dX9_debt_48 : decode cX9_debt 48 = .ok (.iconst 1, 1) := by decide +kernel
theorem dX9_debt_49 : decode cX9_debt 49 = .ok (.isub, 1) := by decide +kernel
theorem dX9_debt_50 : decode cX9_debt 50 = .ok (.iload 4, 2) := by decide +kernel
theorem dX9_debt_52 : decode cX9_debt 52 = .ok (.iadd, 1) := by decide +kernel
theorem dX9_debt_53 : decode cX9_debt 53 = .ok (.bipush 30, 2) := by decide +kernel
theorem dX9_debt_55 : decode cX9_debt 55 = .ok (.irem, 1) := by decide +kernel
theorem dX9_debt_56 : decode cX9_debt 56 = .ok (.iconst 1, 1) := by decide +kernel
theorem dX9_debt_57 : decode cX9_debt 57 = .ok (.iadd, 1) := by decide +kernel
theorem dX9_debt_58 : decode cX9_debt 58 = .ok (.istore 5, 2) := by decide +kernel
theorem dX9_debt_60 : decode cX9_debt 60 = .ok (.aload_n 0, 1) := by decide +kernel
theorem dX9_debt_61 : decode cX9_debt 61 = .ok (.iload_n 1, 1) := by decide +kernel
theorem dX9_debt_62 : decode cX9_debt 62 = .ok (.iload 5, 2) := by decide +kernel
theorem dX9_debt_64 : decode cX9_debt 64 = .ok (.aload_n 0, 1) := by decide +kernel
theorem dX9_debt_65 : decode cX9_debt 65 = .ok (.getfield 288, 3) := by decide +kernel
theorem dX9_debt_68 : decode cX9_debt 68 = .ok (.invokevirtual 311, 3) := by decide +kernel
theorem dX9_debt_71 : decode cX9_debt 71 = .ok (.ifCond .ne 24, 3) := by decide +kernel
theorem dX9_debt_74 : decode cX9_debt 74 = .ok (.iload_n 3, 1) := by decide +kernel
theorem dX9_debt_75 : decode cX9_debt 75 = .ok (.ifCond .ne 8, 3) := by decide +kernel
theorem dX9_debt_78 : decode cX9_debt 78 = .ok (.iload 5, 2) := by decide +kernel
theorem dX9_debt_80 : decode cX9_debt 80 = .ok (.goto 14, 3) := by decide +kernel
theorem dX9_debt_83 : decode cX9_debt 83 = .ok (.iload 5, 2) := by decide +kernel
theorem dX9_debt_85 : decode cX9_debt 85 = .ok (.iload_n 2, 1) := by decide +kernel
theorem dX9_debt_86 : decode cX9_debt 86 = .ok (.if_icmp .ge 7, 3) := by decide +kernel
theorem dX9_debt_89 : decode cX9_debt 89 = .ok (.iconst 1, 1) := by decide +kernel
theorem dX9_debt_90 : decode cX9_debt 90 = .ok (.goto 4, 3) := by decide +kernel
theorem dX9_debt_93 : decode cX9_debt 93 = .ok (.iconst 0, 1) := by decide +kernel
theorem dX9_debt_94 : decode cX9_debt 94 = .ok (.ireturn, 1) := by decide +kernel
theorem dX9_debt_95 : decode cX9_debt 95 = .ok (.iinc 4 1, 3) := by decide +kernel
theorem dX9_debt_98 : decode cX9_debt 98 = .ok (.goto (-58), 3) := by decide +kernel
theorem dX9_debt_101 : decode cX9_debt 101 = .ok (.iconst (-1), 1) := by decide +kernel
theorem dX9_debt_102 : decode cX9_debt 102 = .ok (.ireturn, 1) := by decide +kernel
theorem dX9_bitsOf_0 : decode cX9_bitsOf 0 = .ok (.iconst 0, 1) := by decide +kernel
theorem dX9_bitsOf_1 : decode cX9_bitsOf 1 = .ok (.istore_n 3, 1) := by decide +kernel
theorem dX9_bitsOf_2 : decode cX9_bitsOf 2 = .ok (.iload_n 2, 1) := by decide +kernel
theorem dX9_bitsOf_3 : decode cX9_bitsOf 3 = .ok (.iload_n 3, 1) := by decide +kernel
theorem dX9_bitsOf_4 : decode cX9_bitsOf 4 = .ok (.iadd, 1) := by decide +kernel
theorem dX9_bitsOf_5 : decode cX9_bitsOf 5 = .ok (.iconst 1, 1) := by decide +kernel
theorem dX9_bitsOf_6 : decode cX9_bitsOf 6 = .ok (.iadd, 1) := by decide +kernel
theorem dX9_bitsOf_7 : decode cX9_bitsOf 7 = .ok (.sipush 999, 3) := by decide +kernel
theorem dX9_bitsOf_10 : decode cX9_bitsOf 10 = .ok (.if_icmp .gt 26, 3) := by decide +kernel
theorem dX9_bitsOf_13 : decode cX9_bitsOf 13 = .ok (.aload_n 0, 1) := by decide +kernel
theorem dX9_bitsOf_14 : decode cX9_bitsOf 14 = .ok (.iload_n 1, 1) := by decide +kernel
theorem dX9_bitsOf_15 : decode cX9_bitsOf 15 = .ok (.iload_n 2, 1) := by decide +kernel
theorem dX9_bitsOf_16 : decode cX9_bitsOf 16 = .ok (.iload_n 3, 1) := by decide +kernel
theorem dX9_bitsOf_17 : decode cX9_bitsOf 17 = .ok (.iadd, 1) := by decide +kernel
theorem dX9_bitsOf_18 : decode cX9_bitsOf 18 = .ok (.iconst 1, 1) := by decide +kernel
theorem dX9_bitsOf_19 : decode cX9_bitsOf 19 = .ok (.iadd, 1) := by decide +kernel
theorem dX9_bitsOf_20 : decode cX9_bitsOf 20 = .ok (.aload_n 0, 1) := by decide +kernel
theorem dX9_bitsOf_21 : decode cX9_bitsOf 21 = .ok (.getfield 288, 3) := by decide +kernel
theorem dX9_bitsOf_24 : decode cX9_bitsOf 24 = .ok (.invokevirtual 311, 3) := by decide +kernel
theorem dX9_bitsOf_27 : decode cX9_bitsOf 27 = .ok (.ifCond .eq 9, 3) := by decide +kernel
theorem dX9_bitsOf_30 : decode cX9_bitsOf 30 = .ok (.iinc 3 1, 3) := by decide +kernel
theorem dX9_bitsOf_33 : decode cX9_bitsOf 33 = .ok (.goto (-31), 3) := by decide +kernel
theorem dX9_bitsOf_36 : decode cX9_bitsOf 36 = .ok (.iload_n 3, 1) := by decide +kernel
theorem dX9_bitsOf_37 : decode cX9_bitsOf 37 = .ok (.ireturn, 1) := by decide +kernel
theorem dX9_isBit_0 : decode cX9_isBit 0 = .ok (.aload_n 0, 1) := by decide +kernel
theorem dX9_isBit_1 : decode cX9_isBit 1 = .ok (.iload_n 1, 1) := by decide +kernel
theorem dX9_isBit_2 : decode cX9_isBit 2 = .ok (.invokevirtual 299, 3) := by decide +kernel
theorem dX9_isBit_5 : decode cX9_isBit 5 = .ok (.ifCond .eq 32, 3) := by decide +kernel
theorem dX9_isBit_8 : decode cX9_isBit 8 = .ok (.iload_n 2, 1) := by decide +kernel
theorem dX9_isBit_9 : decode cX9_isBit 9 = .ok (.i2l, 1) := by decide +kernel
theorem dX9_isBit_10 : decode cX9_isBit 10 = .ok (.lconst 0, 1) := by decide +kernel
theorem dX9_isBit_11 : decode cX9_isBit 11 = .ok (.ldc2_w 332, 3) := by decide +kernel
theorem dX9_isBit_14 : decode cX9_isBit 14 = .ok (.invokestatic 261, 3) := by decide +kernel
theorem dX9_isBit_17 : decode cX9_isBit 17 = .ok (.ifCond .eq 20, 3) := by decide +kernel
theorem dX9_isBit_20 : decode cX9_isBit 20 = .ok (.aload_n 0, 1) := by decide +kernel
theorem dX9_isBit_21 : decode cX9_isBit 21 = .ok (.iload_n 1, 1) := by decide +kernel
theorem dX9_isBit_22 : decode cX9_isBit 22 = .ok (.iload_n 2, 1) := by decide +kernel
theorem dX9_isBit_23 : decode cX9_isBit 23 = .ok (.aload_n 0, 1) := by decide +kernel
theorem dX9_isBit_24 : decode cX9_isBit 24 = .ok (.getfield 288, 3) := by decide +kernel
theorem dX9_isBit_27 : decode cX9_isBit 27 = .ok (.invokevirtual 311, 3) := by decide +kernel
theorem dX9_isBit_30 : decode cX9_isBit 30 = .ok (.ifCond .ne 7, 3) := by decide +kernel
theorem dX9_isBit_33 : decode cX9_isBit 33 = .ok (.iconst 1, 1) := by decide +kernel
theorem dX9_isBit_34 : decode cX9_isBit 34 = .ok (.goto 4, 3) := by decide +kernel
theorem dX9_isBit_37 : decode cX9_isBit 37 = .ok (.iconst 0, 1) := by decide +kernel
theorem dX9_isBit_38 : decode cX9_isBit 38 = .ok (.ireturn, 1) := by decide +kernel
theorem dX9_bit_0 : decode cX9_bit 0 = .ok (.aload_n 0, 1) := by decide +kernel
theorem dX9_bit_1 : decode cX9_bit 1 = .ok (.iconst 0, 1) := by decide +kernel
theorem dX9_bit_2 : decode cX9_bit 2 = .ok (.putfield 128, 3) := by decide +kernel
theorem dX9_bit_5 : decode cX9_bit 5 = .ok (.aload_n 0, 1) := by decide +kernel
theorem dX9_bit_6 : decode cX9_bit 6 = .ok (.iload_n 1, 1) := by decide +kernel
theorem dX9_bit_7 : decode cX9_bit 7 = .ok (.iload_n 2, 1) := by decide +kernel
theorem dX9_bit_8 : decode cX9_bit 8 = .ok (.invokevirtual 368, 3) := by decide +kernel
theorem dX9_bit_11 : decode cX9_bit 11 = .ok (.ifCond .eq 8, 3) := by decide +kernel
theorem dX9_bit_14 : decode cX9_bit 14 = .ok (.iload_n 3, 1) := by decide +kernel
theorem dX9_bit_15 : decode cX9_bit 15 = .ok (.iconst (-1), 1) := by decide +kernel
theorem dX9_bit_16 : decode cX9_bit 16 = .ok (.if_icmp .ge 5, 3) := by decide +kernel
theorem dX9_bit_19 : decode cX9_bit 19 = .ok (.iconst (-1), 1) := by decide +kernel
theorem dX9_bit_20 : decode cX9_bit 20 = .ok (.ireturn, 1) := by decide +kernel
theorem dX9_bit_21 : decode cX9_bit 21 = .ok (.aload_n 0, 1) := by decide +kernel
theorem dX9_bit_22 : decode cX9_bit 22 = .ok (.iload_n 1, 1) := by decide +kernel
theorem dX9_bit_23 : decode cX9_bit 23 = .ok (.iload_n 2, 1) := by decide +kernel
theorem dX9_bit_24 : decode cX9_bit 24 = .ok (.invokevirtual 371, 3) := by decide +kernel
theorem dX9_bit_27 : decode cX9_bit 27 = .ok (.istore 4, 2) := by decide +kernel
theorem dX9_bit_29 : decode cX9_bit 29 = .ok (.iload_n 3, 1) := by decide +kernel
theorem dX9_bit_30 : decode cX9_bit 30 = .ok (.iconst (-1), 1) := by decide +kernel
theorem dX9_bit_31 : decode cX9_bit 31 = .ok (.if_icmp .ne 8, 3) := by decide +kernel
theorem dX9_bit_34 : decode cX9_bit 34 = .ok (.iload 4, 2) := by decide +kernel
theorem dX9_bit_36 : decode cX9_bit 36 = .ok (.goto 18, 3) := by decide +kernel
theorem dX9_bit_39 : decode cX9_bit 39 = .ok (.iload_n 3, 1) := by decide +kernel
theorem dX9_bit_40 : decode cX9_bit 40 = .ok (.iload 4, 2) := by decide +kernel
theorem dX9_bit_42 : decode cX9_bit 42 = .ok (.if_icmp .ge 11, 3) := by decide +kernel
theorem dX9_bit_45 : decode cX9_bit 45 = .ok (.iload_n 2, 1) := by decide +kernel
theorem dX9_bit_46 : decode cX9_bit 46 = .ok (.iconst 1, 1) := by decide +kernel
theorem dX9_bit_47 : decode cX9_bit 47 = .ok (.iadd, 1) := by decide +kernel
theorem dX9_bit_48 : decode cX9_bit 48 = .ok (.iload_n 3, 1) := by decide +kernel
theorem dX9_bit_49 : decode cX9_bit 49 = .ok (.iadd, 1) := by decide +kernel
theorem dX9_bit_50 : decode cX9_bit 50 = .ok (.goto 4, 3) := by decide +kernel
theorem dX9_bit_53 : decode cX9_bit 53 = .ok (.iconst (-1), 1) := by decide +kernel
theorem dX9_bit_54 : decode cX9_bit 54 = .ok (.ireturn, 1) := by decide +kernel
theorem dX9_weightOf_0 : decode cX9_weightOf 0 = .ok (.iload_n 1, 1) := by decide +kernel
theorem dX9_weightOf_1 : decode cX9_weightOf 1 = .ok (.bipush 100, 2) := by decide +kernel
theorem dX9_weightOf_3 : decode cX9_weightOf 3 = .ok (.if_icmp .ge 12, 3) := by decide +kernel
theorem dX9_weightOf_6 : decode cX9_weightOf 6 = .ok (.aload_n 0, 1) := by decide +kernel
theorem dX9_weightOf_7 : decode cX9_weightOf 7 = .ok (.getfield 82, 3) := by decide +kernel
theorem dX9_weightOf_10 : decode cX9_weightOf 10 = .ok (.iload_n 1, 1) := by decide +kernel
theorem dX9_weightOf_11 : decode cX9_weightOf 11 = .ok (.iaload, 1) := by decide +kernel
theorem dX9_weightOf_12 : decode cX9_weightOf 12 = .ok (.ifCond .ne 7, 3) := by decide +kernel
theorem dX9_weightOf_15 : decode cX9_weightOf 15 = .ok (.iconst 1, 1) := by decide +kernel
theorem dX9_weightOf_16 : decode cX9_weightOf 16 = .ok (.goto 11, 3) := by decide +kernel
theorem dX9_weightOf_19 : decode cX9_weightOf 19 = .ok (.aload_n 0, 1) := by decide +kernel
theorem dX9_weightOf_20 : decode cX9_weightOf 20 = .ok (.getfield 82, 3) := by decide +kernel
theorem dX9_weightOf_23 : decode cX9_weightOf 23 = .ok (.iload_n 1, 1) := by decide +kernel
theorem dX9_weightOf_24 : decode cX9_weightOf 24 = .ok (.iaload, 1) := by decide +kernel
theorem dX9_weightOf_25 : decode cX9_weightOf 25 = .ok (.iconst 1, 1) := by decide +kernel
theorem dX9_weightOf_26 : decode cX9_weightOf 26 = .ok (.isub, 1) := by decide +kernel
theorem dX9_weightOf_27 : decode cX9_weightOf 27 = .ok (.ireturn, 1) := by decide +kernel
theorem dX9_weight_0 : decode cX9_weight 0 = .ok (.aload_n 0, 1) := by decide +kernel
theorem dX9_weight_1 : decode cX9_weight 1 = .ok (.iconst 0, 1) := by decide +kernel
theorem dX9_weight_2 : decode cX9_weight 2 = .ok (.putfield 128, 3) := by decide +kernel
theorem dX9_weight_5 : decode cX9_weight 5 = .ok (.iload_n 1, 1) := by decide +kernel
theorem dX9_weight_6 : decode cX9_weight 6 = .ok (.i2l, 1) := by decide +kernel
theorem dX9_weight_7 : decode cX9_weight 7 = .ok (.lconst 1, 1) := by decide +kernel
theorem dX9_weight_8 : decode cX9_weight 8 = .ok (.ldc2_w 294, 3) := by decide +kernel
theorem dX9_weight_11 : decode cX9_weight 11 = .ok (.invokestatic 261, 3) := by decide +kernel
theorem dX9_weight_14 : decode cX9_weight 14 = .ok (.ifCond .eq 15, 3) := by decide +kernel
theorem dX9_weight_17 : decode cX9_weight 17 = .ok (.iload_n 2, 1) := by decide +kernel
theorem dX9_weight_18 : decode cX9_weight 18 = .ok (.i2l, 1) := by decide +kernel
theorem dX9_weight_19 : decode cX9_weight 19 = .ok (.lconst 0, 1) := by decide +kernel
theorem dX9_weight_20 : decode cX9_weight 20 = .ok (.ldc2_w 294, 3) := by decide +kernel
theorem dX9_weight_23 : decode cX9_weight 23 = .ok (.invokestatic 261, 3) := by decide +kernel
theorem dX9_weight_26 : decode cX9_weight 26 = .ok (.ifCond .ne 5, 3) := by decide +kernel
theorem dX9_weight_29 : decode cX9_weight 29 = .ok (.iconst 0, 1) := by decide +kernel
theorem dX9_weight_30 : decode cX9_weight 30 = .ok (.ireturn, 1) := by decide +kernel
theorem dX9_weight_31 : decode cX9_weight 31 = .ok (.aload_n 0, 1) := by decide +kernel
theorem dX9_weight_32 : decode cX9_weight 32 = .ok (.getfield 82, 3) := by decide +kernel
theorem dX9_weight_35 : decode cX9_weight 35 = .ok (.iload_n 1, 1) := by decide +kernel
theorem dX9_weight_36 : decode cX9_weight 36 = .ok (.iload_n 2, 1) := by decide +kernel
theorem dX9_weight_37 : decode cX9_weight 37 = .ok (.iconst 1, 1) := by decide +kernel
theorem dX9_weight_38 : decode cX9_weight 38 = .ok (.iadd, 1) := by decide +kernel
theorem dX9_weight_39 : decode cX9_weight 39 = .ok (.iastore, 1) := by decide +kernel
theorem dX9_weight_40 : decode cX9_weight 40 = .ok (.iconst 1, 1) := by decide +kernel
theorem dX9_weight_41 : decode cX9_weight 41 = .ok (.ireturn, 1) := by decide +kernel
theorem dX9_likely_0 : decode cX9_likely 0 = .ok (.aload_n 0, 1) := by decide +kernel
theorem dX9_likely_1 : decode cX9_likely 1 = .ok (.iconst 0, 1) := by decide +kernel
theorem dX9_likely_2 : decode cX9_likely 2 = .ok (.putfield 128, 3) := by decide +kernel
theorem dX9_likely_5 : decode cX9_likely 5 = .ok (.aload_n 0, 1) := by decide +kernel
theorem dX9_likely_6 : decode cX9_likely 6 = .ok (.iload_n 1, 1) := by decide +kernel
theorem dX9_likely_7 : decode cX9_likely 7 = .ok (.iload_n 2, 1) := by decide +kernel
theorem dX9_likely_8 : decode cX9_likely 8 = .ok (.invokevirtual 368, 3) := by decide +kernel
theorem dX9_likely_11 : decode cX9_likely 11 = .ok (.ifCond .ne 5, 3) := by decide +kernel
theorem dX9_likely_14 : decode cX9_likely 14 = .ok (.iconst (-1), 1) := by decide +kernel
theorem dX9_likely_15 : decode cX9_likely 15 = .ok (.ireturn, 1) := by decide +kernel
theorem dX9_likely_16 : decode cX9_likely 16 = .ok (.aload_n 0, 1) := by decide +kernel
