theorem dX9_likely_17 : decode cX9_likely 17 = .ok (.iload_n 1, 1) := by decide +kernel
theorem dX9_likely_18 : decode cX9_likely 18 = .ok (.iload_n 2, 1) := by decide +kernel
theorem dX9_likely_19 : decode cX9_likely 19 = .ok (.invokevirtual 371, 3) := by decide +kernel
theorem dX9_likely_22 : decode cX9_likely 22 = .ok (.istore 4, 2) := by decide +kernel
theorem dX9_likely_24 : decode cX9_likely 24 = .ok (.lconst 0, 1) := by decide +kernel
theorem dX9_likely_25 : decode cX9_likely 25 = .ok (.lstore 5, 2) := by decide +kernel
theorem dX9_likely_27 : decode cX9_likely 27 = .ok (.iconst 0, 1) := by decide +kernel
theorem dX9_likely_28 : decode cX9_likely 28 = .ok (.istore 7, 2) := by decide +kernel
theorem dX9_likely_30 : decode cX9_likely 30 = .ok (.iload 7, 2) := by decide +kernel
theorem dX9_likely_32 : decode cX9_likely 32 = .ok (.iload 4, 2) := by decide +kernel
theorem dX9_likely_34 : decode cX9_likely 34 = .ok (.if_icmp .ge 25, 3) := by decide +kernel
theorem dX9_likely_37 : decode cX9_likely 37 = .ok (.lload 5, 2) := by decide +kernel
theorem dX9_likely_39 : decode cX9_likely 39 = .ok (.aload_n 0, 1) := by decide +kernel
theorem dX9_likely_40 : decode cX9_likely 40 = .ok (.iload_n 2, 1) := by decide +kernel
theorem dX9_likely_41 : decode cX9_likely 41 = .ok (.iconst 1, 1) := by decide +kernel
theorem dX9_likely_42 : decode cX9_likely 42 = .ok (.iadd, 1) := by decide +kernel
theorem dX9_likely_43 : decode cX9_likely 43 = .ok (.iload 7, 2) := by decide +kernel
theorem dX9_likely_45 : decode cX9_likely 45 = .ok (.iadd, 1) := by decide +kernel
theorem dX9_likely_46 : decode cX9_likely 46 = .ok (.invokevirtual 374, 3) := by decide +kernel
theorem dX9_likely_49 : decode cX9_likely 49 = .ok (.i2l, 1) := by decide +kernel
theorem dX9_likely_50 : decode cX9_likely 50 = .ok (.ladd, 1) := by decide +kernel
theorem dX9_likely_51 : decode cX9_likely 51 = .ok (.lstore 5, 2) := by decide +kernel
theorem dX9_likely_53 : decode cX9_likely 53 = .ok (.iinc 7 1, 3) := by decide +kernel
theorem dX9_likely_56 : decode cX9_likely 56 = .ok (.goto (-26), 3) := by decide +kernel
theorem dX9_likely_59 : decode cX9_likely 59 = .ok (.iload_n 3, 1) := by decide +kernel
theorem dX9_likely_60 : decode cX9_likely 60 = .ok (.i2l, 1) := by decide +kernel
theorem dX9_likely_61 : decode cX9_likely 61 = .ok (.lconst 0, 1) := by decide +kernel
theorem dX9_likely_62 : decode cX9_likely 62 = .ok (.iload 4, 2) := by decide +kernel
theorem dX9_likely_64 : decode cX9_likely 64 = .ok (.iconst 1, 1) := by decide +kernel
theorem dX9_likely_65 : decode cX9_likely 65 = .ok (.isub, 1) := by decide +kernel
theorem dX9_likely_66 : decode cX9_likely 66 = .ok (.i2l, 1) := by decide +kernel
theorem dX9_likely_67 : decode cX9_likely 67 = .ok (.invokestatic 261, 3) := by decide +kernel
theorem dX9_likely_70 : decode cX9_likely 70 = .ok (.ifCond .eq 10, 3) := by decide +kernel
theorem dX9_likely_73 : decode cX9_likely 73 = .ok (.lload 5, 2) := by decide +kernel
theorem dX9_likely_75 : decode cX9_likely 75 = .ok (.lconst 0, 1) := by decide +kernel
theorem dX9_likely_76 : decode cX9_likely 76 = .ok (.lcmp, 1) := by decide +kernel
theorem dX9_likely_77 : decode cX9_likely 77 = .ok (.ifCond .ne 7, 3) := by decide +kernel
theorem dX9_likely_80 : decode cX9_likely 80 = .ok (.iconst (-1), 1) := by decide +kernel
theorem dX9_likely_81 : decode cX9_likely 81 = .ok (.goto 21, 3) := by decide +kernel
theorem dX9_likely_84 : decode cX9_likely 84 = .ok (.ldc2_w 175, 3) := by decide +kernel
theorem dX9_likely_87 : decode cX9_likely 87 = .ok (.aload_n 0, 1) := by decide +kernel
theorem dX9_likely_88 : decode cX9_likely 88 = .ok (.iload_n 2, 1) := by decide +kernel
theorem dX9_likely_89 : decode cX9_likely 89 = .ok (.iconst 1, 1) := by decide +kernel
theorem dX9_likely_90 : decode cX9_likely 90 = .ok (.iadd, 1) := by decide +kernel
theorem dX9_likely_91 : decode cX9_likely 91 = .ok (.iload_n 3, 1) := by decide +kernel
theorem dX9_likely_92 : decode cX9_likely 92 = .ok (.iadd, 1) := by decide +kernel
theorem dX9_likely_93 : decode cX9_likely 93 = .ok (.invokevirtual 374, 3) := by decide +kernel
theorem dX9_likely_96 : decode cX9_likely 96 = .ok (.i2l, 1) := by decide +kernel
theorem dX9_likely_97 : decode cX9_likely 97 = .ok (.lmul, 1) := by decide +kernel
theorem dX9_likely_98 : decode cX9_likely 98 = .ok (.lload 5, 2) := by decide +kernel
theorem dX9_likely_100 : decode cX9_likely 100 = .ok (.ldiv, 1) := by decide +kernel
theorem dX9_likely_101 : decode cX9_likely 101 = .ok (.l2i, 1) := by decide +kernel
theorem dX9_likely_102 : decode cX9_likely 102 = .ok (.ireturn, 1) := by decide +kernel
theorem dX9_good_0 : decode cX9_good 0 = .ok (.aload_n 0, 1) := by decide +kernel
theorem dX9_good_1 : decode cX9_good 1 = .ok (.iconst 0, 1) := by decide +kernel
theorem dX9_good_2 : decode cX9_good 2 = .ok (.putfield 128, 3) := by decide +kernel
theorem dX9_good_5 : decode cX9_good 5 = .ok (.aload_n 0, 1) := by decide +kernel
theorem dX9_good_6 : decode cX9_good 6 = .ok (.getfield 276, 3) := by decide +kernel
theorem dX9_good_9 : decode cX9_good 9 = .ok (.ifCond .eq 11, 3) := by decide +kernel
theorem dX9_good_12 : decode cX9_good 12 = .ok (.aload_n 0, 1) := by decide +kernel
theorem dX9_good_13 : decode cX9_good 13 = .ok (.getfield 279, 3) := by decide +kernel
theorem dX9_good_16 : decode cX9_good 16 = .ok (.iconst 3, 1) := by decide +kernel
theorem dX9_good_17 : decode cX9_good 17 = .ok (.if_icmp .ne 5, 3) := by decide +kernel
theorem dX9_good_20 : decode cX9_good 20 = .ok (.iconst (-1), 1) := by decide +kernel
theorem dX9_good_21 : decode cX9_good 21 = .ok (.ireturn, 1) := by decide +kernel
theorem dX9_good_22 : decode cX9_good 22 = .ok (.iconst 0, 1) := by decide +kernel
theorem dX9_good_23 : decode cX9_good 23 = .ok (.istore_n 1, 1) := by decide +kernel
theorem dX9_good_24 : decode cX9_good 24 = .ok (.iload_n 1, 1) := by decide +kernel
theorem dX9_good_25 : decode cX9_good 25 = .ok (.bipush 6, 2) := by decide +kernel
theorem dX9_good_27 : decode cX9_good 27 = .ok (.if_icmp .ge 25, 3) := by decide +kernel
theorem dX9_good_30 : decode cX9_good 30 = .ok (.aload_n 0, 1) := by decide +kernel
theorem dX9_good_31 : decode cX9_good 31 = .ok (.getfield 85, 3) := by decide +kernel
theorem dX9_good_34 : decode cX9_good 34 = .ok (.bipush 6, 2) := by decide +kernel
theorem dX9_good_36 : decode cX9_good 36 = .ok (.aload_n 0, 1) := by decide +kernel
theorem dX9_good_37 : decode cX9_good 37 = .ok (.getfield 279, 3) := by decide +kernel
theorem dX9_good_40 : decode cX9_good 40 = .ok (.imul, 1) := by decide +kernel
theorem dX9_good_41 : decode cX9_good 41 = .ok (.iload_n 1, 1) := by decide +kernel
theorem dX9_good_42 : decode cX9_good 42 = .ok (.iadd, 1) := by decide +kernel
theorem dX9_good_43 : decode cX9_good 43 = .ok (.bipush 10, 2) := by decide +kernel
theorem dX9_good_45 : decode cX9_good 45 = .ok (.iastore, 1) := by decide +kernel
theorem dX9_good_46 : decode cX9_good 46 = .ok (.iinc 1 1, 3) := by decide +kernel
theorem dX9_good_49 : decode cX9_good 49 = .ok (.goto (-25), 3) := by decide +kernel
theorem dX9_good_52 : decode cX9_good 52 = .ok (.aload_n 0, 1) := by decide +kernel
theorem dX9_good_53 : decode cX9_good 53 = .ok (.dup, 1) := by decide +kernel
theorem dX9_good_54 : decode cX9_good 54 = .ok (.getfield 279, 3) := by decide +kernel
theorem dX9_good_57 : decode cX9_good 57 = .ok (.iconst 1, 1) := by decide +kernel
theorem dX9_good_58 : decode cX9_good 58 = .ok (.iadd, 1) := by decide +kernel
theorem dX9_good_59 : decode cX9_good 59 = .ok (.putfield 279, 3) := by decide +kernel
theorem dX9_good_62 : decode cX9_good 62 = .ok (.aload_n 0, 1) := by decide +kernel
theorem dX9_good_63 : decode cX9_good 63 = .ok (.getfield 279, 3) := by decide +kernel
theorem dX9_good_66 : decode cX9_good 66 = .ok (.iconst 1, 1) := by decide +kernel
theorem dX9_good_67 : decode cX9_good 67 = .ok (.isub, 1) := by decide +kernel
theorem dX9_good_68 : decode cX9_good 68 = .ok (.ireturn, 1) := by decide +kernel
theorem dX9_isGood_0 : decode cX9_isGood 0 = .ok (.iload_n 1, 1) := by decide +kernel
theorem dX9_isGood_1 : decode cX9_isGood 1 = .ok (.ifCond .lt 15, 3) := by decide +kernel
theorem dX9_isGood_4 : decode cX9_isGood 4 = .ok (.iload_n 1, 1) := by decide +kernel
theorem dX9_isGood_5 : decode cX9_isGood 5 = .ok (.aload_n 0, 1) := by decide +kernel
theorem dX9_isGood_6 : decode cX9_isGood 6 = .ok (.getfield 279, 3) := by decide +kernel
theorem dX9_isGood_9 : decode cX9_isGood 9 = .ok (.if_icmp .ge 7, 3) := by decide +kernel
theorem dX9_isGood_12 : decode cX9_isGood 12 = .ok (.iconst 1, 1) := by decide +kernel
theorem dX9_isGood_13 : decode cX9_isGood 13 = .ok (.goto 4, 3) := by decide +kernel
theorem dX9_isGood_16 : decode cX9_isGood 16 = .ok (.iconst 0, 1) := by decide +kernel
theorem dX9_isGood_17 : decode cX9_isGood 17 = .ok (.ireturn, 1) := by decide +kernel
theorem dX9_price_0 : decode cX9_price 0 = .ok (.aload_n 0, 1) := by decide +kernel
theorem dX9_price_1 : decode cX9_price 1 = .ok (.iconst 0, 1) := by decide +kernel
theorem dX9_price_2 : decode cX9_price 2 = .ok (.putfield 128, 3) := by decide +kernel
theorem dX9_price_5 : decode cX9_price 5 = .ok (.aload_n 0, 1) := by decide +kernel
theorem dX9_price_6 : decode cX9_price 6 = .ok (.iload_n 1, 1) := by decide +kernel
theorem dX9_price_7 : decode cX9_price 7 = .ok (.invokevirtual 377, 3) := by decide +kernel
theorem dX9_price_10 : decode cX9_price 10 = .ok (.ifCond .eq 23, 3) := by decide +kernel
theorem dX9_price_13 : decode cX9_price 13 = .ok (.aload_n 0, 1) := by decide +kernel
theorem dX9_price_14 : decode cX9_price 14 = .ok (.iload_n 2, 1) := by decide +kernel
theorem dX9_price_15 : decode cX9_price 15 = .ok (.invokevirtual 299, 3) := by decide +kernel
theorem dX9_price_18 : decode cX9_price 18 = .ok (.ifCond .eq 15, 3) := by decide +kernel
theorem dX9_price_21 : decode cX9_price 21 = .ok (.iload_n 3, 1) := by decide +kernel
theorem dX9_price_22 : decode cX9_price 22 = .ok (.i2l, 1) := by decide +kernel
theorem dX9_price_23 : decode cX9_price 23 = .ok (.lconst 1, 1) := by decide +kernel
theorem dX9_price_24 : decode cX9_price 24 = .ok (.ldc2_w 294, 3) := by decide +kernel
theorem dX9_price_27 : decode cX9_price 27 = .ok (.invokestatic 261, 3) := by decide +kernel
theorem dX9_price_30 : decode cX9_price 30 = .ok (.ifCond .ne 5, 3) := by decide +kernel
theorem dX9_price_33 : decode cX9_price 33 = .ok (.iconst 0, 1) := by decide +kernel
theorem dX9_price_34 : decode cX9_price 34 = .ok (.ireturn, 1) := by decide +kernel
theorem dX9_price_35 : decode cX9_price 35 = .ok (.aload_n 0, 1) := by decide +kernel
theorem dX9_price_36 : decode cX9_price 36 = .ok (.getfield 85, 3) := by decide +kernel
theorem dX9_price_39 : decode cX9_price 39 = .ok (.bipush 6, 2) := by decide +kernel
theorem dX9_price_41 : decode cX9_price 41 = .ok (.iload_n 1, 1) := by decide +kernel
theorem dX9_price_42 : decode cX9_price 42 = .ok (.imul, 1) := by decide +kernel
theorem dX9_price_43 : decode cX9_price 43 = .ok (.iload_n 2, 1) := by decide +kernel
theorem dX9_price_44 : decode cX9_price 44 = .ok (.iadd, 1) := by decide +kernel
theorem dX9_price_45 : decode cX9_price 45 = .ok (.iload_n 3, 1) := by decide +kernel
theorem dX9_price_46 : decode cX9_price 46 = .ok (.iastore, 1) := by decide +kernel
theorem dX9_price_47 : decode cX9_price 47 = .ok (.iconst 1, 1) := by decide +kernel
theorem dX9_price_48 : decode cX9_price 48 = .ok (.ireturn, 1) := by decide +kernel
theorem dX9_mayDeal_0 : decode cX9_mayDeal 0 = .ok (.iload_n 3, 1) := by decide +kernel
theorem dX9_mayDeal_1 : decode cX9_mayDeal 1 = .ok (.aload_n 0, 1) := by decide +kernel
theorem dX9_mayDeal_2 : decode cX9_mayDeal 2 = .ok (.getfield 85, 3) := by decide +kernel
theorem dX9_mayDeal_5 : decode cX9_mayDeal 5 = .ok (.bipush 6, 2) := by decide +kernel
theorem dX9_mayDeal_7 : decode cX9_mayDeal 7 = .ok (.iload_n 1, 1) := by decide +kernel
theorem dX9_mayDeal_8 : decode cX9_mayDeal 8 = .ok (.imul, 1) := by decide +kernel
theorem dX9_mayDeal_9 : decode cX9_mayDeal 9 = .ok (.iload_n 2, 1) := by decide +kernel
theorem dX9_mayDeal_10 : decode cX9_mayDeal 10 = .ok (.iadd, 1) := by decide +kernel
theorem dX9_mayDeal_11 : decode cX9_mayDeal 11 = .ok (.iaload, 1) := by decide +kernel
theorem dX9_mayDeal_12 : decode cX9_mayDeal 12 = .ok (.imul, 1) := by decide +kernel
theorem dX9_mayDeal_13 : decode cX9_mayDeal 13 = .ok (.istore 5, 2) := by decide +kernel
theorem dX9_mayDeal_15 : decode cX9_mayDeal 15 = .ok (.iload 5, 2) := by decide +kernel
theorem dX9_mayDeal_17 : decode cX9_mayDeal 17 = .ok (.sipush 200, 3) := by decide +kernel
theorem dX9_mayDeal_20 : decode cX9_mayDeal 20 = .ok (.if_icmp .gt 26, 3) := by decide +kernel
theorem dX9_mayDeal_23 : decode cX9_mayDeal 23 = .ok (.aload_n 0, 1) := by decide +kernel
theorem dX9_mayDeal_24 : decode cX9_mayDeal 24 = .ok (.iload_n 2, 1) := by decide +kernel
theorem dX9_mayDeal_25 : decode cX9_mayDeal 25 = .ok (.iload_n 3, 1) := by decide +kernel
theorem dX9_mayDeal_26 : decode cX9_mayDeal 26 = .ok (.iload 4, 2) := by decide +kernel
theorem dX9_mayDeal_28 : decode cX9_mayDeal 28 = .ok (.invokevirtual 311, 3) := by decide +kernel
theorem dX9_mayDeal_31 : decode cX9_mayDeal 31 = .ok (.ifCond .ne 15, 3) := by decide +kernel
theorem dX9_mayDeal_34 : decode cX9_mayDeal 34 = .ok (.aload_n 0, 1) := by decide +kernel
theorem dX9_mayDeal_35 : decode cX9_mayDeal 35 = .ok (.iload_n 2, 1) := by decide +kernel
theorem dX9_mayDeal_36 : decode cX9_mayDeal 36 = .ok (.iload 5, 2) := by decide +kernel
theorem dX9_mayDeal_38 : decode cX9_mayDeal 38 = .ok (.iload 4, 2) := by decide +kernel
theorem dX9_mayDeal_40 : decode cX9_mayDeal 40 = .ok (.invokevirtual 311, 3) := by decide +kernel
theorem dX9_mayDeal_43 : decode cX9_mayDeal 43 = .ok (.ifCond .eq 5, 3) := by decide +kernel
theorem dX9_mayDeal_46 : decode cX9_mayDeal 46 = .ok (.iconst 0, 1) := by decide +kernel
theorem dX9_mayDeal_47 : decode cX9_mayDeal 47 = .ok (.ireturn, 1) := by decide +kernel
theorem dX9_mayDeal_48 : decode cX9_mayDeal 48 = .ok (.aload_n 0, 1) := by decide +kernel
theorem dX9_mayDeal_49 : decode cX9_mayDeal 49 = .ok (.iload_n 2, 1) := by decide +kernel
theorem dX9_mayDeal_50 : decode cX9_mayDeal 50 = .ok (.iload 4, 2) := by decide +kernel
theorem dX9_mayDeal_52 : decode cX9_mayDeal 52 = .ok (.invokevirtual 380, 3) := by decide +kernel
theorem dX9_mayDeal_55 : decode cX9_mayDeal 55 = .ok (.aload_n 0, 1) := by decide +kernel
theorem dX9_mayDeal_56 : decode cX9_mayDeal 56 = .ok (.getfield 89, 3) := by decide +kernel
theorem dX9_mayDeal_59 : decode cX9_mayDeal 59 = .ok (.sipush 201, 3) := by decide +kernel
theorem dX9_mayDeal_62 : decode cX9_mayDeal 62 = .ok (.bipush 100, 2) := by decide +kernel
theorem dX9_mayDeal_64 : decode cX9_mayDeal 64 = .ok (.iload_n 2, 1) := by decide +kernel
theorem dX9_mayDeal_65 : decode cX9_mayDeal 65 = .ok (.imul, 1) := by decide +kernel
theorem dX9_mayDeal_66 : decode cX9_mayDeal 66 = .ok (.iload 4, 2) := by decide +kernel
theorem dX9_mayDeal_68 : decode cX9_mayDeal 68 = .ok (.iadd, 1) := by decide +kernel
theorem dX9_mayDeal_69 : decode cX9_mayDeal 69 = .ok (.imul, 1) := by decide +kernel
theorem dX9_mayDeal_70 : decode cX9_mayDeal 70 = .ok (.iload 5, 2) := by decide +kernel
theorem dX9_mayDeal_72 : decode cX9_mayDeal 72 = .ok (.iadd, 1) := by decide +kernel
theorem dX9_mayDeal_73 : decode cX9_mayDeal 73 = .ok (.baload, 1) := by decide +kernel
theorem dX9_mayDeal_74 : decode cX9_mayDeal 74 = .ok (.ireturn, 1) := by decide +kernel
theorem dX9_forgetPaid_0 : decode cX9_forgetPaid 0 = .ok (.iconst 0, 1) := by decide +kernel
theorem dX9_forgetPaid_1 : decode cX9_forgetPaid 1 = .ok (.istore_n 1, 1) := by decide +kernel
theorem dX9_forgetPaid_2 : decode cX9_forgetPaid 2 = .ok (.iload_n 1, 1) := by decide +kernel
theorem dX9_forgetPaid_3 : decode cX9_forgetPaid 3 = .ok (.sipush 600, 3) := by decide +kernel
theorem dX9_forgetPaid_6 : decode cX9_forgetPaid 6 = .ok (.if_icmp .ge 16, 3) := by decide +kernel
theorem dX9_forgetPaid_9 : decode cX9_forgetPaid 9 = .ok (.aload_n 0, 1) := by decide +kernel
theorem dX9_forgetPaid_10 : decode cX9_forgetPaid 10 = .ok (.getfield 92, 3) := by decide +kernel
theorem dX9_forgetPaid_13 : decode cX9_forgetPaid 13 = .ok (.iload_n 1, 1) := by decide +kernel
theorem dX9_forgetPaid_14 : decode cX9_forgetPaid 14 = .ok (.iconst 0, 1) := by decide +kernel
theorem dX9_forgetPaid_15 : decode cX9_forgetPaid 15 = .ok (.bastore, 1) := by decide +kernel
theorem dX9_forgetPaid_16 : decode cX9_forgetPaid 16 = .ok (.iinc 1 1, 3) := by decide +kernel
theorem dX9_forgetPaid_19 : decode cX9_forgetPaid 19 = .ok (.goto (-17), 3) := by decide +kernel
theorem dX9_forgetPaid_22 : decode cX9_forgetPaid 22 = .ok (.return_, 1) := by decide +kernel
theorem dX9_layPaid_0 : decode cX9_layPaid 0 = .ok (.bipush 100, 2) := by decide +kernel
theorem dX9_layPaid_2 : decode cX9_layPaid 2 = .ok (.iload_n 1, 1) := by decide +kernel
theorem dX9_layPaid_3 : decode cX9_layPaid 3 = .ok (.imul, 1) := by decide +kernel
theorem dX9_layPaid_4 : decode cX9_layPaid 4 = .ok (.iload_n 2, 1) := by decide +kernel
theorem dX9_layPaid_5 : decode cX9_layPaid 5 = .ok (.iadd, 1) := by decide +kernel
theorem dX9_layPaid_6 : decode cX9_layPaid 6 = .ok (.istore_n 3, 1) := by decide +kernel
theorem dX9_layPaid_7 : decode cX9_layPaid 7 = .ok (.aload_n 0, 1) := by decide +kernel
theorem dX9_layPaid_8 : decode cX9_layPaid 8 = .ok (.getfield 92, 3) := by decide +kernel
theorem dX9_layPaid_11 : decode cX9_layPaid 11 = .ok (.iload_n 3, 1) := by decide +kernel
theorem dX9_layPaid_12 : decode cX9_layPaid 12 = .ok (.baload, 1) := by decide +kernel
theorem dX9_layPaid_13 : decode cX9_layPaid 13 = .ok (.ifCond .eq 4, 3) := by decide +kernel
theorem dX9_layPaid_16 : decode cX9_layPaid 16 = .ok (.return_, 1) := by decide +kernel
theorem dX9_layPaid_17 : decode cX9_layPaid 17 = .ok (.aload_n 0, 1) := by decide +kernel
theorem dX9_layPaid_18 : decode cX9_layPaid 18 = .ok (.getfield 92, 3) := by decide +kernel
theorem dX9_layPaid_21 : decode cX9_layPaid 21 = .ok (.iload_n 3, 1) := by decide +kernel
theorem dX9_layPaid_22 : decode cX9_layPaid 22 = .ok (.iconst 1, 1) := by decide +kernel
theorem dX9_layPaid_23 : decode cX9_layPaid 23 = .ok (.bastore, 1) := by decide +kernel
theorem dX9_layPaid_24 : decode cX9_layPaid 24 = .ok (.aload_n 0, 1) := by decide +kernel
theorem dX9_layPaid_25 : decode cX9_layPaid 25 = .ok (.iload_n 1, 1) := by decide +kernel
theorem dX9_layPaid_26 : decode cX9_layPaid 26 = .ok (.iload_n 2, 1) := by decide +kernel
theorem dX9_layPaid_27 : decode cX9_layPaid 27 = .ok (.invokevirtual 337, 3) := by decide +kernel
theorem dX9_layPaid_30 : decode cX9_layPaid 30 = .ok (.aload_n 0, 1) := by decide +kernel
theorem dX9_layPaid_31 : decode cX9_layPaid 31 = .ok (.iconst 3, 1) := by decide +kernel
theorem dX9_layPaid_32 : decode cX9_layPaid 32 = .ok (.invokevirtual 353, 3) := by decide +kernel
theorem dX9_layPaid_35 : decode cX9_layPaid 35 = .ok (.iconst 1, 1) := by decide +kernel
theorem dX9_layPaid_36 : decode cX9_layPaid 36 = .ok (.istore 4, 2) := by decide +kernel
theorem dX9_layPaid_38 : decode cX9_layPaid 38 = .ok (.iload 4, 2) := by decide +kernel
theorem dX9_layPaid_40 : decode cX9_layPaid 40 = .ok (.sipush 200, 3) := by decide +kernel
theorem dX9_layPaid_43 : decode cX9_layPaid 43 = .ok (.if_icmp .gt 29, 3) := by decide +kernel
theorem dX9_layPaid_46 : decode cX9_layPaid 46 = .ok (.aload_n 0, 1) := by decide +kernel
theorem dX9_layPaid_47 : decode cX9_layPaid 47 = .ok (.getfield 89, 3) := by decide +kernel
theorem dX9_layPaid_50 : decode cX9_layPaid 50 = .ok (.sipush 201, 3) := by decide +kernel
theorem dX9_layPaid_53 : decode cX9_layPaid 53 = .ok (.iload_n 3, 1) := by decide +kernel
theorem dX9_layPaid_54 : decode cX9_layPaid 54 = .ok (.imul, 1) := by decide +kernel
theorem dX9_layPaid_55 : decode cX9_layPaid 55 = .ok (.iload 4, 2) := by decide +kernel
theorem dX9_layPaid_57 : decode cX9_layPaid 57 = .ok (.iadd, 1) := by decide +kernel
theorem dX9_layPaid_58 : decode cX9_layPaid 58 = .ok (.aload_n 0, 1) := by decide +kernel
theorem dX9_layPaid_59 : decode cX9_layPaid 59 = .ok (.iload 4, 2) := by decide +kernel
theorem dX9_layPaid_61 : decode cX9_layPaid 61 = .ok (.iconst 3, 1) := by decide +kernel
theorem dX9_layPaid_62 : decode cX9_layPaid 62 = .ok (.invokevirtual 356, 3) := by decide +kernel
theorem dX9_layPaid_65 : decode cX9_layPaid 65 = .ok (.bastore, 1) := by decide +kernel
theorem dX9_layPaid_66 : decode cX9_layPaid 66 = .ok (.iinc 4 1, 3) := by decide +kernel
theorem dX9_layPaid_69 : decode cX9_layPaid 69 = .ok (.goto (-31), 3) := by decide +kernel
theorem dX9_layPaid_72 : decode cX9_layPaid 72 = .ok (.return_, 1) := by decide +kernel
theorem dX9_deal_0 : decode cX9_deal 0 = .ok (.aload_n 0, 1) := by decide +kernel
theorem dX9_deal_1 : decode cX9_deal 1 = .ok (.iconst 0, 1) := by decide +kernel
theorem dX9_deal_2 : decode cX9_deal 2 = .ok (.putfield 128, 3) := by decide +kernel
theorem dX9_deal_5 : decode cX9_deal 5 = .ok (.aload_n 0, 1) := by decide +kernel
theorem dX9_deal_6 : decode cX9_deal 6 = .ok (.invokevirtual 383, 3) := by decide +kernel
theorem dX9_deal_9 : decode cX9_deal 9 = .ok (.aload_n 0, 1) := by decide +kernel
theorem dX9_deal_10 : decode cX9_deal 10 = .ok (.iload_n 1, 1) := by decide +kernel
theorem dX9_deal_11 : decode cX9_deal 11 = .ok (.invokevirtual 377, 3) := by decide +kernel
theorem dX9_deal_14 : decode cX9_deal 14 = .ok (.ifCond .eq 31, 3) := by decide +kernel
theorem dX9_deal_17 : decode cX9_deal 17 = .ok (.aload_n 0, 1) := by decide +kernel
theorem dX9_deal_18 : decode cX9_deal 18 = .ok (.iload_n 2, 1) := by decide +kernel
theorem dX9_deal_19 : decode cX9_deal 19 = .ok (.invokevirtual 299, 3) := by decide +kernel
theorem dX9_deal_22 : decode cX9_deal 22 = .ok (.ifCond .eq 23, 3) := by decide +kernel
theorem dX9_deal_25 : decode cX9_deal 25 = .ok (.iload_n 3, 1) := by decide +kernel
theorem dX9_deal_26 : decode cX9_deal 26 = .ok (.i2l, 1) := by decide +kernel
theorem dX9_deal_27 : decode cX9_deal 27 = .ok (.lconst 1, 1) := by decide +kernel
theorem dX9_deal_28 : decode cX9_deal 28 = .ok (.ldc2_w 386, 3) := by decide +kernel
theorem dX9_deal_31 : decode cX9_deal 31 = .ok (.invokestatic 261, 3) := by decide +kernel
theorem dX9_deal_34 : decode cX9_deal 34 = .ok (.ifCond .eq 11, 3) := by decide +kernel
theorem dX9_deal_37 : decode cX9_deal 37 = .ok (.iload 4, 2) := by decide +kernel
theorem dX9_deal_39 : decode cX9_deal 39 = .ok (.invokestatic 302, 3) := by decide +kernel
theorem dX9_deal_42 : decode cX9_deal 42 = .ok (.ifCond .ne 7, 3) := by decide +kernel
theorem dX9_deal_45 : decode cX9_deal 45 = .ok (.iconst (-1), 1) := by decide +kernel
theorem dX9_deal_46 : decode cX9_deal 46 = .ok (.goto 20, 3) := by decide +kernel
theorem dX9_deal_49 : decode cX9_deal 49 = .ok (.aload_n 0, 1) := by decide +kernel
theorem dX9_deal_50 : decode cX9_deal 50 = .ok (.iload_n 1, 1) := by decide +kernel
theorem dX9_deal_51 : decode cX9_deal 51 = .ok (.iload_n 2, 1) := by decide +kernel
theorem dX9_deal_52 : decode cX9_deal 52 = .ok (.iload_n 3, 1) := by decide +kernel
theorem dX9_deal_53 : decode cX9_deal 53 = .ok (.iload 4, 2) := by decide +kernel
theorem dX9_deal_55 : decode cX9_deal 55 = .ok (.invokevirtual 388, 3) := by decide +kernel
theorem dX9_deal_58 : decode cX9_deal 58 = .ok (.ifCond .eq 7, 3) := by decide +kernel
theorem dX9_deal_61 : decode cX9_deal 61 = .ok (.iconst 1, 1) := by decide +kernel
theorem dX9_deal_62 : decode cX9_deal 62 = .ok (.goto 4, 3) := by decide +kernel
theorem dX9_deal_65 : decode cX9_deal 65 = .ok (.iconst 0, 1) := by decide +kernel
theorem dX9_deal_66 : decode cX9_deal 66 = .ok (.ireturn, 1) := by decide +kernel
theorem dX9_isDeal_0 : decode cX9_isDeal 0 = .ok (.bipush 6, 2) := by decide +kernel
theorem dX9_isDeal_2 : decode cX9_isDeal 2 = .ok (.iload_n 1, 1) := by decide +kernel
theorem dX9_isDeal_3 : decode cX9_isDeal 3 = .ok (.imul, 1) := by decide +kernel
theorem dX9_isDeal_4 : decode cX9_isDeal 4 = .ok (.iload_n 2, 1) := by decide +kernel
theorem dX9_isDeal_5 : decode cX9_isDeal 5 = .ok (.iadd, 1) := by decide +kernel
theorem dX9_isDeal_6 : decode cX9_isDeal 6 = .ok (.bipush 7, 2) := by decide +kernel
theorem dX9_isDeal_8 : decode cX9_isDeal 8 = .ok (.imul, 1) := by decide +kernel
theorem dX9_isDeal_9 : decode cX9_isDeal 9 = .ok (.iload_n 3, 1) := by decide +kernel
theorem dX9_isDeal_10 : decode cX9_isDeal 10 = .ok (.iadd, 1) := by decide +kernel
theorem dX9_isDeal_11 : decode cX9_isDeal 11 = .ok (.bipush 100, 2) := by decide +kernel
theorem dX9_isDeal_13 : decode cX9_isDeal 13 = .ok (.imul, 1) := by decide +kernel
theorem dX9_isDeal_14 : decode cX9_isDeal 14 = .ok (.iload 4, 2) := by decide +kernel
theorem dX9_isDeal_16 : decode cX9_isDeal 16 = .ok (.iadd, 1) := by decide +kernel
theorem dX9_isDeal_17 : decode cX9_isDeal 17 = .ok (.istore 5, 2) := by decide +kernel
theorem dX9_isDeal_19 : decode cX9_isDeal 19 = .ok (.aload_n 0, 1) := by decide +kernel
theorem dX9_isDeal_20 : decode cX9_isDeal 20 = .ok (.getfield 95, 3) := by decide +kernel
theorem dX9_isDeal_23 : decode cX9_isDeal 23 = .ok (.iload 5, 2) := by decide +kernel
theorem dX9_isDeal_25 : decode cX9_isDeal 25 = .ok (.baload, 1) := by decide +kernel
theorem dX9_isDeal_26 : decode cX9_isDeal 26 = .ok (.ifCond .ne 28, 3) := by decide +kernel
theorem dX9_isDeal_29 : decode cX9_isDeal 29 = .ok (.aload_n 0, 1) := by decide +kernel
theorem dX9_isDeal_30 : decode cX9_isDeal 30 = .ok (.getfield 95, 3) := by decide +kernel
theorem dX9_isDeal_33 : decode cX9_isDeal 33 = .ok (.iload 5, 2) := by decide +kernel
theorem dX9_isDeal_35 : decode cX9_isDeal 35 = .ok (.aload_n 0, 1) := by decide +kernel
theorem dX9_isDeal_36 : decode cX9_isDeal 36 = .ok (.iload_n 1, 1) := by decide +kernel
theorem dX9_isDeal_37 : decode cX9_isDeal 37 = .ok (.iload_n 2, 1) := by decide +kernel
theorem dX9_isDeal_38 : decode cX9_isDeal 38 = .ok (.iload_n 3, 1) := by decide +kernel
theorem dX9_isDeal_39 : decode cX9_isDeal 39 = .ok (.iload 4, 2) := by decide +kernel
theorem dX9_isDeal_41 : decode cX9_isDeal 41 = .ok (.invokevirtual 388, 3) := by decide +kernel
theorem dX9_isDeal_44 : decode cX9_isDeal 44 = .ok (.ifCond .eq 7, 3) := by decide +kernel
theorem dX9_isDeal_47 : decode cX9_isDeal 47 = .ok (.iconst 2, 1) := by decide +kernel
theorem dX9_isDeal_48 : decode cX9_isDeal 48 = .ok (.goto 4, 3) := by decide +kernel
theorem dX9_isDeal_51 : decode cX9_isDeal 51 = .ok (.iconst 1, 1) := by decide +kernel
theorem dX9_isDeal_52 : decode cX9_isDeal 52 = .ok (.i2b, 1) := by decide +kernel
theorem dX9_isDeal_53 : decode cX9_isDeal 53 = .ok (.bastore, 1) := by decide +kernel
theorem dX9_isDeal_54 : decode cX9_isDeal 54 = .ok (.aload_n 0, 1) := by decide +kernel
theorem dX9_isDeal_55 : decode cX9_isDeal 55 = .ok (.getfield 95, 3) := by decide +kernel
theorem dX9_isDeal_58 : decode cX9_isDeal 58 = .ok (.iload 5, 2) := by decide +kernel
theorem dX9_isDeal_60 : decode cX9_isDeal 60 = .ok (.baload, 1) := by decide +kernel
theorem dX9_isDeal_61 : decode cX9_isDeal 61 = .ok (.iconst 2, 1) := by decide +kernel
theorem dX9_isDeal_62 : decode cX9_isDeal 62 = .ok (.if_icmp .ne 7, 3) := by decide +kernel
theorem dX9_isDeal_65 : decode cX9_isDeal 65 = .ok (.iconst 1, 1) := by decide +kernel
theorem dX9_isDeal_66 : decode cX9_isDeal 66 = .ok (.goto 4, 3) := by decide +kernel
theorem dX9_isDeal_69 : decode cX9_isDeal 69 = .ok (.iconst 0, 1) := by decide +kernel
theorem dX9_isDeal_70 : decode cX9_isDeal 70 = .ok (.ireturn, 1) := by decide +kernel
theorem dX9_goLeg_0 : decode cX9_goLeg 0 = .ok (.iload 5, 2) := by decide +kernel
theorem dX9_goLeg_2 : decode cX9_goLeg 2 = .ok (.istore 8, 2) := by decide +kernel
theorem dX9_goLeg_4 : decode cX9_goLeg 4 = .ok (.iload 7, 2) := by decide +kernel
theorem dX9_goLeg_6 : decode cX9_goLeg 6 = .ok (.istore 9, 2) := by decide +kernel
theorem dX9_goLeg_8 : decode cX9_goLeg 8 = .ok (.iload 9, 2) := by decide +kernel
theorem dX9_goLeg_10 : decode cX9_goLeg 10 = .ok (.ifCond .le 40, 3) := by decide +kernel
theorem dX9_goLeg_13 : decode cX9_goLeg 13 = .ok (.aload_n 0, 1) := by decide +kernel
theorem dX9_goLeg_14 : decode cX9_goLeg 14 = .ok (.iload 6, 2) := by decide +kernel
theorem dX9_goLeg_16 : decode cX9_goLeg 16 = .ok (.iload_n 3, 1) := by decide +kernel
theorem dX9_goLeg_17 : decode cX9_goLeg 17 = .ok (.iload 9, 2) := by decide +kernel
theorem dX9_goLeg_19 : decode cX9_goLeg 19 = .ok (.iload 4, 2) := by decide +kernel
theorem dX9_goLeg_21 : decode cX9_goLeg 21 = .ok (.invokevirtual 392, 3) := by decide +kernel
theorem dX9_goLeg_24 : decode cX9_goLeg 24 = .ok (.ifCond .eq 26, 3) := by decide +kernel
theorem dX9_goLeg_27 : decode cX9_goLeg 27 = .ok (.iload 8, 2) := by decide +kernel
theorem dX9_goLeg_29 : decode cX9_goLeg 29 = .ok (.iload 9, 2) := by decide +kernel
theorem dX9_goLeg_31 : decode cX9_goLeg 31 = .ok (.aload_n 0, 1) := by decide +kernel
theorem dX9_goLeg_32 : decode cX9_goLeg 32 = .ok (.getfield 85, 3) := by decide +kernel
theorem dX9_goLeg_35 : decode cX9_goLeg 35 = .ok (.bipush 6, 2) := by decide +kernel
theorem dX9_goLeg_37 : decode cX9_goLeg 37 = .ok (.iload 6, 2) := by decide +kernel
theorem dX9_goLeg_39 : decode cX9_goLeg 39 = .ok (.imul, 1) := by decide +kernel
theorem dX9_goLeg_40 : decode cX9_goLeg 40 = .ok (.iload_n 3, 1) := by decide +kernel
theorem dX9_goLeg_41 : decode cX9_goLeg 41 = .ok (.iadd, 1) := by decide +kernel
theorem dX9_goLeg_42 : decode cX9_goLeg 42 = .ok (.iaload, 1) := by decide +kernel
theorem dX9_goLeg_43 : decode cX9_goLeg 43 = .ok (.imul, 1) := by decide +kernel
theorem dX9_goLeg_44 : decode cX9_goLeg 44 = .ok (.iadd, 1) := by decide +kernel
theorem dX9_goLeg_45 : decode cX9_goLeg 45 = .ok (.istore 8, 2) := by decide +kernel
theorem dX9_goLeg_47 : decode cX9_goLeg 47 = .ok (.iconst 0, 1) := by decide +kernel
theorem dX9_goLeg_48 : decode cX9_goLeg 48 = .ok (.istore 9, 2) := by decide +kernel
theorem dX9_goLeg_50 : decode cX9_goLeg 50 = .ok (.iload_n 1, 1) := by decide +kernel
theorem dX9_goLeg_51 : decode cX9_goLeg 51 = .ok (.iload_n 2, 1) := by decide +kernel
theorem dX9_goLeg_52 : decode cX9_goLeg 52 = .ok (.if_icmp .ne 50, 3) := by decide +kernel
theorem dX9_goLeg_55 : decode cX9_goLeg 55 = .ok (.iload 8, 2) := by decide +kernel
theorem dX9_goLeg_57 : decode cX9_goLeg 57 = .ok (.aload_n 0, 1) := by decide +kernel
theorem dX9_goLeg_58 : decode cX9_goLeg 58 = .ok (.getfield 395, 3) := by decide +kernel
theorem dX9_goLeg_61 : decode cX9_goLeg 61 = .ok (.if_icmp .gt 4, 3) := by decide +kernel
theorem dX9_goLeg_64 : decode cX9_goLeg 64 = .ok (.return_, 1) := by decide +kernel
theorem dX9_goLeg_65 : decode cX9_goLeg 65 = .ok (.aload_n 0, 1) := by decide +kernel
theorem dX9_goLeg_66 : decode cX9_goLeg 66 = .ok (.iload 8, 2) := by decide +kernel
theorem dX9_goLeg_68 : decode cX9_goLeg 68 = .ok (.putfield 395, 3) := by decide +kernel
theorem dX9_goLeg_71 : decode cX9_goLeg 71 = .ok (.iconst 0, 1) := by decide +kernel
theorem dX9_goLeg_72 : decode cX9_goLeg 72 = .ok (.istore 10, 2) := by decide +kernel
theorem dX9_goLeg_74 : decode cX9_goLeg 74 = .ok (.iload 10, 2) := by decide +kernel
theorem dX9_goLeg_76 : decode cX9_goLeg 76 = .ok (.bipush 9, 2) := by decide +kernel
theorem dX9_goLeg_78 : decode cX9_goLeg 78 = .ok (.if_icmp .ge 23, 3) := by decide +kernel
theorem dX9_goLeg_81 : decode cX9_goLeg 81 = .ok (.aload_n 0, 1) := by decide +kernel
theorem dX9_goLeg_82 : decode cX9_goLeg 82 = .ok (.getfield 101, 3) := by decide +kernel
theorem dX9_goLeg_85 : decode cX9_goLeg 85 = .ok (.iload 10, 2) := by decide +kernel
theorem dX9_goLeg_87 : decode cX9_goLeg 87 = .ok (.aload_n 0, 1) := by decide +kernel
theorem dX9_goLeg_88 : decode cX9_goLeg 88 = .ok (.getfield 98, 3) := by decide +kernel
theorem dX9_goLeg_91 : decode cX9_goLeg 91 = .ok (.iload 10, 2) := by decide +kernel
theorem dX9_goLeg_93 : decode cX9_goLeg 93 = .ok (.iaload, 1) := by decide +kernel
theorem dX9_goLeg_94 : decode cX9_goLeg 94 = .ok (.iastore, 1) := by decide +kernel
theorem dX9_goLeg_95 : decode cX9_goLeg 95 = .ok (.iinc 10 1, 3) := by decide +kernel
theorem dX9_goLeg_98 : decode cX9_goLeg 98 = .ok (.goto (-24), 3) := by decide +kernel
theorem dX9_goLeg_101 : decode cX9_goLeg 101 = .ok (.return_, 1) := by decide +kernel
theorem dX9_goLeg_102 : decode cX9_goLeg 102 = .ok (.aload_n 0, 1) := by decide +kernel
theorem dX9_goLeg_103 : decode cX9_goLeg 103 = .ok (.iload_n 1, 1) := by decide +kernel
theorem dX9_goLeg_104 : decode cX9_goLeg 104 = .ok (.iload_n 2, 1) := by decide +kernel
theorem dX9_goLeg_105 : decode cX9_goLeg 105 = .ok (.iload_n 3, 1) := by decide +kernel
theorem dX9_goLeg_106 : decode cX9_goLeg 106 = .ok (.iload 4, 2) := by decide +kernel
theorem dX9_goLeg_108 : decode cX9_goLeg 108 = .ok (.iload 8, 2) := by decide +kernel
theorem dX9_goLeg_110 : decode cX9_goLeg 110 = .ok (.iload 9, 2) := by decide +kernel
theorem dX9_goLeg_112 : decode cX9_goLeg 112 = .ok (.ifCond .le 8, 3) := by decide +kernel
theorem dX9_goLeg_115 : decode cX9_goLeg 115 = .ok (.iload 6, 2) := by decide +kernel
theorem dX9_goLeg_117 : decode cX9_goLeg 117 = .ok (.goto 4, 3) := by decide +kernel
theorem dX9_goLeg_120 : decode cX9_goLeg 120 = .ok (.iconst (-1), 1) := by decide +kernel
theorem dX9_goLeg_121 : decode cX9_goLeg 121 = .ok (.iload 9, 2) := by decide +kernel
theorem dX9_goLeg_123 : decode cX9_goLeg 123 = .ok (.iconst (-1), 1) := by decide +kernel
theorem dX9_goLeg_124 : decode cX9_goLeg 124 = .ok (.iconst 0, 1) := by decide +kernel
theorem dX9_goLeg_125 : decode cX9_goLeg 125 = .ok (.invokevirtual 398, 3) := by decide +kernel
theorem dX9_goLeg_128 : decode cX9_goLeg 128 = .ok (.iconst 0, 1) := by decide +kernel
theorem dX9_goLeg_129 : decode cX9_goLeg 129 = .ok (.istore 10, 2) := by decide +kernel
theorem dX9_goLeg_131 : decode cX9_goLeg 131 = .ok (.iload 10, 2) := by decide +kernel
theorem dX9_goLeg_133 : decode cX9_goLeg 133 = .ok (.aload_n 0, 1) := by decide +kernel
theorem dX9_goLeg_134 : decode cX9_goLeg 134 = .ok (.getfield 279, 3) := by decide +kernel
theorem dX9_goLeg_137 : decode cX9_goLeg 137 = .ok (.if_icmp .ge 92, 3) := by decide +kernel
theorem dX9_goLeg_140 : decode cX9_goLeg 140 = .ok (.iload 9, 2) := by decide +kernel
theorem dX9_goLeg_142 : decode cX9_goLeg 142 = .ok (.ifCond .ne 87, 3) := by decide +kernel
theorem dX9_goLeg_145 : decode cX9_goLeg 145 = .ok (.iconst 1, 1) := by decide +kernel
theorem dX9_goLeg_146 : decode cX9_goLeg 146 = .ok (.istore 11, 2) := by decide +kernel
theorem dX9_goLeg_148 : decode cX9_goLeg 148 = .ok (.iload 11, 2) := by decide +kernel
theorem dX9_goLeg_150 : decode cX9_goLeg 150 = .ok (.aload_n 0, 1) := by decide +kernel
theorem dX9_goLeg_151 : decode cX9_goLeg 151 = .ok (.getfield 402, 3) := by decide +kernel
theorem dX9_goLeg_154 : decode cX9_goLeg 154 = .ok (.if_icmp .gt 69, 3) := by decide +kernel
theorem dX9_goLeg_157 : decode cX9_goLeg 157 = .ok (.iload 11, 2) := by decide +kernel
theorem dX9_goLeg_159 : decode cX9_goLeg 159 = .ok (.aload_n 0, 1) := by decide +kernel
theorem dX9_goLeg_160 : decode cX9_goLeg 160 = .ok (.getfield 85, 3) := by decide +kernel
theorem dX9_goLeg_163 : decode cX9_goLeg 163 = .ok (.bipush 6, 2) := by decide +kernel
theorem dX9_goLeg_165 : decode cX9_goLeg 165 = .ok (.iload 10, 2) := by decide +kernel
theorem dX9_goLeg_167 : decode cX9_goLeg 167 = .ok (.imul, 1) := by decide +kernel
theorem dX9_goLeg_168 : decode cX9_goLeg 168 = .ok (.iload_n 3, 1) := by decide +kernel
theorem dX9_goLeg_169 : decode cX9_goLeg 169 = .ok (.iadd, 1) := by decide +kernel
theorem dX9_goLeg_170 : decode cX9_goLeg 170 = .ok (.iaload, 1) := by decide +kernel
theorem dX9_goLeg_171 : decode cX9_goLeg 171 = .ok (.imul, 1) := by decide +kernel
theorem dX9_goLeg_172 : decode cX9_goLeg 172 = .ok (.istore 12, 2) := by decide +kernel
theorem dX9_goLeg_174 : decode cX9_goLeg 174 = .ok (.iload 12, 2) := by decide +kernel
theorem dX9_goLeg_176 : decode cX9_goLeg 176 = .ok (.iload 8, 2) := by decide +kernel
theorem dX9_goLeg_178 : decode cX9_goLeg 178 = .ok (.if_icmp .gt 39, 3) := by decide +kernel
theorem dX9_goLeg_181 : decode cX9_goLeg 181 = .ok (.aload_n 0, 1) := by decide +kernel
theorem dX9_goLeg_182 : decode cX9_goLeg 182 = .ok (.iload 10, 2) := by decide +kernel
theorem dX9_goLeg_184 : decode cX9_goLeg 184 = .ok (.iload_n 3, 1) := by decide +kernel
theorem dX9_goLeg_185 : decode cX9_goLeg 185 = .ok (.iload 11, 2) := by decide +kernel
theorem dX9_goLeg_187 : decode cX9_goLeg 187 = .ok (.iload 4, 2) := by decide +kernel
theorem dX9_goLeg_189 : decode cX9_goLeg 189 = .ok (.invokevirtual 392, 3) := by decide +kernel
theorem dX9_goLeg_192 : decode cX9_goLeg 192 = .ok (.ifCond .eq 25, 3) := by decide +kernel
theorem dX9_goLeg_195 : decode cX9_goLeg 195 = .ok (.aload_n 0, 1) := by decide +kernel
theorem dX9_goLeg_196 : decode cX9_goLeg 196 = .ok (.iload_n 1, 1) := by decide +kernel
theorem dX9_goLeg_197 : decode cX9_goLeg 197 = .ok (.iload_n 2, 1) := by decide +kernel
theorem dX9_goLeg_198 : decode cX9_goLeg 198 = .ok (.iload_n 3, 1) := by decide +kernel
theorem dX9_goLeg_199 : decode cX9_goLeg 199 = .ok (.iload 4, 2) := by decide +kernel
theorem dX9_goLeg_201 : decode cX9_goLeg 201 = .ok (.iload 8, 2) := by decide +kernel
theorem dX9_goLeg_203 : decode cX9_goLeg 203 = .ok (.iload 12, 2) := by decide +kernel
theorem dX9_goLeg_205 : decode cX9_goLeg 205 = .ok (.isub, 1) := by decide +kernel
theorem dX9_goLeg_206 : decode cX9_goLeg 206 = .ok (.iload 10, 2) := by decide +kernel
theorem dX9_goLeg_208 : decode cX9_goLeg 208 = .ok (.iload 11, 2) := by decide +kernel
theorem dX9_goLeg_210 : decode cX9_goLeg 210 = .ok (.iload 10, 2) := by decide +kernel
theorem dX9_goLeg_212 : decode cX9_goLeg 212 = .ok (.iload 11, 2) := by decide +kernel
theorem dX9_goLeg_214 : decode cX9_goLeg 214 = .ok (.invokevirtual 398, 3) := by decide +kernel
theorem dX9_goLeg_217 : decode cX9_goLeg 217 = .ok (.iinc 11 1, 3) := by decide +kernel
theorem dX9_goLeg_220 : decode cX9_goLeg 220 = .ok (.goto (-72), 3) := by decide +kernel
theorem dX9_goLeg_223 : decode cX9_goLeg 223 = .ok (.iinc 10 1, 3) := by decide +kernel
theorem dX9_goLeg_226 : decode cX9_goLeg 226 = .ok (.goto (-95), 3) := by decide +kernel
theorem dX9_goLeg_229 : decode cX9_goLeg 229 = .ok (.return_, 1) := by decide +kernel
theorem dX9_goOff_0 : decode cX9_goOff 0 = .ok (.aload_n 0, 1) := by decide +kernel
theorem dX9_goOff_1 : decode cX9_goOff 1 = .ok (.getfield 98, 3) := by decide +kernel
theorem dX9_goOff_4 : decode cX9_goOff 4 = .ok (.iconst 3, 1) := by decide +kernel
theorem dX9_goOff_5 : decode cX9_goOff 5 = .ok (.iload_n 1, 1) := by decide +kernel
theorem dX9_goOff_6 : decode cX9_goOff 6 = .ok (.imul, 1) := by decide +kernel
theorem dX9_goOff_7 : decode cX9_goOff 7 = .ok (.iload 8, 2) := by decide +kernel
theorem dX9_goOff_9 : decode cX9_goOff 9 = .ok (.iastore, 1) := by decide +kernel
theorem dX9_goOff_10 : decode cX9_goOff 10 = .ok (.aload_n 0, 1) := by decide +kernel
theorem dX9_goOff_11 : decode cX9_goOff 11 = .ok (.getfield 98, 3) := by decide +kernel
theorem dX9_goOff_14 : decode cX9_goOff 14 = .ok (.iconst 3, 1) := by decide +kernel
theorem dX9_goOff_15 : decode cX9_goOff 15 = .ok (.iload_n 1, 1) := by decide +kernel
theorem dX9_goOff_16 : decode cX9_goOff 16 = .ok (.imul, 1) := by decide +kernel
theorem dX9_goOff_17 : decode cX9_goOff 17 = .ok (.iconst 1, 1) := by decide +kernel
theorem dX9_goOff_18 : decode cX9_goOff 18 = .ok (.iadd, 1) := by decide +kernel
theorem dX9_goOff_19 : decode cX9_goOff 19 = .ok (.iload 9, 2) := by decide +kernel
theorem dX9_goOff_21 : decode cX9_goOff 21 = .ok (.iastore, 1) := by decide +kernel
theorem dX9_goOff_22 : decode cX9_goOff 22 = .ok (.iconst 0, 1) := by decide +kernel
theorem dX9_goOff_23 : decode cX9_goOff 23 = .ok (.istore 10, 2) := by decide +kernel
theorem dX9_goOff_25 : decode cX9_goOff 25 = .ok (.iload 10, 2) := by decide +kernel
theorem dX9_goOff_27 : decode cX9_goOff 27 = .ok (.aload_n 0, 1) := by decide +kernel
theorem dX9_goOff_28 : decode cX9_goOff 28 = .ok (.getfield 276, 3) := by decide +kernel
theorem dX9_goOff_31 : decode cX9_goOff 31 = .ok (.if_icmp .ge 69, 3) := by decide +kernel
theorem dX9_goOff_34 : decode cX9_goOff 34 = .ok (.aload_n 0, 1) := by decide +kernel
theorem dX9_goOff_35 : decode cX9_goOff 35 = .ok (.getfield 43, 3) := by decide +kernel
theorem dX9_goOff_38 : decode cX9_goOff 38 = .ok (.bipush 6, 2) := by decide +kernel
theorem dX9_goOff_40 : decode cX9_goOff 40 = .ok (.iload_n 3, 1) := by decide +kernel
theorem dX9_goOff_41 : decode cX9_goOff 41 = .ok (.imul, 1) := by decide +kernel
theorem dX9_goOff_42 : decode cX9_goOff 42 = .ok (.iload 10, 2) := by decide +kernel
theorem dX9_goOff_44 : decode cX9_goOff 44 = .ok (.iadd, 1) := by decide +kernel
theorem dX9_goOff_45 : decode cX9_goOff 45 = .ok (.iaload, 1) := by decide +kernel
theorem dX9_goOff_46 : decode cX9_goOff 46 = .ok (.istore 11, 2) := by decide +kernel
theorem dX9_goOff_48 : decode cX9_goOff 48 = .ok (.iload 11, 2) := by decide +kernel
theorem dX9_goOff_50 : decode cX9_goOff 50 = .ok (.ifCond .ne 6, 3) := by decide +kernel
theorem dX9_goOff_53 : decode cX9_goOff 53 = .ok (.goto 41, 3) := by decide +kernel
theorem dX9_goOff_56 : decode cX9_goOff 56 = .ok (.aload_n 0, 1) := by decide +kernel
theorem dX9_goOff_57 : decode cX9_goOff 57 = .ok (.getfield 98, 3) := by decide +kernel
theorem dX9_goOff_60 : decode cX9_goOff 60 = .ok (.iconst 3, 1) := by decide +kernel
theorem dX9_goOff_61 : decode cX9_goOff 61 = .ok (.iload_n 1, 1) := by decide +kernel
theorem dX9_goOff_62 : decode cX9_goOff 62 = .ok (.imul, 1) := by decide +kernel
theorem dX9_goOff_63 : decode cX9_goOff 63 = .ok (.iconst 2, 1) := by decide +kernel
theorem dX9_goOff_64 : decode cX9_goOff 64 = .ok (.iadd, 1) := by decide +kernel
theorem dX9_goOff_65 : decode cX9_goOff 65 = .ok (.iload 10, 2) := by decide +kernel
theorem dX9_goOff_67 : decode cX9_goOff 67 = .ok (.iastore, 1) := by decide +kernel
theorem dX9_goOff_68 : decode cX9_goOff 68 = .ok (.aload_n 0, 1) := by decide +kernel
theorem dX9_goOff_69 : decode cX9_goOff 69 = .ok (.iload_n 1, 1) := by decide +kernel
theorem dX9_goOff_70 : decode cX9_goOff 70 = .ok (.iconst 1, 1) := by decide +kernel
theorem dX9_goOff_71 : decode cX9_goOff 71 = .ok (.iadd, 1) := by decide +kernel
theorem dX9_goOff_72 : decode cX9_goOff 72 = .ok (.iload_n 2, 1) := by decide +kernel
theorem dX9_goOff_73 : decode cX9_goOff 73 = .ok (.iload 10, 2) := by decide +kernel
theorem dX9_goOff_75 : decode cX9_goOff 75 = .ok (.bipush 99, 2) := by decide +kernel
theorem dX9_goOff_77 : decode cX9_goOff 77 = .ok (.iload 4, 2) := by decide +kernel
theorem dX9_goOff_79 : decode cX9_goOff 79 = .ok (.iload 11, 2) := by decide +kernel
theorem dX9_goOff_81 : decode cX9_goOff 81 = .ok (.iadd, 1) := by decide +kernel
theorem dX9_goOff_82 : decode cX9_goOff 82 = .ok (.invokestatic 347, 3) := by decide +kernel
theorem dX9_goOff_85 : decode cX9_goOff 85 = .ok (.iload 5, 2) := by decide +kernel
theorem dX9_goOff_87 : decode cX9_goOff 87 = .ok (.iload 6, 2) := by decide +kernel
theorem dX9_goOff_89 : decode cX9_goOff 89 = .ok (.iload 7, 2) := by decide +kernel
theorem dX9_goOff_91 : decode cX9_goOff 91 = .ok (.invokevirtual 405, 3) := by decide +kernel
theorem dX9_goOff_94 : decode cX9_goOff 94 = .ok (.iinc 10 1, 3) := by decide +kernel
theorem dX9_goOff_97 : decode cX9_goOff 97 = .ok (.goto (-72), 3) := by decide +kernel
theorem dX9_goOff_100 : decode cX9_goOff 100 = .ok (.return_, 1) := by decide +kernel
theorem dX9_gain_0 : decode cX9_gain 0 = .ok (.aload_n 0, 1) := by decide +kernel
theorem dX9_gain_1 : decode cX9_gain 1 = .ok (.iconst 0, 1) := by decide +kernel
theorem dX9_gain_2 : decode cX9_gain 2 = .ok (.putfield 128, 3) := by decide +kernel
theorem dX9_gain_5 : decode cX9_gain 5 = .ok (.aload_n 0, 1) := by decide +kernel
theorem dX9_gain_6 : decode cX9_gain 6 = .ok (.iload_n 1, 1) := by decide +kernel
theorem dX9_gain_7 : decode cX9_gain 7 = .ok (.invokevirtual 299, 3) := by decide +kernel
theorem dX9_gain_10 : decode cX9_gain 10 = .ok (.ifCond .eq 59, 3) := by decide +kernel
theorem dX9_gain_13 : decode cX9_gain 13 = .ok (.iload_n 2, 1) := by decide +kernel
theorem dX9_gain_14 : decode cX9_gain 14 = .ok (.i2l, 1) := by decide +kernel
theorem dX9_gain_15 : decode cX9_gain 15 = .ok (.lconst 0, 1) := by decide +kernel
theorem dX9_gain_16 : decode cX9_gain 16 = .ok (.ldc2_w 309, 3) := by decide +kernel
theorem dX9_gain_19 : decode cX9_gain 19 = .ok (.invokestatic 261, 3) := by decide +kernel
theorem dX9_gain_22 : decode cX9_gain 22 = .ok (.ifCond .eq 47, 3) := by decide +kernel
theorem dX9_gain_25 : decode cX9_gain 25 = .ok (.iload_n 3, 1) := by decide +kernel
theorem dX9_gain_26 : decode cX9_gain 26 = .ok (.i2l, 1) := by decide +kernel
theorem dX9_gain_27 : decode cX9_gain 27 = .ok (.lconst 1, 1) := by decide +kernel
theorem dX9_gain_28 : decode cX9_gain 28 = .ok (.ldc2_w 386, 3) := by decide +kernel
theorem dX9_gain_31 : decode cX9_gain 31 = .ok (.invokestatic 261, 3) := by decide +kernel
theorem dX9_gain_34 : decode cX9_gain 34 = .ok (.ifCond .eq 35, 3) := by decide +kernel
theorem dX9_gain_37 : decode cX9_gain 37 = .ok (.iload 4, 2) := by decide +kernel
theorem dX9_gain_39 : decode cX9_gain 39 = .ok (.i2l, 1) := by decide +kernel
theorem dX9_gain_40 : decode cX9_gain 40 = .ok (.lconst 0, 1) := by decide +kernel
theorem dX9_gain_41 : decode cX9_gain 41 = .ok (.ldc2_w 409, 3) := by decide +kernel
theorem dX9_gain_44 : decode cX9_gain 44 = .ok (.invokestatic 261, 3) := by decide +kernel
theorem dX9_gain_47 : decode cX9_gain 47 = .ok (.ifCond .eq 22, 3) := by decide +kernel
theorem dX9_gain_50 : decode cX9_gain 50 = .ok (.iload 5, 2) := by decide +kernel
theorem dX9_gain_52 : decode cX9_gain 52 = .ok (.i2l, 1) := by decide +kernel
theorem dX9_gain_53 : decode cX9_gain 53 = .ok (.ldc2_w 351, 3) := by decide +kernel
theorem dX9_gain_56 : decode cX9_gain 56 = .ok (.iconst 3, 1) := by decide +kernel
theorem dX9_gain_57 : decode cX9_gain 57 = .ok (.iload 4, 2) := by decide +kernel
theorem dX9_gain_59 : decode cX9_gain 59 = .ok (.imul, 1) := by decide +kernel
theorem dX9_gain_60 : decode cX9_gain 60 = .ok (.iconst 1, 1) := by decide +kernel
theorem dX9_gain_61 : decode cX9_gain 61 = .ok (.isub, 1) := by decide +kernel
theorem dX9_gain_62 : decode cX9_gain 62 = .ok (.i2l, 1) := by decide +kernel
theorem dX9_gain_63 : decode cX9_gain 63 = .ok (.invokestatic 261, 3) := by decide +kernel
theorem dX9_gain_66 : decode cX9_gain 66 = .ok (.ifCond .ne 7, 3) := by decide +kernel
theorem dX9_gain_69 : decode cX9_gain 69 = .ok (.ldc_w 411, 3) := by decide +kernel
theorem dX9_gain_72 : decode cX9_gain 72 = .ok (.ireturn, 1) := by decide +kernel
theorem dX9_gain_73 : decode cX9_gain 73 = .ok (.iconst 0, 1) := by decide +kernel
theorem dX9_gain_74 : decode cX9_gain 74 = .ok (.istore 6, 2) := by decide +kernel
theorem dX9_gain_76 : decode cX9_gain 76 = .ok (.iload 6, 2) := by decide +kernel
theorem dX9_gain_78 : decode cX9_gain 78 = .ok (.aload_n 0, 1) := by decide +kernel
theorem dX9_gain_79 : decode cX9_gain 79 = .ok (.getfield 95, 3) := by decide +kernel
theorem dX9_gain_82 : decode cX9_gain 82 = .ok (.arraylength, 1) := by decide +kernel
theorem dX9_gain_83 : decode cX9_gain 83 = .ok (.if_icmp .ge 17, 3) := by decide +kernel
theorem dX9_gain_86 : decode cX9_gain 86 = .ok (.aload_n 0, 1) := by decide +kernel
theorem dX9_gain_87 : decode cX9_gain 87 = .ok (.getfield 95, 3) := by decide +kernel
theorem dX9_gain_90 : decode cX9_gain 90 = .ok (.iload 6, 2) := by decide +kernel
theorem dX9_gain_92 : decode cX9_gain 92 = .ok (.iconst 0, 1) := by decide +kernel
theorem dX9_gain_93 : decode cX9_gain 93 = .ok (.bastore, 1) := by decide +kernel
theorem dX9_gain_94 : decode cX9_gain 94 = .ok (.iinc 6 1, 3) := by decide +kernel
theorem dX9_gain_97 : decode cX9_gain 97 = .ok (.goto (-21), 3) := by decide +kernel
theorem dX9_gain_100 : decode cX9_gain 100 = .ok (.aload_n 0, 1) := by decide +kernel
theorem dX9_gain_101 : decode cX9_gain 101 = .ok (.invokevirtual 383, 3) := by decide +kernel
theorem dX9_gain_104 : decode cX9_gain 104 = .ok (.iconst 0, 1) := by decide +kernel
theorem dX9_gain_105 : decode cX9_gain 105 = .ok (.istore 6, 2) := by decide +kernel
theorem dX9_gain_107 : decode cX9_gain 107 = .ok (.iload 6, 2) := by decide +kernel
theorem dX9_gain_109 : decode cX9_gain 109 = .ok (.bipush 9, 2) := by decide +kernel
theorem dX9_gain_111 : decode cX9_gain 111 = .ok (.if_icmp .ge 17, 3) := by decide +kernel
theorem dX9_gain_114 : decode cX9_gain 114 = .ok (.aload_n 0, 1) := by decide +kernel
theorem dX9_gain_115 : decode cX9_gain 115 = .ok (.getfield 98, 3) := by decide +kernel
theorem dX9_gain_118 : decode cX9_gain 118 = .ok (.iload 6, 2) := by decide +kernel
theorem dX9_gain_120 : decode cX9_gain 120 = .ok (.iconst (-1), 1) := by decide +kernel
theorem dX9_gain_121 : decode cX9_gain 121 = .ok (.iastore, 1) := by decide +kernel
theorem dX9_gain_122 : decode cX9_gain 122 = .ok (.iinc 6 1, 3) := by decide +kernel
theorem dX9_gain_125 : decode cX9_gain 125 = .ok (.goto (-18), 3) := by decide +kernel
theorem dX9_gain_128 : decode cX9_gain 128 = .ok (.aload_n 0, 1) := by decide +kernel
theorem dX9_gain_129 : decode cX9_gain 129 = .ok (.iload_n 3, 1) := by decide +kernel
theorem dX9_gain_130 : decode cX9_gain 130 = .ok (.putfield 402, 3) := by decide +kernel
theorem dX9_gain_133 : decode cX9_gain 133 = .ok (.aload_n 0, 1) := by decide +kernel
theorem dX9_gain_134 : decode cX9_gain 134 = .ok (.iconst (-1), 1) := by decide +kernel
theorem dX9_gain_135 : decode cX9_gain 135 = .ok (.putfield 395, 3) := by decide +kernel
theorem dX9_gain_138 : decode cX9_gain 138 = .ok (.aload_n 0, 1) := by decide +kernel
theorem dX9_gain_139 : decode cX9_gain 139 = .ok (.iconst 0, 1) := by decide +kernel
theorem dX9_gain_140 : decode cX9_gain 140 = .ok (.iload 4, 2) := by decide +kernel
theorem dX9_gain_142 : decode cX9_gain 142 = .ok (.iload_n 1, 1) := by decide +kernel
theorem dX9_gain_143 : decode cX9_gain 143 = .ok (.aload_n 0, 1) := by decide +kernel
theorem dX9_gain_144 : decode cX9_gain 144 = .ok (.getfield 288, 3) := by decide +kernel
theorem dX9_gain_147 : decode cX9_gain 147 = .ok (.iload_n 2, 1) := by decide +kernel
theorem dX9_gain_148 : decode cX9_gain 148 = .ok (.iconst (-1), 1) := by decide +kernel
theorem dX9_gain_149 : decode cX9_gain 149 = .ok (.iconst 0, 1) := by decide +kernel
theorem dX9_gain_150 : decode cX9_gain 150 = .ok (.invokevirtual 405, 3) := by decide +kernel
theorem dX9_gain_153 : decode cX9_gain 153 = .ok (.aload_n 0, 1) := by decide +kernel
theorem dX9_gain_154 : decode cX9_gain 154 = .ok (.getfield 395, 3) := by decide +kernel
theorem dX9_gain_157 : decode cX9_gain 157 = .ok (.iconst (-1), 1) := by decide +kernel
theorem dX9_gain_158 : decode cX9_gain 158 = .ok (.if_icmp .ne 9, 3) := by decide +kernel
theorem dX9_gain_161 : decode cX9_gain 161 = .ok (.ldc_w 411, 3) := by decide +kernel
theorem dX9_gain_164 : decode cX9_gain 164 = .ok (.goto 25, 3) := by decide +kernel
theorem dX9_gain_167 : decode cX9_gain 167 = .ok (.iload 5, 2) := by decide +kernel
theorem dX9_gain_169 : decode cX9_gain 169 = .ok (.iconst (-1), 1) := by decide +kernel
theorem dX9_gain_170 : decode cX9_gain 170 = .ok (.if_icmp .ne 12, 3) := by decide +kernel
theorem dX9_gain_173 : decode cX9_gain 173 = .ok (.aload_n 0, 1) := by decide +kernel
theorem dX9_gain_174 : decode cX9_gain 174 = .ok (.getfield 395, 3) := by decide +kernel
theorem dX9_gain_177 : decode cX9_gain 177 = .ok (.iload_n 2, 1) := by decide +kernel
theorem dX9_gain_178 : decode cX9_gain 178 = .ok (.isub, 1) := by decide +kernel
theorem dX9_gain_179 : decode cX9_gain 179 = .ok (.goto 10, 3) := by decide +kernel
theorem dX9_gain_182 : decode cX9_gain 182 = .ok (.aload_n 0, 1) := by decide +kernel
theorem dX9_gain_183 : decode cX9_gain 183 = .ok (.getfield 101, 3) := by decide +kernel
theorem dX9_gain_186 : decode cX9_gain 186 = .ok (.iload 5, 2) := by decide +kernel
theorem dX9_gain_188 : decode cX9_gain 188 = .ok (.iaload, 1) := by decide +kernel
theorem dX9_gain_189 : decode cX9_gain 189 = .ok (.ireturn, 1) := by decide +kernel
theorem dX9_today_0 : decode cX9_today 0 = .ok (.aload_n 0, 1) := by decide +kernel
theorem dX9_today_1 : decode cX9_today 1 = .ok (.iconst 0, 1) := by decide +kernel
theorem dX9_today_2 : decode cX9_today 2 = .ok (.putfield 128, 3) := by decide +kernel
theorem dX9_today_5 : decode cX9_today 5 = .ok (.iload_n 1, 1) := by decide +kernel
theorem dX9_today_6 : decode cX9_today 6 = .ok (.invokestatic 302, 3) := by decide +kernel
theorem dX9_today_9 : decode cX9_today 9 = .ok (.ifCond .ne 5, 3) := by decide +kernel
theorem dX9_today_12 : decode cX9_today 12 = .ok (.iconst 0, 1) := by decide +kernel
theorem dX9_today_13 : decode cX9_today 13 = .ok (.ireturn, 1) := by decide +kernel
theorem dX9_today_14 : decode cX9_today 14 = .ok (.aload_n 0, 1) := by decide +kernel
theorem dX9_today_15 : decode cX9_today 15 = .ok (.iload_n 1, 1) := by decide +kernel
theorem dX9_today_16 : decode cX9_today 16 = .ok (.putfield 288, 3) := by decide +kernel
theorem dX9_today_19 : decode cX9_today 19 = .ok (.iconst 1, 1) := by decide +kernel
theorem dX9_today_20 : decode cX9_today 20 = .ok (.ireturn, 1) := by decide +kernel
theorem dX9_changesTo_0 : decode cX9_changesTo 0 = .ok (.aload_n 0, 1) := by decide +kernel
theorem dX9_changesTo_1 : decode cX9_changesTo 1 = .ok (.getfield 52, 3) := by decide +kernel
theorem dX9_changesTo_4 : decode cX9_changesTo 4 = .ok (.aload_n 0, 1) := by decide +kernel
theorem dX9_changesTo_5 : decode cX9_changesTo 5 = .ok (.getfield 282, 3) := by decide +kernel
theorem dX9_changesTo_8 : decode cX9_changesTo 8 = .ok (.iload_n 1, 1) := by decide +kernel
theorem dX9_changesTo_9 : decode cX9_changesTo 9 = .ok (.iastore, 1) := by decide +kernel
theorem dX9_changesTo_10 : decode cX9_changesTo 10 = .ok (.aload_n 0, 1) := by decide +kernel
theorem dX9_changesTo_11 : decode cX9_changesTo 11 = .ok (.getfield 55, 3) := by decide +kernel
theorem dX9_changesTo_14 : decode cX9_changesTo 14 = .ok (.aload_n 0, 1) := by decide +kernel
theorem dX9_changesTo_15 : decode cX9_changesTo 15 = .ok (.getfield 282, 3) := by decide +kernel
theorem dX9_changesTo_18 : decode cX9_changesTo 18 = .ok (.iload_n 2, 1) := by decide +kernel
theorem dX9_changesTo_19 : decode cX9_changesTo 19 = .ok (.iastore, 1) := by decide +kernel
theorem dX9_changesTo_20 : decode cX9_changesTo 20 = .ok (.aload_n 0, 1) := by decide +kernel
theorem dX9_changesTo_21 : decode cX9_changesTo 21 = .ok (.getfield 58, 3) := by decide +kernel
theorem dX9_changesTo_24 : decode cX9_changesTo 24 = .ok (.aload_n 0, 1) := by decide +kernel
theorem dX9_changesTo_25 : decode cX9_changesTo 25 = .ok (.getfield 282, 3) := by decide +kernel
theorem dX9_changesTo_28 : decode cX9_changesTo 28 = .ok (.iload_n 3, 1) := by decide +kernel
theorem dX9_changesTo_29 : decode cX9_changesTo 29 = .ok (.iastore, 1) := by decide +kernel
theorem dX9_changesTo_30 : decode cX9_changesTo 30 = .ok (.aload_n 0, 1) := by decide +kernel
theorem dX9_changesTo_31 : decode cX9_changesTo 31 = .ok (.dup, 1) := by decide +kernel
theorem dX9_changesTo_32 : decode cX9_changesTo 32 = .ok (.getfield 282, 3) := by decide +kernel
theorem dX9_changesTo_35 : decode cX9_changesTo 35 = .ok (.iconst 1, 1) := by decide +kernel
theorem dX9_changesTo_36 : decode cX9_changesTo 36 = .ok (.iadd, 1) := by decide +kernel
theorem dX9_changesTo_37 : decode cX9_changesTo 37 = .ok (.putfield 282, 3) := by decide +kernel
theorem dX9_changesTo_40 : decode cX9_changesTo 40 = .ok (.return_, 1) := by decide +kernel
theorem dX9_change_0 : decode cX9_change 0 = .ok (.aload_n 0, 1) := by decide +kernel
theorem dX9_change_1 : decode cX9_change 1 = .ok (.iconst 0, 1) := by decide +kernel
theorem dX9_change_2 : decode cX9_change 2 = .ok (.putfield 128, 3) := by decide +kernel
theorem dX9_change_5 : decode cX9_change 5 = .ok (.aload_n 0, 1) := by decide +kernel
theorem dX9_change_6 : decode cX9_change 6 = .ok (.getfield 282, 3) := by decide +kernel
theorem dX9_change_9 : decode cX9_change 9 = .ok (.bipush 20, 2) := by decide +kernel
theorem dX9_change_11 : decode cX9_change 11 = .ok (.if_icmp .eq 30, 3) := by decide +kernel
theorem dX9_change_14 : decode cX9_change 14 = .ok (.aload_n 0, 1) := by decide +kernel
theorem dX9_change_15 : decode cX9_change 15 = .ok (.iload_n 1, 1) := by decide +kernel
theorem dX9_change_16 : decode cX9_change 16 = .ok (.invokevirtual 299, 3) := by decide +kernel
theorem dX9_change_19 : decode cX9_change 19 = .ok (.ifCond .eq 22, 3) := by decide +kernel
theorem dX9_change_22 : decode cX9_change 22 = .ok (.iload_n 2, 1) := by decide +kernel
theorem dX9_change_23 : decode cX9_change 23 = .ok (.invokestatic 302, 3) := by decide +kernel
theorem dX9_change_26 : decode cX9_change 26 = .ok (.ifCond .eq 15, 3) := by decide +kernel
theorem dX9_change_29 : decode cX9_change 29 = .ok (.iload_n 3, 1) := by decide +kernel
theorem dX9_change_30 : decode cX9_change 30 = .ok (.i2l, 1) := by decide +kernel
theorem dX9_change_31 : decode cX9_change 31 = .ok (.lconst 0, 1) := by decide +kernel
theorem dX9_change_32 : decode cX9_change 32 = .ok (.ldc2_w 294, 3) := by decide +kernel
theorem dX9_change_35 : decode cX9_change 35 = .ok (.invokestatic 261, 3) := by decide +kernel
theorem dX9_change_38 : decode cX9_change 38 = .ok (.ifCond .ne 5, 3) := by decide +kernel
theorem dX9_change_41 : decode cX9_change 41 = .ok (.iconst (-1), 1) := by decide +kernel
theorem dX9_change_42 : decode cX9_change 42 = .ok (.ireturn, 1) := by decide +kernel
theorem dX9_change_43 : decode cX9_change 43 = .ok (.aload_n 0, 1) := by decide +kernel
theorem dX9_change_44 : decode cX9_change 44 = .ok (.iload_n 1, 1) := by decide +kernel
theorem dX9_change_45 : decode cX9_change 45 = .ok (.iload_n 2, 1) := by decide +kernel
theorem dX9_change_46 : decode cX9_change 46 = .ok (.iload_n 3, 1) := by decide +kernel
theorem dX9_change_47 : decode cX9_change 47 = .ok (.invokevirtual 412, 3) := by decide +kernel
theorem dX9_change_50 : decode cX9_change 50 = .ok (.aload_n 0, 1) := by decide +kernel
theorem dX9_change_51 : decode cX9_change 51 = .ok (.getfield 282, 3) := by decide +kernel
theorem dX9_change_54 : decode cX9_change 54 = .ok (.ireturn, 1) := by decide +kernel
theorem dX9_draw_0 : decode cX9_draw 0 = .ok (.aload_n 0, 1) := by decide +kernel
theorem dX9_draw_1 : decode cX9_draw 1 = .ok (.aload_n 0, 1) := by decide +kernel
theorem dX9_draw_2 : decode cX9_draw 2 = .ok (.getfield 416, 3) := by decide +kernel
theorem dX9_draw_5 : decode cX9_draw 5 = .ok (.ldc2_w 420, 3) := by decide +kernel
theorem dX9_draw_8 : decode cX9_draw 8 = .ok (.lmul, 1) := by decide +kernel
theorem dX9_draw_9 : decode cX9_draw 9 = .ok (.ldc2_w 422, 3) := by decide +kernel
theorem dX9_draw_12 : decode cX9_draw 12 = .ok (.ladd, 1) := by decide +kernel
theorem dX9_draw_13 : decode cX9_draw 13 = .ok (.putfield 416, 3) := by decide +kernel
theorem dX9_draw_16 : decode cX9_draw 16 = .ok (.aload_n 0, 1) := by decide +kernel
theorem dX9_draw_17 : decode cX9_draw 17 = .ok (.getfield 416, 3) := by decide +kernel
theorem dX9_draw_20 : decode cX9_draw 20 = .ok (.bipush 33, 2) := by decide +kernel
theorem dX9_draw_22 : decode cX9_draw 22 = .ok (.lushr, 1) := by decide +kernel
theorem dX9_draw_23 : decode cX9_draw 23 = .ok (.iload_n 1, 1) := by decide +kernel
theorem dX9_draw_24 : decode cX9_draw 24 = .ok (.i2l, 1) := by decide +kernel
theorem dX9_draw_25 : decode cX9_draw 25 = .ok (.lrem, 1) := by decide +kernel
theorem dX9_draw_26 : decode cX9_draw 26 = .ok (.l2i, 1) := by decide +kernel
theorem dX9_draw_27 : decode cX9_draw 27 = .ok (.ireturn, 1) := by decide +kernel
theorem dX9_drown_0 : decode cX9_drown 0 = .ok (.aload_n 0, 1) := by decide +kernel
theorem dX9_drown_1 : decode cX9_drown 1 = .ok (.iconst 0, 1) := by decide +kernel
theorem dX9_drown_2 : decode cX9_drown 2 = .ok (.putfield 128, 3) := by decide +kernel
theorem dX9_drown_5 : decode cX9_drown 5 = .ok (.aload_n 0, 1) := by decide +kernel
theorem dX9_drown_6 : decode cX9_drown 6 = .ok (.getfield 276, 3) := by decide +kernel
theorem dX9_drown_9 : decode cX9_drown 9 = .ok (.ifCond .eq 27, 3) := by decide +kernel
theorem dX9_drown_12 : decode cX9_drown 12 = .ok (.iload_n 1, 1) := by decide +kernel
theorem dX9_drown_13 : decode cX9_drown 13 = .ok (.i2l, 1) := by decide +kernel
theorem dX9_drown_14 : decode cX9_drown 14 = .ok (.lconst 1, 1) := by decide +kernel
theorem dX9_drown_15 : decode cX9_drown 15 = .ok (.ldc2_w 294, 3) := by decide +kernel
theorem dX9_drown_18 : decode cX9_drown 18 = .ok (.invokestatic 261, 3) := by decide +kernel
theorem dX9_drown_21 : decode cX9_drown 21 = .ok (.ifCond .eq 15, 3) := by decide +kernel
theorem dX9_drown_24 : decode cX9_drown 24 = .ok (.iload_n 2, 1) := by decide +kernel
theorem dX9_drown_25 : decode cX9_drown 25 = .ok (.i2l, 1) := by decide +kernel
theorem dX9_drown_26 : decode cX9_drown 26 = .ok (.lconst 0, 1) := by decide +kernel
theorem dX9_drown_27 : decode cX9_drown 27 = .ok (.ldc2_w 424, 3) := by decide +kernel
theorem dX9_drown_30 : decode cX9_drown 30 = .ok (.invokestatic 261, 3) := by decide +kernel
theorem dX9_drown_33 : decode cX9_drown 33 = .ok (.ifCond .ne 5, 3) := by decide +kernel
theorem dX9_drown_36 : decode cX9_drown 36 = .ok (.iconst (-1), 1) := by decide +kernel
theorem dX9_drown_37 : decode cX9_drown 37 = .ok (.ireturn, 1) := by decide +kernel
theorem dX9_drown_38 : decode cX9_drown 38 = .ok (.aload_n 0, 1) := by decide +kernel
theorem dX9_drown_39 : decode cX9_drown 39 = .ok (.lload_n 3, 1) := by decide +kernel
theorem dX9_drown_40 : decode cX9_drown 40 = .ok (.putfield 416, 3) := by decide +kernel
theorem dX9_drown_43 : decode cX9_drown 43 = .ok (.iconst 0, 1) := by decide +kernel
theorem dX9_drown_44 : decode cX9_drown 44 = .ok (.istore 5, 2) := by decide +kernel
theorem dX9_drown_46 : decode cX9_drown 46 = .ok (.iconst 0, 1) := by decide +kernel
theorem dX9_drown_47 : decode cX9_drown 47 = .ok (.istore 6, 2) := by decide +kernel
theorem dX9_drown_49 : decode cX9_drown 49 = .ok (.iload 6, 2) := by decide +kernel
theorem dX9_drown_51 : decode cX9_drown 51 = .ok (.iload_n 1, 1) := by decide +kernel
theorem dX9_drown_52 : decode cX9_drown 52 = .ok (.if_icmp .ge 85, 3) := by decide +kernel
theorem dX9_drown_55 : decode cX9_drown 55 = .ok (.aload_n 0, 1) := by decide +kernel
theorem dX9_drown_56 : decode cX9_drown 56 = .ok (.bipush 99, 2) := by decide +kernel
theorem dX9_drown_58 : decode cX9_drown 58 = .ok (.aload_n 0, 1) := by decide +kernel
theorem dX9_drown_59 : decode cX9_drown 59 = .ok (.getfield 288, 3) := by decide +kernel
theorem dX9_drown_62 : decode cX9_drown 62 = .ok (.iconst 1, 1) := by decide +kernel
theorem dX9_drown_63 : decode cX9_drown 63 = .ok (.iadd, 1) := by decide +kernel
theorem dX9_drown_64 : decode cX9_drown 64 = .ok (.invokestatic 347, 3) := by decide +kernel
theorem dX9_drown_67 : decode cX9_drown 67 = .ok (.putfield 288, 3) := by decide +kernel
theorem dX9_drown_70 : decode cX9_drown 70 = .ok (.iconst 0, 1) := by decide +kernel
theorem dX9_drown_71 : decode cX9_drown 71 = .ok (.istore 7, 2) := by decide +kernel
theorem dX9_drown_73 : decode cX9_drown 73 = .ok (.iload 7, 2) := by decide +kernel
theorem dX9_drown_75 : decode cX9_drown 75 = .ok (.aload_n 0, 1) := by decide +kernel
theorem dX9_drown_76 : decode cX9_drown 76 = .ok (.getfield 276, 3) := by decide +kernel
theorem dX9_drown_79 : decode cX9_drown 79 = .ok (.if_icmp .ge 52, 3) := by decide +kernel
theorem dX9_drown_82 : decode cX9_drown 82 = .ok (.aload_n 0, 1) := by decide +kernel
theorem dX9_drown_83 : decode cX9_drown 83 = .ok (.getfield 282, 3) := by decide +kernel
theorem dX9_drown_86 : decode cX9_drown 86 = .ok (.bipush 20, 2) := by decide +kernel
theorem dX9_drown_88 : decode cX9_drown 88 = .ok (.if_icmp .eq 37, 3) := by decide +kernel
theorem dX9_drown_91 : decode cX9_drown 91 = .ok (.aload_n 0, 1) := by decide +kernel
theorem dX9_drown_92 : decode cX9_drown 92 = .ok (.bipush 100, 2) := by decide +kernel
theorem dX9_drown_94 : decode cX9_drown 94 = .ok (.invokevirtual 426, 3) := by decide +kernel
theorem dX9_drown_97 : decode cX9_drown 97 = .ok (.iload_n 2, 1) := by decide +kernel
theorem dX9_drown_98 : decode cX9_drown 98 = .ok (.if_icmp .lt 6, 3) := by decide +kernel
theorem dX9_drown_101 : decode cX9_drown 101 = .ok (.goto 24, 3) := by decide +kernel
theorem dX9_drown_104 : decode cX9_drown 104 = .ok (.aload_n 0, 1) := by decide +kernel
theorem dX9_drown_105 : decode cX9_drown 105 = .ok (.iload 7, 2) := by decide +kernel
theorem dX9_drown_107 : decode cX9_drown 107 = .ok (.aload_n 0, 1) := by decide +kernel
theorem dX9_drown_108 : decode cX9_drown 108 = .ok (.getfield 288, 3) := by decide +kernel
theorem dX9_drown_111 : decode cX9_drown 111 = .ok (.iconst 1, 1) := by decide +kernel
theorem dX9_drown_112 : decode cX9_drown 112 = .ok (.aload_n 0, 1) := by decide +kernel
theorem dX9_drown_113 : decode cX9_drown 113 = .ok (.bipush 12, 2) := by decide +kernel
theorem dX9_drown_115 : decode cX9_drown 115 = .ok (.invokevirtual 426, 3) := by decide +kernel
theorem dX9_drown_118 : decode cX9_drown 118 = .ok (.iadd, 1) := by decide +kernel
theorem dX9_drown_119 : decode cX9_drown 119 = .ok (.invokevirtual 412, 3) := by decide +kernel
theorem dX9_drown_122 : decode cX9_drown 122 = .ok (.iinc 5 1, 3) := by decide +kernel
theorem dX9_drown_125 : decode cX9_drown 125 = .ok (.iinc 7 1, 3) := by decide +kernel
theorem dX9_drown_128 : decode cX9_drown 128 = .ok (.goto (-55), 3) := by decide +kernel
theorem dX9_drown_131 : decode cX9_drown 131 = .ok (.iinc 6 1, 3) := by decide +kernel
theorem dX9_drown_134 : decode cX9_drown 134 = .ok (.goto (-85), 3) := by decide +kernel
theorem dX9_drown_137 : decode cX9_drown 137 = .ok (.iload 5, 2) := by decide +kernel
theorem dX9_drown_139 : decode cX9_drown 139 = .ok (.ireturn, 1) := by decide +kernel
theorem dX9_say_0 : decode cX9_say 0 = .ok (.aload_n 0, 1) := by decide +kernel
theorem dX9_say_1 : decode cX9_say 1 = .ok (.iconst 0, 1) := by decide +kernel
theorem dX9_say_2 : decode cX9_say 2 = .ok (.putfield 128, 3) := by decide +kernel
theorem dX9_say_5 : decode cX9_say 5 = .ok (.aload_n 0, 1) := by decide +kernel
theorem dX9_say_6 : decode cX9_say 6 = .ok (.getfield 285, 3) := by decide +kernel
theorem dX9_say_9 : decode cX9_say 9 = .ok (.bipush 40, 2) := by decide +kernel
theorem dX9_say_11 : decode cX9_say 11 = .ok (.if_icmp .eq 23, 3) := by decide +kernel
theorem dX9_say_14 : decode cX9_say 14 = .ok (.aload_n 0, 1) := by decide +kernel
theorem dX9_say_15 : decode cX9_say 15 = .ok (.iload_n 1, 1) := by decide +kernel
theorem dX9_say_16 : decode cX9_say 16 = .ok (.invokevirtual 299, 3) := by decide +kernel
theorem dX9_say_19 : decode cX9_say 19 = .ok (.ifCond .eq 15, 3) := by decide +kernel
theorem dX9_say_22 : decode cX9_say 22 = .ok (.iload_n 2, 1) := by decide +kernel
theorem dX9_say_23 : decode cX9_say 23 = .ok (.i2l, 1) := by decide +kernel
theorem dX9_say_24 : decode cX9_say 24 = .ok (.lconst 0, 1) := by decide +kernel
theorem dX9_say_25 : decode cX9_say 25 = .ok (.ldc2_w 309, 3) := by decide +kernel
theorem dX9_say_28 : decode cX9_say 28 = .ok (.invokestatic 261, 3) := by decide +kernel
theorem dX9_say_31 : decode cX9_say 31 = .ok (.ifCond .ne 5, 3) := by decide +kernel
theorem dX9_say_34 : decode cX9_say 34 = .ok (.iconst (-1), 1) := by decide +kernel
theorem dX9_say_35 : decode cX9_say 35 = .ok (.ireturn, 1) := by decide +kernel
theorem dX9_say_36 : decode cX9_say 36 = .ok (.aload_n 0, 1) := by decide +kernel
theorem dX9_say_37 : decode cX9_say 37 = .ok (.getfield 104, 3) := by decide +kernel
theorem dX9_say_40 : decode cX9_say 40 = .ok (.aload_n 0, 1) := by decide +kernel
theorem dX9_say_41 : decode cX9_say 41 = .ok (.getfield 285, 3) := by decide +kernel
theorem dX9_say_44 : decode cX9_say 44 = .ok (.iload_n 1, 1) := by decide +kernel
theorem dX9_say_45 : decode cX9_say 45 = .ok (.iastore, 1) := by decide +kernel
theorem dX9_say_46 : decode cX9_say 46 = .ok (.aload_n 0, 1) := by decide +kernel
theorem dX9_say_47 : decode cX9_say 47 = .ok (.getfield 107, 3) := by decide +kernel
theorem dX9_say_50 : decode cX9_say 50 = .ok (.aload_n 0, 1) := by decide +kernel
theorem dX9_say_51 : decode cX9_say 51 = .ok (.getfield 285, 3) := by decide +kernel
theorem dX9_say_54 : decode cX9_say 54 = .ok (.iload_n 2, 1) := by decide +kernel
theorem dX9_say_55 : decode cX9_say 55 = .ok (.iastore, 1) := by decide +kernel
theorem dX9_say_56 : decode cX9_say 56 = .ok (.aload_n 0, 1) := by decide +kernel
theorem dX9_say_57 : decode cX9_say 57 = .ok (.getfield 110, 3) := by decide +kernel
theorem dX9_say_60 : decode cX9_say 60 = .ok (.aload_n 0, 1) := by decide +kernel
theorem dX9_say_61 : decode cX9_say 61 = .ok (.getfield 285, 3) := by decide +kernel
theorem dX9_say_64 : decode cX9_say 64 = .ok (.aload_n 0, 1) := by decide +kernel
theorem dX9_say_65 : decode cX9_say 65 = .ok (.getfield 288, 3) := by decide +kernel
theorem dX9_say_68 : decode cX9_say 68 = .ok (.iastore, 1) := by decide +kernel
theorem dX9_say_69 : decode cX9_say 69 = .ok (.aload_n 0, 1) := by decide +kernel
theorem dX9_say_70 : decode cX9_say 70 = .ok (.dup, 1) := by decide +kernel
theorem dX9_say_71 : decode cX9_say 71 = .ok (.getfield 285, 3) := by decide +kernel
theorem dX9_say_74 : decode cX9_say 74 = .ok (.iconst 1, 1) := by decide +kernel
theorem dX9_say_75 : decode cX9_say 75 = .ok (.iadd, 1) := by decide +kernel
theorem dX9_say_76 : decode cX9_say 76 = .ok (.putfield 285, 3) := by decide +kernel
theorem dX9_say_79 : decode cX9_say 79 = .ok (.aload_n 0, 1) := by decide +kernel
theorem dX9_say_80 : decode cX9_say 80 = .ok (.getfield 285, 3) := by decide +kernel
theorem dX9_say_83 : decode cX9_say 83 = .ok (.ireturn, 1) := by decide +kernel
theorem dX9_isBreach_0 : decode cX9_isBreach 0 = .ok (.aload_n 0, 1) := by decide +kernel
theorem dX9_isBreach_1 : decode cX9_isBreach 1 = .ok (.aload_n 0, 1) := by decide +kernel
theorem dX9_isBreach_2 : decode cX9_isBreach 2 = .ok (.getfield 104, 3) := by decide +kernel
theorem dX9_isBreach_5 : decode cX9_isBreach 5 = .ok (.iload_n 1, 1) := by decide +kernel
theorem dX9_isBreach_6 : decode cX9_isBreach 6 = .ok (.iaload, 1) := by decide +kernel
theorem dX9_isBreach_7 : decode cX9_isBreach 7 = .ok (.aload_n 0, 1) := by decide +kernel
theorem dX9_isBreach_8 : decode cX9_isBreach 8 = .ok (.getfield 107, 3) := by decide +kernel
theorem dX9_isBreach_11 : decode cX9_isBreach 11 = .ok (.iload_n 1, 1) := by decide +kernel
theorem dX9_isBreach_12 : decode cX9_isBreach 12 = .ok (.iaload, 1) := by decide +kernel
theorem dX9_isBreach_13 : decode cX9_isBreach 13 = .ok (.aload_n 0, 1) := by decide +kernel
theorem dX9_isBreach_14 : decode cX9_isBreach 14 = .ok (.getfield 110, 3) := by decide +kernel
theorem dX9_isBreach_17 : decode cX9_isBreach 17 = .ok (.iload_n 1, 1) := by decide +kernel
theorem dX9_isBreach_18 : decode cX9_isBreach 18 = .ok (.iaload, 1) := by decide +kernel
theorem dX9_isBreach_19 : decode cX9_isBreach 19 = .ok (.invokevirtual 311, 3) := by decide +kernel
theorem dX9_isBreach_22 : decode cX9_isBreach 22 = .ok (.ireturn, 1) := by decide +kernel
theorem dX9_breach_0 : decode cX9_breach 0 = .ok (.aload_n 0, 1) := by decide +kernel
theorem dX9_breach_1 : decode cX9_breach 1 = .ok (.iconst 0, 1) := by decide +kernel
theorem dX9_breach_2 : decode cX9_breach 2 = .ok (.putfield 128, 3) := by decide +kernel
theorem dX9_breach_5 : decode cX9_breach 5 = .ok (.aload_n 0, 1) := by decide +kernel
theorem dX9_breach_6 : decode cX9_breach 6 = .ok (.getfield 276, 3) := by decide +kernel
theorem dX9_breach_9 : decode cX9_breach 9 = .ok (.ifCond .eq 8, 3) := by decide +kernel
theorem dX9_breach_12 : decode cX9_breach 12 = .ok (.iload_n 1, 1) := by decide +kernel
theorem dX9_breach_13 : decode cX9_breach 13 = .ok (.iconst (-1), 1) := by decide +kernel
theorem dX9_breach_14 : decode cX9_breach 14 = .ok (.if_icmp .ge 5, 3) := by decide +kernel
theorem dX9_breach_17 : decode cX9_breach 17 = .ok (.iconst (-1), 1) := by decide +kernel
theorem dX9_breach_18 : decode cX9_breach 18 = .ok (.ireturn, 1) := by decide +kernel
theorem dX9_breach_19 : decode cX9_breach 19 = .ok (.iconst 0, 1) := by decide +kernel
theorem dX9_breach_20 : decode cX9_breach 20 = .ok (.istore_n 2, 1) := by decide +kernel
theorem dX9_breach_21 : decode cX9_breach 21 = .ok (.iconst 0, 1) := by decide +kernel
theorem dX9_breach_22 : decode cX9_breach 22 = .ok (.istore_n 3, 1) := by decide +kernel
theorem dX9_breach_23 : decode cX9_breach 23 = .ok (.iload_n 3, 1) := by decide +kernel
theorem dX9_breach_24 : decode cX9_breach 24 = .ok (.aload_n 0, 1) := by decide +kernel
theorem dX9_breach_25 : decode cX9_breach 25 = .ok (.getfield 285, 3) := by decide +kernel
theorem dX9_breach_28 : decode cX9_breach 28 = .ok (.if_icmp .ge 30, 3) := by decide +kernel
theorem dX9_breach_31 : decode cX9_breach 31 = .ok (.aload_n 0, 1) := by decide +kernel
theorem dX9_breach_32 : decode cX9_breach 32 = .ok (.iload_n 3, 1) := by decide +kernel
theorem dX9_breach_33 : decode cX9_breach 33 = .ok (.invokevirtual 429, 3) := by decide +kernel
theorem dX9_breach_36 : decode cX9_breach 36 = .ok (.ifCond .ne 6, 3) := by decide +kernel
theorem dX9_breach_39 : decode cX9_breach 39 = .ok (.goto 13, 3) := by decide +kernel
theorem dX9_breach_42 : decode cX9_breach 42 = .ok (.iload_n 2, 1) := by decide +kernel
theorem dX9_breach_43 : decode cX9_breach 43 = .ok (.iload_n 1, 1) := by decide +kernel
theorem dX9_breach_44 : decode cX9_breach 44 = .ok (.if_icmp .ne 5, 3) := by decide +kernel
theorem dX9_breach_47 : decode cX9_breach 47 = .ok (.iload_n 3, 1) := by decide +kernel
theorem dX9_breach_48 : decode cX9_breach 48 = .ok (.ireturn, 1) := by decide +kernel
theorem dX9_breach_49 : decode cX9_breach 49 = .ok (.iinc 2 1, 3) := by decide +kernel
theorem dX9_breach_52 : decode cX9_breach 52 = .ok (.iinc 3 1, 3) := by decide +kernel
theorem dX9_breach_55 : decode cX9_breach 55 = .ok (.goto (-32), 3) := by decide +kernel
theorem dX9_breach_58 : decode cX9_breach 58 = .ok (.iload_n 1, 1) := by decide +kernel
theorem dX9_breach_59 : decode cX9_breach 59 = .ok (.iconst (-1), 1) := by decide +kernel
theorem dX9_breach_60 : decode cX9_breach 60 = .ok (.if_icmp .ne 7, 3) := by decide +kernel
theorem dX9_breach_63 : decode cX9_breach 63 = .ok (.iload_n 2, 1) := by decide +kernel
theorem dX9_breach_64 : decode cX9_breach 64 = .ok (.goto 4, 3) := by decide +kernel
theorem dX9_breach_67 : decode cX9_breach 67 = .ok (.iconst (-1), 1) := by decide +kernel
theorem dX9_breach_68 : decode cX9_breach 68 = .ok (.ireturn, 1) := by decide +kernel
theorem dX9_fines_0 : decode cX9_fines 0 = .ok (.aload_n 0, 1) := by decide +kernel
theorem dX9_fines_1 : decode cX9_fines 1 = .ok (.iconst 0, 1) := by decide +kernel
theorem dX9_fines_2 : decode cX9_fines 2 = .ok (.putfield 128, 3) := by decide +kernel
theorem dX9_fines_5 : decode cX9_fines 5 = .ok (.aload_n 0, 1) := by decide +kernel
theorem dX9_fines_6 : decode cX9_fines 6 = .ok (.iload_n 1, 1) := by decide +kernel
theorem dX9_fines_7 : decode cX9_fines 7 = .ok (.invokevirtual 299, 3) := by decide +kernel
theorem dX9_fines_10 : decode cX9_fines 10 = .ok (.ifCond .eq 11, 3) := by decide +kernel
theorem dX9_fines_13 : decode cX9_fines 13 = .ok (.aload_n 0, 1) := by decide +kernel
theorem dX9_fines_14 : decode cX9_fines 14 = .ok (.iload_n 1, 1) := by decide +kernel
theorem dX9_fines_15 : decode cX9_fines 15 = .ok (.invokevirtual 432, 3) := by decide +kernel
theorem dX9_fines_18 : decode cX9_fines 18 = .ok (.goto 4, 3) := by decide +kernel
theorem dX9_fines_21 : decode cX9_fines 21 = .ok (.iconst (-1), 1) := by decide +kernel
theorem dX9_fines_22 : decode cX9_fines 22 = .ok (.ireturn, 1) := by decide +kernel
theorem dX9_safe_0 : decode cX9_safe 0 = .ok (.aload_n 0, 1) := by decide +kernel
theorem dX9_safe_1 : decode cX9_safe 1 = .ok (.iconst 0, 1) := by decide +kernel
theorem dX9_safe_2 : decode cX9_safe 2 = .ok (.putfield 128, 3) := by decide +kernel
theorem dX9_safe_5 : decode cX9_safe 5 = .ok (.aload_n 0, 1) := by decide +kernel
theorem dX9_safe_6 : decode cX9_safe 6 = .ok (.iload_n 1, 1) := by decide +kernel
theorem dX9_safe_7 : decode cX9_safe 7 = .ok (.invokevirtual 299, 3) := by decide +kernel
theorem dX9_safe_10 : decode cX9_safe 10 = .ok (.ifCond .eq 10, 3) := by decide +kernel
theorem dX9_safe_13 : decode cX9_safe 13 = .ok (.iload_n 2, 1) := by decide +kernel
theorem dX9_safe_14 : decode cX9_safe 14 = .ok (.invokestatic 302, 3) := by decide +kernel
theorem dX9_safe_17 : decode cX9_safe 17 = .ok (.ifCond .ne 5, 3) := by decide +kernel
theorem dX9_safe_20 : decode cX9_safe 20 = .ok (.iconst (-1), 1) := by decide +kernel
theorem dX9_safe_21 : decode cX9_safe 21 = .ok (.ireturn, 1) := by decide +kernel
theorem dX9_safe_22 : decode cX9_safe 22 = .ok (.iconst 1, 1) := by decide +kernel
theorem dX9_safe_23 : decode cX9_safe 23 = .ok (.istore_n 3, 1) := by decide +kernel
theorem dX9_safe_24 : decode cX9_safe 24 = .ok (.iload_n 3, 1) := by decide +kernel
theorem dX9_safe_25 : decode cX9_safe 25 = .ok (.sipush 999, 3) := by decide +kernel
theorem dX9_safe_28 : decode cX9_safe 28 = .ok (.if_icmp .gt 70, 3) := by decide +kernel
theorem dX9_safe_31 : decode cX9_safe 31 = .ok (.iconst 1, 1) := by decide +kernel
theorem dX9_safe_32 : decode cX9_safe 32 = .ok (.istore 4, 2) := by decide +kernel
theorem dX9_safe_34 : decode cX9_safe 34 = .ok (.aload_n 0, 1) := by decide +kernel
theorem dX9_safe_35 : decode cX9_safe 35 = .ok (.getfield 288, 3) := by decide +kernel
theorem dX9_safe_38 : decode cX9_safe 38 = .ok (.istore 5, 2) := by decide +kernel
theorem dX9_safe_40 : decode cX9_safe 40 = .ok (.iload 5, 2) := by decide +kernel
theorem dX9_safe_42 : decode cX9_safe 42 = .ok (.bipush 99, 2) := by decide +kernel
theorem dX9_safe_44 : decode cX9_safe 44 = .ok (.aload_n 0, 1) := by decide +kernel
theorem dX9_safe_45 : decode cX9_safe 45 = .ok (.getfield 288, 3) := by decide +kernel
theorem dX9_safe_48 : decode cX9_safe 48 = .ok (.iload_n 2, 1) := by decide +kernel
theorem dX9_safe_49 : decode cX9_safe 49 = .ok (.iadd, 1) := by decide +kernel
theorem dX9_safe_50 : decode cX9_safe 50 = .ok (.invokestatic 347, 3) := by decide +kernel
theorem dX9_safe_53 : decode cX9_safe 53 = .ok (.if_icmp .gt 32, 3) := by decide +kernel
theorem dX9_safe_56 : decode cX9_safe 56 = .ok (.iload 4, 2) := by decide +kernel
