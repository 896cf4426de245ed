theorem dX6_init_0 : decode cX6_init 0 = .ok (.aload_n 0, 1) := by decide +kernel
theorem dX6_init_1 : decode cX6_init 1 = .ok (.invokespecial 3, 3) := by decide +kernel
theorem dX6_init_4 : decode cX6_init 4 = .ok (.aload_n 0, 1) := by decide +kernel
theorem dX6_init_5 : decode cX6_init 5 = .ok (.aload_n 1, 1) := by decide +kernel
theorem dX6_init_6 : decode cX6_init 6 = .ok (.putfield 9, 3) := by decide +kernel
theorem dX6_init_9 : decode cX6_init 9 = .ok (.aload_n 0, 1) := by decide +kernel
theorem dX6_init_10 : decode cX6_init 10 = .ok (.aload_n 2, 1) := by decide +kernel
theorem dX6_init_11 : decode cX6_init 11 = .ok (.putfield 15, 3) := by decide +kernel
theorem dX6_init_14 : decode cX6_init 14 = .ok (.aload_n 0, 1) := by decide +kernel
theorem dX6_init_15 : decode cX6_init 15 = .ok (.iconst 3, 1) := by decide +kernel
theorem dX6_init_16 : decode cX6_init 16 = .ok (.bipush 6, 2) := by decide +kernel
theorem dX6_init_18 : decode cX6_init 18 = .ok (.multianewarray 19 2, 4) := by decide +kernel
theorem dX6_init_22 : decode cX6_init 22 = .ok (.putfield 21, 3) := by decide +kernel
theorem dX6_init_25 : decode cX6_init 25 = .ok (.aload_n 0, 1) := by decide +kernel
theorem dX6_init_26 : decode cX6_init 26 = .ok (.bipush 9, 2) := by decide +kernel
theorem dX6_init_28 : decode cX6_init 28 = .ok (.newarray .int, 2) := by decide +kernel
theorem dX6_init_30 : decode cX6_init 30 = .ok (.putfield 24, 3) := by decide +kernel
theorem dX6_init_33 : decode cX6_init 33 = .ok (.aload_n 0, 1) := by decide +kernel
theorem dX6_init_34 : decode cX6_init 34 = .ok (.bipush 9, 2) := by decide +kernel
theorem dX6_init_36 : decode cX6_init 36 = .ok (.newarray .int, 2) := by decide +kernel
theorem dX6_init_38 : decode cX6_init 38 = .ok (.putfield 28, 3) := by decide +kernel
theorem dX6_init_41 : decode cX6_init 41 = .ok (.aload_n 0, 1) := by decide +kernel
theorem dX6_init_42 : decode cX6_init 42 = .ok (.sipush 168, 3) := by decide +kernel
theorem dX6_init_45 : decode cX6_init 45 = .ok (.newarray .int, 2) := by decide +kernel
theorem dX6_init_47 : decode cX6_init 47 = .ok (.putfield 31, 3) := by decide +kernel
theorem dX6_init_50 : decode cX6_init 50 = .ok (.aload_n 0, 1) := by decide +kernel
theorem dX6_init_51 : decode cX6_init 51 = .ok (.sipush 168, 3) := by decide +kernel
theorem dX6_init_54 : decode cX6_init 54 = .ok (.newarray .int, 2) := by decide +kernel
theorem dX6_init_56 : decode cX6_init 56 = .ok (.putfield 34, 3) := by decide +kernel
theorem dX6_init_59 : decode cX6_init 59 = .ok (.return_, 1) := by decide +kernel
theorem dX6_addGood_0 : decode cX6_addGood 0 = .ok (.aload_n 0, 1) := by decide +kernel
theorem dX6_addGood_1 : decode cX6_addGood 1 = .ok (.getfield 37, 3) := by decide +kernel
theorem dX6_addGood_4 : decode cX6_addGood 4 = .ok (.ifCond .lt 11, 3) := by decide +kernel
theorem dX6_addGood_7 : decode cX6_addGood 7 = .ok (.aload_n 0, 1) := by decide +kernel
theorem dX6_addGood_8 : decode cX6_addGood 8 = .ok (.getfield 37, 3) := by decide +kernel
theorem dX6_addGood_11 : decode cX6_addGood 11 = .ok (.iconst 3, 1) := by decide +kernel
theorem dX6_addGood_12 : decode cX6_addGood 12 = .ok (.if_icmp .lt 5, 3) := by decide +kernel
theorem dX6_addGood_15 : decode cX6_addGood 15 = .ok (.iconst (-1), 1) := by decide +kernel
theorem dX6_addGood_16 : decode cX6_addGood 16 = .ok (.ireturn, 1) := by decide +kernel
theorem dX6_addGood_17 : decode cX6_addGood 17 = .ok (.aload_n 0, 1) := by decide +kernel
theorem dX6_addGood_18 : decode cX6_addGood 18 = .ok (.getfield 21, 3) := by decide +kernel
theorem dX6_addGood_21 : decode cX6_addGood 21 = .ok (.aload_n 0, 1) := by decide +kernel
theorem dX6_addGood_22 : decode cX6_addGood 22 = .ok (.getfield 37, 3) := by decide +kernel
theorem dX6_addGood_25 : decode cX6_addGood 25 = .ok (.aaload, 1) := by decide +kernel
theorem dX6_addGood_26 : decode cX6_addGood 26 = .ok (.bipush 10, 2) := by decide +kernel
theorem dX6_addGood_28 : decode cX6_addGood 28 = .ok (.invokestatic 41, 3) := by decide +kernel
theorem dX6_addGood_31 : decode cX6_addGood 31 = .ok (.aload_n 0, 1) := by decide +kernel
theorem dX6_addGood_32 : decode cX6_addGood 32 = .ok (.dup, 1) := by decide +kernel
theorem dX6_addGood_33 : decode cX6_addGood 33 = .ok (.getfield 37, 3) := by decide +kernel
theorem dX6_addGood_36 : decode cX6_addGood 36 = .ok (.iconst 1, 1) := by decide +kernel
theorem dX6_addGood_37 : decode cX6_addGood 37 = .ok (.iadd, 1) := by decide +kernel
theorem dX6_addGood_38 : decode cX6_addGood 38 = .ok (.putfield 37, 3) := by decide +kernel
theorem dX6_addGood_41 : decode cX6_addGood 41 = .ok (.aload_n 0, 1) := by decide +kernel
theorem dX6_addGood_42 : decode cX6_addGood 42 = .ok (.getfield 37, 3) := by decide +kernel
theorem dX6_addGood_45 : decode cX6_addGood 45 = .ok (.iconst 1, 1) := by decide +kernel
theorem dX6_addGood_46 : decode cX6_addGood 46 = .ok (.isub, 1) := by decide +kernel
theorem dX6_addGood_47 : decode cX6_addGood 47 = .ok (.ireturn, 1) := by decide +kernel
theorem dX6_isGood_0 : decode cX6_isGood 0 = .ok (.iload_n 1, 1) := by decide +kernel
theorem dX6_isGood_1 : decode cX6_isGood 1 = .ok (.ifCond .lt 20, 3) := by decide +kernel
theorem dX6_isGood_4 : decode cX6_isGood 4 = .ok (.iload_n 1, 1) := by decide +kernel
theorem dX6_isGood_5 : decode cX6_isGood 5 = .ok (.aload_n 0, 1) := by decide +kernel
theorem dX6_isGood_6 : decode cX6_isGood 6 = .ok (.getfield 37, 3) := by decide +kernel
theorem dX6_isGood_9 : decode cX6_isGood 9 = .ok (.if_icmp .ge 12, 3) := by decide +kernel
theorem dX6_isGood_12 : decode cX6_isGood 12 = .ok (.iload_n 1, 1) := by decide +kernel
theorem dX6_isGood_13 : decode cX6_isGood 13 = .ok (.iconst 3, 1) := by decide +kernel
theorem dX6_isGood_14 : decode cX6_isGood 14 = .ok (.if_icmp .ge 7, 3) := by decide +kernel
theorem dX6_isGood_17 : decode cX6_isGood 17 = .ok (.iconst 1, 1) := by decide +kernel
theorem dX6_isGood_18 : decode cX6_isGood 18 = .ok (.goto 4, 3) := by decide +kernel
theorem dX6_isGood_21 : decode cX6_isGood 21 = .ok (.iconst 0, 1) := by decide +kernel
theorem dX6_isGood_22 : decode cX6_isGood 22 = .ok (.ireturn, 1) := by decide +kernel
theorem dX6_lawfulDeals_0 : decode cX6_lawfulDeals 0 = .ok (.aload_n 0, 1) := by decide +kernel
theorem dX6_lawfulDeals_1 : decode cX6_lawfulDeals 1 = .ok (.getfield 15, 3) := by decide +kernel
theorem dX6_lawfulDeals_4 : decode cX6_lawfulDeals 4 = .ok (.iload_n 3, 1) := by decide +kernel
theorem dX6_lawfulDeals_5 : decode cX6_lawfulDeals 5 = .ok (.iconst 3, 1) := by decide +kernel
theorem dX6_lawfulDeals_6 : decode cX6_lawfulDeals 6 = .ok (.invokevirtual 47, 3) := by decide +kernel
theorem dX6_lawfulDeals_9 : decode cX6_lawfulDeals 9 = .ok (.aload_n 0, 1) := by decide +kernel
theorem dX6_lawfulDeals_10 : decode cX6_lawfulDeals 10 = .ok (.getfield 9, 3) := by decide +kernel
theorem dX6_lawfulDeals_13 : decode cX6_lawfulDeals 13 = .ok (.aload_n 0, 1) := by decide +kernel
theorem dX6_lawfulDeals_14 : decode cX6_lawfulDeals 14 = .ok (.getfield 15, 3) := by decide +kernel
theorem dX6_lawfulDeals_17 : decode cX6_lawfulDeals 17 = .ok (.getfield 53, 3) := by decide +kernel
theorem dX6_lawfulDeals_20 : decode cX6_lawfulDeals 20 = .ok (.iload_n 1, 1) := by decide +kernel
theorem dX6_lawfulDeals_21 : decode cX6_lawfulDeals 21 = .ok (.iload_n 2, 1) := by decide +kernel
theorem dX6_lawfulDeals_22 : decode cX6_lawfulDeals 22 = .ok (.aload_n 0, 1) := by decide +kernel
theorem dX6_lawfulDeals_23 : decode cX6_lawfulDeals 23 = .ok (.getfield 9, 3) := by decide +kernel
theorem dX6_lawfulDeals_26 : decode cX6_lawfulDeals 26 = .ok (.iload_n 1, 1) := by decide +kernel
theorem dX6_lawfulDeals_27 : decode cX6_lawfulDeals 27 = .ok (.iload_n 2, 1) := by decide +kernel
theorem dX6_lawfulDeals_28 : decode cX6_lawfulDeals 28 = .ok (.invokevirtual 57, 3) := by decide +kernel
theorem dX6_lawfulDeals_31 : decode cX6_lawfulDeals 31 = .ok (.invokevirtual 63, 3) := by decide +kernel
theorem dX6_lawfulDeals_34 : decode cX6_lawfulDeals 34 = .ok (.aload_n 0, 1) := by decide +kernel
theorem dX6_lawfulDeals_35 : decode cX6_lawfulDeals 35 = .ok (.getfield 15, 3) := by decide +kernel
theorem dX6_lawfulDeals_38 : decode cX6_lawfulDeals 38 = .ok (.invokevirtual 67, 3) := by decide +kernel
theorem dX6_lawfulDeals_41 : decode cX6_lawfulDeals 41 = .ok (.iconst 0, 1) := by decide +kernel
theorem dX6_lawfulDeals_42 : decode cX6_lawfulDeals 42 = .ok (.istore 4, 2) := by decide +kernel
theorem dX6_lawfulDeals_44 : decode cX6_lawfulDeals 44 = .ok (.iconst 0, 1) := by decide +kernel
theorem dX6_lawfulDeals_45 : decode cX6_lawfulDeals 45 = .ok (.istore 5, 2) := by decide +kernel
theorem dX6_lawfulDeals_47 : decode cX6_lawfulDeals 47 = .ok (.iload 5, 2) := by decide +kernel
theorem dX6_lawfulDeals_49 : decode cX6_lawfulDeals 49 = .ok (.aload_n 0, 1) := by decide +kernel
theorem dX6_lawfulDeals_50 : decode cX6_lawfulDeals 50 = .ok (.getfield 37, 3) := by decide +kernel
theorem dX6_lawfulDeals_53 : decode cX6_lawfulDeals 53 = .ok (.if_icmp .ge 71, 3) := by decide +kernel
theorem dX6_lawfulDeals_56 : decode cX6_lawfulDeals 56 = .ok (.iconst 1, 1) := by decide +kernel
theorem dX6_lawfulDeals_57 : decode cX6_lawfulDeals 57 = .ok (.istore 6, 2) := by decide +kernel
theorem dX6_lawfulDeals_59 : decode cX6_lawfulDeals 59 = .ok (.iload 6, 2) := by decide +kernel
theorem dX6_lawfulDeals_61 : decode cX6_lawfulDeals 61 = .ok (.bipush 6, 2) := by decide +kernel
theorem dX6_lawfulDeals_63 : decode cX6_lawfulDeals 63 = .ok (.if_icmp .gt 55, 3) := by decide +kernel
theorem dX6_lawfulDeals_66 : decode cX6_lawfulDeals 66 = .ok (.aload_n 0, 1) := by decide +kernel
theorem dX6_lawfulDeals_67 : decode cX6_lawfulDeals 67 = .ok (.getfield 15, 3) := by decide +kernel
theorem dX6_lawfulDeals_70 : decode cX6_lawfulDeals 70 = .ok (.iload 6, 2) := by decide +kernel
theorem dX6_lawfulDeals_72 : decode cX6_lawfulDeals 72 = .ok (.invokevirtual 70, 3) := by decide +kernel
theorem dX6_lawfulDeals_75 : decode cX6_lawfulDeals 75 = .ok (.ifCond .ne 37, 3) := by decide +kernel
theorem dX6_lawfulDeals_78 : decode cX6_lawfulDeals 78 = .ok (.aload_n 0, 1) := by decide +kernel
theorem dX6_lawfulDeals_79 : decode cX6_lawfulDeals 79 = .ok (.getfield 15, 3) := by decide +kernel
theorem dX6_lawfulDeals_82 : decode cX6_lawfulDeals 82 = .ok (.iload 6, 2) := by decide +kernel
theorem dX6_lawfulDeals_84 : decode cX6_lawfulDeals 84 = .ok (.aload_n 0, 1) := by decide +kernel
theorem dX6_lawfulDeals_85 : decode cX6_lawfulDeals 85 = .ok (.getfield 21, 3) := by decide +kernel
theorem dX6_lawfulDeals_88 : decode cX6_lawfulDeals 88 = .ok (.iload 5, 2) := by decide +kernel
theorem dX6_lawfulDeals_90 : decode cX6_lawfulDeals 90 = .ok (.aaload, 1) := by decide +kernel
theorem dX6_lawfulDeals_91 : decode cX6_lawfulDeals 91 = .ok (.iload_n 1, 1) := by decide +kernel
theorem dX6_lawfulDeals_92 : decode cX6_lawfulDeals 92 = .ok (.iaload, 1) := by decide +kernel
theorem dX6_lawfulDeals_93 : decode cX6_lawfulDeals 93 = .ok (.imul, 1) := by decide +kernel
theorem dX6_lawfulDeals_94 : decode cX6_lawfulDeals 94 = .ok (.invokevirtual 74, 3) := by decide +kernel
theorem dX6_lawfulDeals_97 : decode cX6_lawfulDeals 97 = .ok (.ifCond .eq 15, 3) := by decide +kernel
theorem dX6_lawfulDeals_100 : decode cX6_lawfulDeals 100 = .ok (.iload 4, 2) := by decide +kernel
theorem dX6_lawfulDeals_102 : decode cX6_lawfulDeals 102 = .ok (.iload 5, 2) := by decide +kernel
theorem dX6_lawfulDeals_104 : decode cX6_lawfulDeals 104 = .ok (.iload 6, 2) := by decide +kernel
theorem dX6_lawfulDeals_106 : decode cX6_lawfulDeals 106 = .ok (.invokestatic 77, 3) := by decide +kernel
theorem dX6_lawfulDeals_109 : decode cX6_lawfulDeals 109 = .ok (.ior, 1) := by decide +kernel
theorem dX6_lawfulDeals_110 : decode cX6_lawfulDeals 110 = .ok (.istore 4, 2) := by decide +kernel
theorem dX6_lawfulDeals_112 : decode cX6_lawfulDeals 112 = .ok (.iinc 6 1, 3) := by decide +kernel
theorem dX6_lawfulDeals_115 : decode cX6_lawfulDeals 115 = .ok (.goto (-56), 3) := by decide +kernel
theorem dX6_lawfulDeals_118 : decode cX6_lawfulDeals 118 = .ok (.iinc 5 1, 3) := by decide +kernel
theorem dX6_lawfulDeals_121 : decode cX6_lawfulDeals 121 = .ok (.goto (-74), 3) := by decide +kernel
theorem dX6_lawfulDeals_124 : decode cX6_lawfulDeals 124 = .ok (.iload 4, 2) := by decide +kernel
theorem dX6_lawfulDeals_126 : decode cX6_lawfulDeals 126 = .ok (.ireturn, 1) := by decide +kernel
theorem dX6_allows_0 : decode cX6_allows 0 = .ok (.iload_n 0, 1) := by decide +kernel
theorem dX6_allows_1 : decode cX6_allows 1 = .ok (.iload_n 1, 1) := by decide +kernel
theorem dX6_allows_2 : decode cX6_allows 2 = .ok (.iload_n 2, 1) := by decide +kernel
theorem dX6_allows_3 : decode cX6_allows 3 = .ok (.invokestatic 77, 3) := by decide +kernel
theorem dX6_allows_6 : decode cX6_allows 6 = .ok (.iand, 1) := by decide +kernel
theorem dX6_allows_7 : decode cX6_allows 7 = .ok (.ifCond .eq 7, 3) := by decide +kernel
theorem dX6_allows_10 : decode cX6_allows 10 = .ok (.iconst 1, 1) := by decide +kernel
theorem dX6_allows_11 : decode cX6_allows 11 = .ok (.goto 4, 3) := by decide +kernel
theorem dX6_allows_14 : decode cX6_allows 14 = .ok (.iconst 0, 1) := by decide +kernel
theorem dX6_allows_15 : decode cX6_allows 15 = .ok (.ireturn, 1) := by decide +kernel
theorem dX6_learnDeals_0 : decode cX6_learnDeals 0 = .ok (.aload_n 0, 1) := by decide +kernel
theorem dX6_learnDeals_1 : decode cX6_learnDeals 1 = .ok (.getfield 34, 3) := by decide +kernel
theorem dX6_learnDeals_4 : decode cX6_learnDeals 4 = .ok (.iconst (-1), 1) := by decide +kernel
theorem dX6_learnDeals_5 : decode cX6_learnDeals 5 = .ok (.invokestatic 41, 3) := by decide +kernel
theorem dX6_learnDeals_8 : decode cX6_learnDeals 8 = .ok (.aload_n 0, 1) := by decide +kernel
theorem dX6_learnDeals_9 : decode cX6_learnDeals 9 = .ok (.getfield 34, 3) := by decide +kernel
theorem dX6_learnDeals_12 : decode cX6_learnDeals 12 = .ok (.iload_n 1, 1) := by decide +kernel
theorem dX6_learnDeals_13 : decode cX6_learnDeals 13 = .ok (.iconst 0, 1) := by decide +kernel
theorem dX6_learnDeals_14 : decode cX6_learnDeals 14 = .ok (.iastore, 1) := by decide +kernel
theorem dX6_learnDeals_15 : decode cX6_learnDeals 15 = .ok (.iconst 0, 1) := by decide +kernel
theorem dX6_learnDeals_16 : decode cX6_learnDeals 16 = .ok (.istore 4, 2) := by decide +kernel
theorem dX6_learnDeals_18 : decode cX6_learnDeals 18 = .ok (.iload 4, 2) := by decide +kernel
theorem dX6_learnDeals_20 : decode cX6_learnDeals 20 = .ok (.aload_n 0, 1) := by decide +kernel
theorem dX6_learnDeals_21 : decode cX6_learnDeals 21 = .ok (.getfield 31, 3) := by decide +kernel
theorem dX6_learnDeals_24 : decode cX6_learnDeals 24 = .ok (.arraylength, 1) := by decide +kernel
theorem dX6_learnDeals_25 : decode cX6_learnDeals 25 = .ok (.if_icmp .ge 90, 3) := by decide +kernel
theorem dX6_learnDeals_28 : decode cX6_learnDeals 28 = .ok (.aload_n 0, 1) := by decide +kernel
theorem dX6_learnDeals_29 : decode cX6_learnDeals 29 = .ok (.getfield 34, 3) := by decide +kernel
theorem dX6_learnDeals_32 : decode cX6_learnDeals 32 = .ok (.iload 4, 2) := by decide +kernel
theorem dX6_learnDeals_34 : decode cX6_learnDeals 34 = .ok (.iaload, 1) := by decide +kernel
theorem dX6_learnDeals_35 : decode cX6_learnDeals 35 = .ok (.iconst (-1), 1) := by decide +kernel
theorem dX6_learnDeals_36 : decode cX6_learnDeals 36 = .ok (.if_icmp .eq 73, 3) := by decide +kernel
theorem dX6_learnDeals_39 : decode cX6_learnDeals 39 = .ok (.bipush 99, 2) := by decide +kernel
theorem dX6_learnDeals_41 : decode cX6_learnDeals 41 = .ok (.aload_n 0, 1) := by decide +kernel
theorem dX6_learnDeals_42 : decode cX6_learnDeals 42 = .ok (.getfield 9, 3) := by decide +kernel
theorem dX6_learnDeals_45 : decode cX6_learnDeals 45 = .ok (.getfield 80, 3) := by decide +kernel
theorem dX6_learnDeals_48 : decode cX6_learnDeals 48 = .ok (.getfield 84, 3) := by decide +kernel
theorem dX6_learnDeals_51 : decode cX6_learnDeals 51 = .ok (.iload 4, 2) := by decide +kernel
theorem dX6_learnDeals_53 : decode cX6_learnDeals 53 = .ok (.bipush 6, 2) := by decide +kernel
theorem dX6_learnDeals_55 : decode cX6_learnDeals 55 = .ok (.idiv, 1) := by decide +kernel
theorem dX6_learnDeals_56 : decode cX6_learnDeals 56 = .ok (.iadd, 1) := by decide +kernel
theorem dX6_learnDeals_57 : decode cX6_learnDeals 57 = .ok (.invokestatic 89, 3) := by decide +kernel
theorem dX6_learnDeals_60 : decode cX6_learnDeals 60 = .ok (.istore 5, 2) := by decide +kernel
theorem dX6_learnDeals_62 : decode cX6_learnDeals 62 = .ok (.aload_n 0, 1) := by decide +kernel
theorem dX6_learnDeals_63 : decode cX6_learnDeals 63 = .ok (.getfield 31, 3) := by decide +kernel
theorem dX6_learnDeals_66 : decode cX6_learnDeals 66 = .ok (.iload 4, 2) := by decide +kernel
theorem dX6_learnDeals_68 : decode cX6_learnDeals 68 = .ok (.aload_n 0, 1) := by decide +kernel
theorem dX6_learnDeals_69 : decode cX6_learnDeals 69 = .ok (.getfield 37, 3) := by decide +kernel
theorem dX6_learnDeals_72 : decode cX6_learnDeals 72 = .ok (.ifCond .le 18, 3) := by decide +kernel
theorem dX6_learnDeals_75 : decode cX6_learnDeals 75 = .ok (.aload_n 0, 1) := by decide +kernel
theorem dX6_learnDeals_76 : decode cX6_learnDeals 76 = .ok (.iload 4, 2) := by decide +kernel
theorem dX6_learnDeals_78 : decode cX6_learnDeals 78 = .ok (.bipush 6, 2) := by decide +kernel
theorem dX6_learnDeals_80 : decode cX6_learnDeals 80 = .ok (.irem, 1) := by decide +kernel
theorem dX6_learnDeals_81 : decode cX6_learnDeals 81 = .ok (.iload 5, 2) := by decide +kernel
theorem dX6_learnDeals_83 : decode cX6_learnDeals 83 = .ok (.iload_n 3, 1) := by decide +kernel
theorem dX6_learnDeals_84 : decode cX6_learnDeals 84 = .ok (.invokevirtual 94, 3) := by decide +kernel
theorem dX6_learnDeals_87 : decode cX6_learnDeals 87 = .ok (.goto 4, 3) := by decide +kernel
theorem dX6_learnDeals_90 : decode cX6_learnDeals 90 = .ok (.iconst 0, 1) := by decide +kernel
theorem dX6_learnDeals_91 : decode cX6_learnDeals 91 = .ok (.iastore, 1) := by decide +kernel
theorem dX6_learnDeals_92 : decode cX6_learnDeals 92 = .ok (.aload_n 0, 1) := by decide +kernel
theorem dX6_learnDeals_93 : decode cX6_learnDeals 93 = .ok (.getfield 34, 3) := by decide +kernel
theorem dX6_learnDeals_96 : decode cX6_learnDeals 96 = .ok (.iload 4, 2) := by decide +kernel
theorem dX6_learnDeals_98 : decode cX6_learnDeals 98 = .ok (.iaload, 1) := by decide +kernel
theorem dX6_learnDeals_99 : decode cX6_learnDeals 99 = .ok (.iload_n 2, 1) := by decide +kernel
theorem dX6_learnDeals_100 : decode cX6_learnDeals 100 = .ok (.if_icmp .ge 9, 3) := by decide +kernel
theorem dX6_learnDeals_103 : decode cX6_learnDeals 103 = .ok (.aload_n 0, 1) := by decide +kernel
theorem dX6_learnDeals_104 : decode cX6_learnDeals 104 = .ok (.iload 4, 2) := by decide +kernel
theorem dX6_learnDeals_106 : decode cX6_learnDeals 106 = .ok (.invokevirtual 98, 3) := by decide +kernel
theorem dX6_learnDeals_109 : decode cX6_learnDeals 109 = .ok (.iinc 4 1, 3) := by decide +kernel
theorem dX6_learnDeals_112 : decode cX6_learnDeals 112 = .ok (.goto (-94), 3) := by decide +kernel
theorem dX6_learnDeals_115 : decode cX6_learnDeals 115 = .ok (.return_, 1) := by decide +kernel
theorem dX6_mostMoney_0 : decode cX6_mostMoney 0 = .ok (.aload_n 0, 1) := by decide +kernel
theorem dX6_mostMoney_1 : decode cX6_mostMoney 1 = .ok (.iload_n 3, 1) := by decide +kernel
theorem dX6_mostMoney_2 : decode cX6_mostMoney 2 = .ok (.putfield 102, 3) := by decide +kernel
theorem dX6_mostMoney_5 : decode cX6_mostMoney 5 = .ok (.aload_n 0, 1) := by decide +kernel
theorem dX6_mostMoney_6 : decode cX6_mostMoney 6 = .ok (.iload 4, 2) := by decide +kernel
theorem dX6_mostMoney_8 : decode cX6_mostMoney 8 = .ok (.putfield 105, 3) := by decide +kernel
theorem dX6_mostMoney_11 : decode cX6_mostMoney 11 = .ok (.aload_n 0, 1) := by decide +kernel
theorem dX6_mostMoney_12 : decode cX6_mostMoney 12 = .ok (.iconst (-1), 1) := by decide +kernel
theorem dX6_mostMoney_13 : decode cX6_mostMoney 13 = .ok (.putfield 108, 3) := by decide +kernel
theorem dX6_mostMoney_16 : decode cX6_mostMoney 16 = .ok (.aload_n 0, 1) := by decide +kernel
theorem dX6_mostMoney_17 : decode cX6_mostMoney 17 = .ok (.aload_n 0, 1) := by decide +kernel
theorem dX6_mostMoney_18 : decode cX6_mostMoney 18 = .ok (.getfield 102, 3) := by decide +kernel
theorem dX6_mostMoney_21 : decode cX6_mostMoney 21 = .ok (.aload_n 0, 1) := by decide +kernel
theorem dX6_mostMoney_22 : decode cX6_mostMoney 22 = .ok (.invokevirtual 111, 3) := by decide +kernel
theorem dX6_mostMoney_25 : decode cX6_mostMoney 25 = .ok (.imul, 1) := by decide +kernel
theorem dX6_mostMoney_26 : decode cX6_mostMoney 26 = .ok (.putfield 115, 3) := by decide +kernel
theorem dX6_mostMoney_29 : decode cX6_mostMoney 29 = .ok (.aload_n 0, 1) := by decide +kernel
theorem dX6_mostMoney_30 : decode cX6_mostMoney 30 = .ok (.iconst 0, 1) := by decide +kernel
theorem dX6_mostMoney_31 : decode cX6_mostMoney 31 = .ok (.iload_n 1, 1) := by decide +kernel
theorem dX6_mostMoney_32 : decode cX6_mostMoney 32 = .ok (.iconst 0, 1) := by decide +kernel
theorem dX6_mostMoney_33 : decode cX6_mostMoney 33 = .ok (.iload_n 2, 1) := by decide +kernel
theorem dX6_mostMoney_34 : decode cX6_mostMoney 34 = .ok (.iconst (-1), 1) := by decide +kernel
theorem dX6_mostMoney_35 : decode cX6_mostMoney 35 = .ok (.iconst 0, 1) := by decide +kernel
theorem dX6_mostMoney_36 : decode cX6_mostMoney 36 = .ok (.invokevirtual 118, 3) := by decide +kernel
theorem dX6_mostMoney_39 : decode cX6_mostMoney 39 = .ok (.aload_n 0, 1) := by decide +kernel
theorem dX6_mostMoney_40 : decode cX6_mostMoney 40 = .ok (.getfield 108, 3) := by decide +kernel
theorem dX6_mostMoney_43 : decode cX6_mostMoney 43 = .ok (.ireturn, 1) := by decide +kernel
theorem dX6_dealBit_0 : decode cX6_dealBit 0 = .ok (.iconst 1, 1) := by decide +kernel
theorem dX6_dealBit_1 : decode cX6_dealBit 1 = .ok (.iload_n 0, 1) := by decide +kernel
theorem dX6_dealBit_2 : decode cX6_dealBit 2 = .ok (.bipush 6, 2) := by decide +kernel
theorem dX6_dealBit_4 : decode cX6_dealBit 4 = .ok (.imul, 1) := by decide +kernel
theorem dX6_dealBit_5 : decode cX6_dealBit 5 = .ok (.iload_n 1, 1) := by decide +kernel
theorem dX6_dealBit_6 : decode cX6_dealBit 6 = .ok (.iadd, 1) := by decide +kernel
theorem dX6_dealBit_7 : decode cX6_dealBit 7 = .ok (.iconst 1, 1) := by decide +kernel
theorem dX6_dealBit_8 : decode cX6_dealBit 8 = .ok (.isub, 1) := by decide +kernel
theorem dX6_dealBit_9 : decode cX6_dealBit 9 = .ok (.ishl, 1) := by decide +kernel
theorem dX6_dealBit_10 : decode cX6_dealBit 10 = .ok (.ireturn, 1) := by decide +kernel
theorem dX6_markNext_0 : decode cX6_markNext 0 = .ok (.aload_n 0, 1) := by decide +kernel
theorem dX6_markNext_1 : decode cX6_markNext 1 = .ok (.getfield 9, 3) := by decide +kernel
theorem dX6_markNext_4 : decode cX6_markNext 4 = .ok (.getfield 122, 3) := by decide +kernel
theorem dX6_markNext_7 : decode cX6_markNext 7 = .ok (.getfield 126, 3) := by decide +kernel
theorem dX6_markNext_10 : decode cX6_markNext 10 = .ok (.iload_n 1, 1) := by decide +kernel
theorem dX6_markNext_11 : decode cX6_markNext 11 = .ok (.bipush 6, 2) := by decide +kernel
theorem dX6_markNext_13 : decode cX6_markNext 13 = .ok (.irem, 1) := by decide +kernel
theorem dX6_markNext_14 : decode cX6_markNext 14 = .ok (.aaload, 1) := by decide +kernel
theorem dX6_markNext_15 : decode cX6_markNext 15 = .ok (.astore_n 2, 1) := by decide +kernel
theorem dX6_markNext_16 : decode cX6_markNext 16 = .ok (.iconst 0, 1) := by decide +kernel
theorem dX6_markNext_17 : decode cX6_markNext 17 = .ok (.istore_n 3, 1) := by decide +kernel
theorem dX6_markNext_18 : decode cX6_markNext 18 = .ok (.iload_n 3, 1) := by decide +kernel
theorem dX6_markNext_19 : decode cX6_markNext 19 = .ok (.aload_n 0, 1) := by decide +kernel
theorem dX6_markNext_20 : decode cX6_markNext 20 = .ok (.getfield 9, 3) := by decide +kernel
theorem dX6_markNext_23 : decode cX6_markNext 23 = .ok (.getfield 122, 3) := by decide +kernel
theorem dX6_markNext_26 : decode cX6_markNext 26 = .ok (.getfield 131, 3) := by decide +kernel
theorem dX6_markNext_29 : decode cX6_markNext 29 = .ok (.if_icmp .ge 86, 3) := by decide +kernel
theorem dX6_markNext_32 : decode cX6_markNext 32 = .ok (.iload_n 1, 1) := by decide +kernel
theorem dX6_markNext_33 : decode cX6_markNext 33 = .ok (.bipush 6, 2) := by decide +kernel
theorem dX6_markNext_35 : decode cX6_markNext 35 = .ok (.idiv, 1) := by decide +kernel
theorem dX6_markNext_36 : decode cX6_markNext 36 = .ok (.aload_n 2, 1) := by decide +kernel
theorem dX6_markNext_37 : decode cX6_markNext 37 = .ok (.iload_n 3, 1) := by decide +kernel
theorem dX6_markNext_38 : decode cX6_markNext 38 = .ok (.iaload, 1) := by decide +kernel
theorem dX6_markNext_39 : decode cX6_markNext 39 = .ok (.iadd, 1) := by decide +kernel
theorem dX6_markNext_40 : decode cX6_markNext 40 = .ok (.bipush 6, 2) := by decide +kernel
theorem dX6_markNext_42 : decode cX6_markNext 42 = .ok (.imul, 1) := by decide +kernel
theorem dX6_markNext_43 : decode cX6_markNext 43 = .ok (.iload_n 3, 1) := by decide +kernel
theorem dX6_markNext_44 : decode cX6_markNext 44 = .ok (.iadd, 1) := by decide +kernel
theorem dX6_markNext_45 : decode cX6_markNext 45 = .ok (.istore 4, 2) := by decide +kernel
theorem dX6_markNext_47 : decode cX6_markNext 47 = .ok (.aload_n 2, 1) := by decide +kernel
theorem dX6_markNext_48 : decode cX6_markNext 48 = .ok (.iload_n 3, 1) := by decide +kernel
theorem dX6_markNext_49 : decode cX6_markNext 49 = .ok (.iaload, 1) := by decide +kernel
theorem dX6_markNext_50 : decode cX6_markNext 50 = .ok (.ifCond .le 59, 3) := by decide +kernel
theorem dX6_markNext_53 : decode cX6_markNext 53 = .ok (.iload 4, 2) := by decide +kernel
theorem dX6_markNext_55 : decode cX6_markNext 55 = .ok (.aload_n 0, 1) := by decide +kernel
theorem dX6_markNext_56 : decode cX6_markNext 56 = .ok (.getfield 34, 3) := by decide +kernel
theorem dX6_markNext_59 : decode cX6_markNext 59 = .ok (.arraylength, 1) := by decide +kernel
theorem dX6_markNext_60 : decode cX6_markNext 60 = .ok (.if_icmp .ge 49, 3) := by decide +kernel
theorem dX6_markNext_63 : decode cX6_markNext 63 = .ok (.aload_n 0, 1) := by decide +kernel
theorem dX6_markNext_64 : decode cX6_markNext 64 = .ok (.getfield 34, 3) := by decide +kernel
theorem dX6_markNext_67 : decode cX6_markNext 67 = .ok (.iload 4, 2) := by decide +kernel
theorem dX6_markNext_69 : decode cX6_markNext 69 = .ok (.iaload, 1) := by decide +kernel
theorem dX6_markNext_70 : decode cX6_markNext 70 = .ok (.istore 5, 2) := by decide +kernel
theorem dX6_markNext_72 : decode cX6_markNext 72 = .ok (.aload_n 0, 1) := by decide +kernel
theorem dX6_markNext_73 : decode cX6_markNext 73 = .ok (.getfield 34, 3) := by decide +kernel
theorem dX6_markNext_76 : decode cX6_markNext 76 = .ok (.iload 4, 2) := by decide +kernel
theorem dX6_markNext_78 : decode cX6_markNext 78 = .ok (.iload 5, 2) := by decide +kernel
theorem dX6_markNext_80 : decode cX6_markNext 80 = .ok (.iconst (-1), 1) := by decide +kernel
theorem dX6_markNext_81 : decode cX6_markNext 81 = .ok (.if_icmp .ne 14, 3) := by decide +kernel
theorem dX6_markNext_84 : decode cX6_markNext 84 = .ok (.aload_n 0, 1) := by decide +kernel
theorem dX6_markNext_85 : decode cX6_markNext 85 = .ok (.getfield 34, 3) := by decide +kernel
theorem dX6_markNext_88 : decode cX6_markNext 88 = .ok (.iload_n 1, 1) := by decide +kernel
theorem dX6_markNext_89 : decode cX6_markNext 89 = .ok (.iaload, 1) := by decide +kernel
theorem dX6_markNext_90 : decode cX6_markNext 90 = .ok (.iconst 1, 1) := by decide +kernel
theorem dX6_markNext_91 : decode cX6_markNext 91 = .ok (.iadd, 1) := by decide +kernel
theorem dX6_markNext_92 : decode cX6_markNext 92 = .ok (.goto 16, 3) := by decide +kernel
theorem dX6_markNext_95 : decode cX6_markNext 95 = .ok (.iload 5, 2) := by decide +kernel
theorem dX6_markNext_97 : decode cX6_markNext 97 = .ok (.aload_n 0, 1) := by decide +kernel
theorem dX6_markNext_98 : decode cX6_markNext 98 = .ok (.getfield 34, 3) := by decide +kernel
theorem dX6_markNext_101 : decode cX6_markNext 101 = .ok (.iload_n 1, 1) := by decide +kernel
theorem dX6_markNext_102 : decode cX6_markNext 102 = .ok (.iaload, 1) := by decide +kernel
theorem dX6_markNext_103 : decode cX6_markNext 103 = .ok (.iconst 1, 1) := by decide +kernel
theorem dX6_markNext_104 : decode cX6_markNext 104 = .ok (.iadd, 1) := by decide +kernel
theorem dX6_markNext_105 : decode cX6_markNext 105 = .ok (.invokestatic 89, 3) := by decide +kernel
theorem dX6_markNext_108 : decode cX6_markNext 108 = .ok (.iastore, 1) := by decide +kernel
theorem dX6_markNext_109 : decode cX6_markNext 109 = .ok (.iinc 3 1, 3) := by decide +kernel
theorem dX6_markNext_112 : decode cX6_markNext 112 = .ok (.goto (-94), 3) := by decide +kernel
theorem dX6_markNext_115 : decode cX6_markNext 115 = .ok (.return_, 1) := by decide +kernel
theorem dX6_land_0 : decode cX6_land 0 = .ok (.aload_n 0, 1) := by decide +kernel
theorem dX6_land_1 : decode cX6_land 1 = .ok (.iload_n 2, 1) := by decide +kernel
theorem dX6_land_2 : decode cX6_land 2 = .ok (.iload_n 3, 1) := by decide +kernel
theorem dX6_land_3 : decode cX6_land 3 = .ok (.invokevirtual 134, 3) := by decide +kernel
theorem dX6_land_6 : decode cX6_land 6 = .ok (.istore 7, 2) := by decide +kernel
theorem dX6_land_8 : decode cX6_land 8 = .ok (.iload 6, 2) := by decide +kernel
theorem dX6_land_10 : decode cX6_land 10 = .ok (.ifCond .le 19, 3) := by decide +kernel
theorem dX6_land_13 : decode cX6_land 13 = .ok (.iload 7, 2) := by decide +kernel
theorem dX6_land_15 : decode cX6_land 15 = .ok (.iload 5, 2) := by decide +kernel
theorem dX6_land_17 : decode cX6_land 17 = .ok (.iload 6, 2) := by decide +kernel
theorem dX6_land_19 : decode cX6_land 19 = .ok (.invokestatic 137, 3) := by decide +kernel
theorem dX6_land_22 : decode cX6_land 22 = .ok (.ifCond .eq 7, 3) := by decide +kernel
theorem dX6_land_25 : decode cX6_land 25 = .ok (.iconst 1, 1) := by decide +kernel
theorem dX6_land_26 : decode cX6_land 26 = .ok (.goto 4, 3) := by decide +kernel
theorem dX6_land_29 : decode cX6_land 29 = .ok (.iconst 0, 1) := by decide +kernel
theorem dX6_land_30 : decode cX6_land 30 = .ok (.istore 8, 2) := by decide +kernel
theorem dX6_land_32 : decode cX6_land 32 = .ok (.iload 8, 2) := by decide +kernel
theorem dX6_land_34 : decode cX6_land 34 = .ok (.ifCond .eq 21, 3) := by decide +kernel
theorem dX6_land_37 : decode cX6_land 37 = .ok (.iload 4, 2) := by decide +kernel
theorem dX6_land_39 : decode cX6_land 39 = .ok (.iload 6, 2) := by decide +kernel
theorem dX6_land_41 : decode cX6_land 41 = .ok (.aload_n 0, 1) := by decide +kernel
theorem dX6_land_42 : decode cX6_land 42 = .ok (.getfield 21, 3) := by decide +kernel
theorem dX6_land_45 : decode cX6_land 45 = .ok (.iload 5, 2) := by decide +kernel
theorem dX6_land_47 : decode cX6_land 47 = .ok (.aaload, 1) := by decide +kernel
theorem dX6_land_48 : decode cX6_land 48 = .ok (.iload_n 2, 1) := by decide +kernel
theorem dX6_land_49 : decode cX6_land 49 = .ok (.iaload, 1) := by decide +kernel
theorem dX6_land_50 : decode cX6_land 50 = .ok (.imul, 1) := by decide +kernel
theorem dX6_land_51 : decode cX6_land 51 = .ok (.iadd, 1) := by decide +kernel
theorem dX6_land_52 : decode cX6_land 52 = .ok (.goto 5, 3) := by decide +kernel
theorem dX6_land_55 : decode cX6_land 55 = .ok (.iload 4, 2) := by decide +kernel
theorem dX6_land_57 : decode cX6_land 57 = .ok (.istore 9, 2) := by decide +kernel
theorem dX6_land_59 : decode cX6_land 59 = .ok (.iload_n 1, 1) := by decide +kernel
theorem dX6_land_60 : decode cX6_land 60 = .ok (.aload_n 0, 1) := by decide +kernel
theorem dX6_land_61 : decode cX6_land 61 = .ok (.getfield 105, 3) := by decide +kernel
theorem dX6_land_64 : decode cX6_land 64 = .ok (.if_icmp .lt 12, 3) := by decide +kernel
theorem dX6_land_67 : decode cX6_land 67 = .ok (.aload_n 0, 1) := by decide +kernel
theorem dX6_land_68 : decode cX6_land 68 = .ok (.iload 9, 2) := by decide +kernel
theorem dX6_land_70 : decode cX6_land 70 = .ok (.invokevirtual 141, 3) := by decide +kernel
theorem dX6_land_73 : decode cX6_land 73 = .ok (.goto 45, 3) := by decide +kernel
theorem dX6_land_76 : decode cX6_land 76 = .ok (.iload 6, 2) := by decide +kernel
theorem dX6_land_78 : decode cX6_land 78 = .ok (.ifCond .le 29, 3) := by decide +kernel
theorem dX6_land_81 : decode cX6_land 81 = .ok (.iload 8, 2) := by decide +kernel
theorem dX6_land_83 : decode cX6_land 83 = .ok (.ifCond .ne 24, 3) := by decide +kernel
theorem dX6_land_86 : decode cX6_land 86 = .ok (.aload_n 0, 1) := by decide +kernel
theorem dX6_land_87 : decode cX6_land 87 = .ok (.iload_n 1, 1) := by decide +kernel
theorem dX6_land_88 : decode cX6_land 88 = .ok (.invokevirtual 144, 3) := by decide +kernel
theorem dX6_land_91 : decode cX6_land 91 = .ok (.aload_n 0, 1) := by decide +kernel
theorem dX6_land_92 : decode cX6_land 92 = .ok (.iload_n 1, 1) := by decide +kernel
theorem dX6_land_93 : decode cX6_land 93 = .ok (.iload_n 2, 1) := by decide +kernel
theorem dX6_land_94 : decode cX6_land 94 = .ok (.iload_n 3, 1) := by decide +kernel
theorem dX6_land_95 : decode cX6_land 95 = .ok (.iload 9, 2) := by decide +kernel
theorem dX6_land_97 : decode cX6_land 97 = .ok (.iload 5, 2) := by decide +kernel
theorem dX6_land_99 : decode cX6_land 99 = .ok (.iload 6, 2) := by decide +kernel
theorem dX6_land_101 : decode cX6_land 101 = .ok (.invokevirtual 147, 3) := by decide +kernel
theorem dX6_land_104 : decode cX6_land 104 = .ok (.goto 14, 3) := by decide +kernel
theorem dX6_land_107 : decode cX6_land 107 = .ok (.aload_n 0, 1) := by decide +kernel
theorem dX6_land_108 : decode cX6_land 108 = .ok (.iload_n 1, 1) := by decide +kernel
theorem dX6_land_109 : decode cX6_land 109 = .ok (.iload_n 2, 1) := by decide +kernel
theorem dX6_land_110 : decode cX6_land 110 = .ok (.iload_n 3, 1) := by decide +kernel
theorem dX6_land_111 : decode cX6_land 111 = .ok (.iload 9, 2) := by decide +kernel
theorem dX6_land_113 : decode cX6_land 113 = .ok (.iload 7, 2) := by decide +kernel
theorem dX6_land_115 : decode cX6_land 115 = .ok (.invokevirtual 150, 3) := by decide +kernel
theorem dX6_land_118 : decode cX6_land 118 = .ok (.return_, 1) := by decide +kernel
theorem dX6_trade_0 : decode cX6_trade 0 = .ok (.iload 4, 2) := by decide +kernel
theorem dX6_trade_2 : decode cX6_trade 2 = .ok (.aload_n 0, 1) := by decide +kernel
theorem dX6_trade_3 : decode cX6_trade 3 = .ok (.getfield 105, 3) := by decide +kernel
theorem dX6_trade_6 : decode cX6_trade 6 = .ok (.iload_n 1, 1) := by decide +kernel
theorem dX6_trade_7 : decode cX6_trade 7 = .ok (.isub, 1) := by decide +kernel
theorem dX6_trade_8 : decode cX6_trade 8 = .ok (.aload_n 0, 1) := by decide +kernel
theorem dX6_trade_9 : decode cX6_trade 9 = .ok (.getfield 115, 3) := by decide +kernel
theorem dX6_trade_12 : decode cX6_trade 12 = .ok (.imul, 1) := by decide +kernel
theorem dX6_trade_13 : decode cX6_trade 13 = .ok (.iadd, 1) := by decide +kernel
theorem dX6_trade_14 : decode cX6_trade 14 = .ok (.aload_n 0, 1) := by decide +kernel
theorem dX6_trade_15 : decode cX6_trade 15 = .ok (.getfield 108, 3) := by decide +kernel
theorem dX6_trade_18 : decode cX6_trade 18 = .ok (.if_icmp .gt 4, 3) := by decide +kernel
theorem dX6_trade_21 : decode cX6_trade 21 = .ok (.return_, 1) := by decide +kernel
theorem dX6_trade_22 : decode cX6_trade 22 = .ok (.aload_n 0, 1) := by decide +kernel
theorem dX6_trade_23 : decode cX6_trade 23 = .ok (.iload_n 1, 1) := by decide +kernel
theorem dX6_trade_24 : decode cX6_trade 24 = .ok (.invokevirtual 144, 3) := by decide +kernel
theorem dX6_trade_27 : decode cX6_trade 27 = .ok (.aload_n 0, 1) := by decide +kernel
theorem dX6_trade_28 : decode cX6_trade 28 = .ok (.iload_n 1, 1) := by decide +kernel
theorem dX6_trade_29 : decode cX6_trade 29 = .ok (.iload_n 2, 1) := by decide +kernel
theorem dX6_trade_30 : decode cX6_trade 30 = .ok (.iload_n 3, 1) := by decide +kernel
theorem dX6_trade_31 : decode cX6_trade 31 = .ok (.iload 4, 2) := by decide +kernel
theorem dX6_trade_33 : decode cX6_trade 33 = .ok (.iconst (-1), 1) := by decide +kernel
theorem dX6_trade_34 : decode cX6_trade 34 = .ok (.iconst 0, 1) := by decide +kernel
theorem dX6_trade_35 : decode cX6_trade 35 = .ok (.invokevirtual 147, 3) := by decide +kernel
theorem dX6_trade_38 : decode cX6_trade 38 = .ok (.iconst 0, 1) := by decide +kernel
theorem dX6_trade_39 : decode cX6_trade 39 = .ok (.istore 6, 2) := by decide +kernel
theorem dX6_trade_41 : decode cX6_trade 41 = .ok (.iload 6, 2) := by decide +kernel
theorem dX6_trade_43 : decode cX6_trade 43 = .ok (.aload_n 0, 1) := by decide +kernel
theorem dX6_trade_44 : decode cX6_trade 44 = .ok (.getfield 37, 3) := by decide +kernel
theorem dX6_trade_47 : decode cX6_trade 47 = .ok (.if_icmp .ge 98, 3) := by decide +kernel
theorem dX6_trade_50 : decode cX6_trade 50 = .ok (.iconst 1, 1) := by decide +kernel
theorem dX6_trade_51 : decode cX6_trade 51 = .ok (.istore 7, 2) := by decide +kernel
theorem dX6_trade_53 : decode cX6_trade 53 = .ok (.iload 7, 2) := by decide +kernel
theorem dX6_trade_55 : decode cX6_trade 55 = .ok (.aload_n 0, 1) := by decide +kernel
theorem dX6_trade_56 : decode cX6_trade 56 = .ok (.getfield 102, 3) := by decide +kernel
theorem dX6_trade_59 : decode cX6_trade 59 = .ok (.if_icmp .gt 80, 3) := by decide +kernel
theorem dX6_trade_62 : decode cX6_trade 62 = .ok (.iload 7, 2) := by decide +kernel
theorem dX6_trade_64 : decode cX6_trade 64 = .ok (.aload_n 0, 1) := by decide +kernel
theorem dX6_trade_65 : decode cX6_trade 65 = .ok (.getfield 21, 3) := by decide +kernel
theorem dX6_trade_68 : decode cX6_trade 68 = .ok (.iload 6, 2) := by decide +kernel
theorem dX6_trade_70 : decode cX6_trade 70 = .ok (.aaload, 1) := by decide +kernel
theorem dX6_trade_71 : decode cX6_trade 71 = .ok (.iload_n 2, 1) := by decide +kernel
theorem dX6_trade_72 : decode cX6_trade 72 = .ok (.iaload, 1) := by decide +kernel
theorem dX6_trade_73 : decode cX6_trade 73 = .ok (.imul, 1) := by decide +kernel
theorem dX6_trade_74 : decode cX6_trade 74 = .ok (.istore 8, 2) := by decide +kernel
theorem dX6_trade_76 : decode cX6_trade 76 = .ok (.iload 8, 2) := by decide +kernel
theorem dX6_trade_78 : decode cX6_trade 78 = .ok (.iload 4, 2) := by decide +kernel
theorem dX6_trade_80 : decode cX6_trade 80 = .ok (.if_icmp .gt 53, 3) := by decide +kernel
theorem dX6_trade_83 : decode cX6_trade 83 = .ok (.iload 5, 2) := by decide +kernel
theorem dX6_trade_85 : decode cX6_trade 85 = .ok (.iload 6, 2) := by decide +kernel
theorem dX6_trade_87 : decode cX6_trade 87 = .ok (.iload 7, 2) := by decide +kernel
theorem dX6_trade_89 : decode cX6_trade 89 = .ok (.invokestatic 137, 3) := by decide +kernel
theorem dX6_trade_92 : decode cX6_trade 92 = .ok (.ifCond .eq 41, 3) := by decide +kernel
theorem dX6_trade_95 : decode cX6_trade 95 = .ok (.aload_n 0, 1) := by decide +kernel
theorem dX6_trade_96 : decode cX6_trade 96 = .ok (.getfield 28, 3) := by decide +kernel
theorem dX6_trade_99 : decode cX6_trade 99 = .ok (.iconst 3, 1) := by decide +kernel
theorem dX6_trade_100 : decode cX6_trade 100 = .ok (.iload_n 1, 1) := by decide +kernel
theorem dX6_trade_101 : decode cX6_trade 101 = .ok (.imul, 1) := by decide +kernel
theorem dX6_trade_102 : decode cX6_trade 102 = .ok (.iload 6, 2) := by decide +kernel
theorem dX6_trade_104 : decode cX6_trade 104 = .ok (.iastore, 1) := by decide +kernel
theorem dX6_trade_105 : decode cX6_trade 105 = .ok (.aload_n 0, 1) := by decide +kernel
theorem dX6_trade_106 : decode cX6_trade 106 = .ok (.getfield 28, 3) := by decide +kernel
theorem dX6_trade_109 : decode cX6_trade 109 = .ok (.iconst 3, 1) := by decide +kernel
theorem dX6_trade_110 : decode cX6_trade 110 = .ok (.iload_n 1, 1) := by decide +kernel
theorem dX6_trade_111 : decode cX6_trade 111 = .ok (.imul, 1) := by decide +kernel
theorem dX6_trade_112 : decode cX6_trade 112 = .ok (.iconst 1, 1) := by decide +kernel
theorem dX6_trade_113 : decode cX6_trade 113 = .ok (.iadd, 1) := by decide +kernel
theorem dX6_trade_114 : decode cX6_trade 114 = .ok (.iload 7, 2) := by decide +kernel
theorem dX6_trade_116 : decode cX6_trade 116 = .ok (.iastore, 1) := by decide +kernel
theorem dX6_trade_117 : decode cX6_trade 117 = .ok (.aload_n 0, 1) := by decide +kernel
theorem dX6_trade_118 : decode cX6_trade 118 = .ok (.iload_n 1, 1) := by decide +kernel
theorem dX6_trade_119 : decode cX6_trade 119 = .ok (.iload_n 2, 1) := by decide +kernel
theorem dX6_trade_120 : decode cX6_trade 120 = .ok (.iload_n 3, 1) := by decide +kernel
theorem dX6_trade_121 : decode cX6_trade 121 = .ok (.iload 4, 2) := by decide +kernel
theorem dX6_trade_123 : decode cX6_trade 123 = .ok (.iload 8, 2) := by decide +kernel
theorem dX6_trade_125 : decode cX6_trade 125 = .ok (.isub, 1) := by decide +kernel
theorem dX6_trade_126 : decode cX6_trade 126 = .ok (.iload 6, 2) := by decide +kernel
theorem dX6_trade_128 : decode cX6_trade 128 = .ok (.iload 7, 2) := by decide +kernel
theorem dX6_trade_130 : decode cX6_trade 130 = .ok (.invokevirtual 147, 3) := by decide +kernel
theorem dX6_trade_133 : decode cX6_trade 133 = .ok (.iinc 7 1, 3) := by decide +kernel
theorem dX6_trade_136 : decode cX6_trade 136 = .ok (.goto (-83), 3) := by decide +kernel
theorem dX6_trade_139 : decode cX6_trade 139 = .ok (.iinc 6 1, 3) := by decide +kernel
theorem dX6_trade_142 : decode cX6_trade 142 = .ok (.goto (-101), 3) := by decide +kernel
theorem dX6_trade_145 : decode cX6_trade 145 = .ok (.return_, 1) := by decide +kernel
theorem dX6_leave_0 : decode cX6_leave 0 = .ok (.iconst 0, 1) := by decide +kernel
theorem dX6_leave_1 : decode cX6_leave 1 = .ok (.istore 7, 2) := by decide +kernel
theorem dX6_leave_3 : decode cX6_leave 3 = .ok (.iload 7, 2) := by decide +kernel
theorem dX6_leave_5 : decode cX6_leave 5 = .ok (.aload_n 0, 1) := by decide +kernel
theorem dX6_leave_6 : decode cX6_leave 6 = .ok (.getfield 9, 3) := by decide +kernel
theorem dX6_leave_9 : decode cX6_leave 9 = .ok (.getfield 122, 3) := by decide +kernel
theorem dX6_leave_12 : decode cX6_leave 12 = .ok (.getfield 131, 3) := by decide +kernel
theorem dX6_leave_15 : decode cX6_leave 15 = .ok (.if_icmp .ge 67, 3) := by decide +kernel
theorem dX6_leave_18 : decode cX6_leave 18 = .ok (.aload_n 0, 1) := by decide +kernel
theorem dX6_leave_19 : decode cX6_leave 19 = .ok (.getfield 9, 3) := by decide +kernel
theorem dX6_leave_22 : decode cX6_leave 22 = .ok (.getfield 122, 3) := by decide +kernel
theorem dX6_leave_25 : decode cX6_leave 25 = .ok (.getfield 126, 3) := by decide +kernel
theorem dX6_leave_28 : decode cX6_leave 28 = .ok (.iload_n 2, 1) := by decide +kernel
theorem dX6_leave_29 : decode cX6_leave 29 = .ok (.aaload, 1) := by decide +kernel
theorem dX6_leave_30 : decode cX6_leave 30 = .ok (.iload 7, 2) := by decide +kernel
theorem dX6_leave_32 : decode cX6_leave 32 = .ok (.iaload, 1) := by decide +kernel
theorem dX6_leave_33 : decode cX6_leave 33 = .ok (.istore 8, 2) := by decide +kernel
theorem dX6_leave_35 : decode cX6_leave 35 = .ok (.iload 8, 2) := by decide +kernel
theorem dX6_leave_37 : decode cX6_leave 37 = .ok (.ifCond .le 39, 3) := by decide +kernel
theorem dX6_leave_40 : decode cX6_leave 40 = .ok (.iload_n 1, 1) := by decide +kernel
theorem dX6_leave_41 : decode cX6_leave 41 = .ok (.iconst 3, 1) := by decide +kernel
theorem dX6_leave_42 : decode cX6_leave 42 = .ok (.if_icmp .ge 34, 3) := by decide +kernel
theorem dX6_leave_45 : decode cX6_leave 45 = .ok (.aload_n 0, 1) := by decide +kernel
theorem dX6_leave_46 : decode cX6_leave 46 = .ok (.getfield 28, 3) := by decide +kernel
theorem dX6_leave_49 : decode cX6_leave 49 = .ok (.iconst 3, 1) := by decide +kernel
theorem dX6_leave_50 : decode cX6_leave 50 = .ok (.iload_n 1, 1) := by decide +kernel
theorem dX6_leave_51 : decode cX6_leave 51 = .ok (.imul, 1) := by decide +kernel
theorem dX6_leave_52 : decode cX6_leave 52 = .ok (.iconst 2, 1) := by decide +kernel
theorem dX6_leave_53 : decode cX6_leave 53 = .ok (.iadd, 1) := by decide +kernel
theorem dX6_leave_54 : decode cX6_leave 54 = .ok (.iload 7, 2) := by decide +kernel
theorem dX6_leave_56 : decode cX6_leave 56 = .ok (.iastore, 1) := by decide +kernel
theorem dX6_leave_57 : decode cX6_leave 57 = .ok (.aload_n 0, 1) := by decide +kernel
theorem dX6_leave_58 : decode cX6_leave 58 = .ok (.iload_n 1, 1) := by decide +kernel
theorem dX6_leave_59 : decode cX6_leave 59 = .ok (.iconst 1, 1) := by decide +kernel
theorem dX6_leave_60 : decode cX6_leave 60 = .ok (.iadd, 1) := by decide +kernel
theorem dX6_leave_61 : decode cX6_leave 61 = .ok (.iload 7, 2) := by decide +kernel
theorem dX6_leave_63 : decode cX6_leave 63 = .ok (.iload_n 3, 1) := by decide +kernel
theorem dX6_leave_64 : decode cX6_leave 64 = .ok (.iload 8, 2) := by decide +kernel
theorem dX6_leave_66 : decode cX6_leave 66 = .ok (.iadd, 1) := by decide +kernel
theorem dX6_leave_67 : decode cX6_leave 67 = .ok (.iload 4, 2) := by decide +kernel
theorem dX6_leave_69 : decode cX6_leave 69 = .ok (.iload 5, 2) := by decide +kernel
theorem dX6_leave_71 : decode cX6_leave 71 = .ok (.iload 6, 2) := by decide +kernel
theorem dX6_leave_73 : decode cX6_leave 73 = .ok (.invokevirtual 118, 3) := by decide +kernel
theorem dX6_leave_76 : decode cX6_leave 76 = .ok (.iinc 7 1, 3) := by decide +kernel
theorem dX6_leave_79 : decode cX6_leave 79 = .ok (.goto (-76), 3) := by decide +kernel
theorem dX6_leave_82 : decode cX6_leave 82 = .ok (.return_, 1) := by decide +kernel
theorem dX6_buyNothing_0 : decode cX6_buyNothing 0 = .ok (.aload_n 0, 1) := by decide +kernel
theorem dX6_buyNothing_1 : decode cX6_buyNothing 1 = .ok (.getfield 28, 3) := by decide +kernel
theorem dX6_buyNothing_4 : decode cX6_buyNothing 4 = .ok (.iconst 3, 1) := by decide +kernel
theorem dX6_buyNothing_5 : decode cX6_buyNothing 5 = .ok (.iload_n 1, 1) := by decide +kernel
theorem dX6_buyNothing_6 : decode cX6_buyNothing 6 = .ok (.imul, 1) := by decide +kernel
theorem dX6_buyNothing_7 : decode cX6_buyNothing 7 = .ok (.iconst (-1), 1) := by decide +kernel
theorem dX6_buyNothing_8 : decode cX6_buyNothing 8 = .ok (.iastore, 1) := by decide +kernel
theorem dX6_buyNothing_9 : decode cX6_buyNothing 9 = .ok (.aload_n 0, 1) := by decide +kernel
theorem dX6_buyNothing_10 : decode cX6_buyNothing 10 = .ok (.getfield 28, 3) := by decide +kernel
theorem dX6_buyNothing_13 : decode cX6_buyNothing 13 = .ok (.iconst 3, 1) := by decide +kernel
theorem dX6_buyNothing_14 : decode cX6_buyNothing 14 = .ok (.iload_n 1, 1) := by decide +kernel
theorem dX6_buyNothing_15 : decode cX6_buyNothing 15 = .ok (.imul, 1) := by decide +kernel
theorem dX6_buyNothing_16 : decode cX6_buyNothing 16 = .ok (.iconst 1, 1) := by decide +kernel
theorem dX6_buyNothing_17 : decode cX6_buyNothing 17 = .ok (.iadd, 1) := by decide +kernel
theorem dX6_buyNothing_18 : decode cX6_buyNothing 18 = .ok (.iconst 0, 1) := by decide +kernel
theorem dX6_buyNothing_19 : decode cX6_buyNothing 19 = .ok (.iastore, 1) := by decide +kernel
theorem dX6_buyNothing_20 : decode cX6_buyNothing 20 = .ok (.return_, 1) := by decide +kernel
theorem dX6_widestSpread_0 : decode cX6_widestSpread 0 = .ok (.iconst 0, 1) := by decide +kernel
theorem dX6_widestSpread_1 : decode cX6_widestSpread 1 = .ok (.istore_n 1, 1) := by decide +kernel
theorem dX6_widestSpread_2 : decode cX6_widestSpread 2 = .ok (.iconst 0, 1) := by decide +kernel
theorem dX6_widestSpread_3 : decode cX6_widestSpread 3 = .ok (.istore_n 2, 1) := by decide +kernel
theorem dX6_widestSpread_4 : decode cX6_widestSpread 4 = .ok (.iload_n 2, 1) := by decide +kernel
theorem dX6_widestSpread_5 : decode cX6_widestSpread 5 = .ok (.aload_n 0, 1) := by decide +kernel
theorem dX6_widestSpread_6 : decode cX6_widestSpread 6 = .ok (.getfield 37, 3) := by decide +kernel
theorem dX6_widestSpread_9 : decode cX6_widestSpread 9 = .ok (.if_icmp .ge 78, 3) := by decide +kernel
theorem dX6_widestSpread_12 : decode cX6_widestSpread 12 = .ok (.bipush 99, 2) := by decide +kernel
theorem dX6_widestSpread_14 : decode cX6_widestSpread 14 = .ok (.istore_n 3, 1) := by decide +kernel
theorem dX6_widestSpread_15 : decode cX6_widestSpread 15 = .ok (.iconst 0, 1) := by decide +kernel
theorem dX6_widestSpread_16 : decode cX6_widestSpread 16 = .ok (.istore 4, 2) := by decide +kernel
theorem dX6_widestSpread_18 : decode cX6_widestSpread 18 = .ok (.iconst 0, 1) := by decide +kernel
theorem dX6_widestSpread_19 : decode cX6_widestSpread 19 = .ok (.istore 5, 2) := by decide +kernel
theorem dX6_widestSpread_21 : decode cX6_widestSpread 21 = .ok (.iload 5, 2) := by decide +kernel
theorem dX6_widestSpread_23 : decode cX6_widestSpread 23 = .ok (.aload_n 0, 1) := by decide +kernel
theorem dX6_widestSpread_24 : decode cX6_widestSpread 24 = .ok (.getfield 9, 3) := by decide +kernel
theorem dX6_widestSpread_27 : decode cX6_widestSpread 27 = .ok (.getfield 122, 3) := by decide +kernel
theorem dX6_widestSpread_30 : decode cX6_widestSpread 30 = .ok (.getfield 131, 3) := by decide +kernel
theorem dX6_widestSpread_33 : decode cX6_widestSpread 33 = .ok (.if_icmp .ge 39, 3) := by decide +kernel
theorem dX6_widestSpread_36 : decode cX6_widestSpread 36 = .ok (.iload_n 3, 1) := by decide +kernel
theorem dX6_widestSpread_37 : decode cX6_widestSpread 37 = .ok (.aload_n 0, 1) := by decide +kernel
theorem dX6_widestSpread_38 : decode cX6_widestSpread 38 = .ok (.getfield 21, 3) := by decide +kernel
theorem dX6_widestSpread_41 : decode cX6_widestSpread 41 = .ok (.iload_n 2, 1) := by decide +kernel
theorem dX6_widestSpread_42 : decode cX6_widestSpread 42 = .ok (.aaload, 1) := by decide +kernel
theorem dX6_widestSpread_43 : decode cX6_widestSpread 43 = .ok (.iload 5, 2) := by decide +kernel
theorem dX6_widestSpread_45 : decode cX6_widestSpread 45 = .ok (.iaload, 1) := by decide +kernel
theorem dX6_widestSpread_46 : decode cX6_widestSpread 46 = .ok (.invokestatic 89, 3) := by decide +kernel
theorem dX6_widestSpread_49 : decode cX6_widestSpread 49 = .ok (.istore_n 3, 1) := by decide +kernel
theorem dX6_widestSpread_50 : decode cX6_widestSpread 50 = .ok (.iload 4, 2) := by decide +kernel
theorem dX6_widestSpread_52 : decode cX6_widestSpread 52 = .ok (.aload_n 0, 1) := by decide +kernel
theorem dX6_widestSpread_53 : decode cX6_widestSpread 53 = .ok (.getfield 21, 3) := by decide +kernel
theorem dX6_widestSpread_56 : decode cX6_widestSpread 56 = .ok (.iload_n 2, 1) := by decide +kernel
theorem dX6_widestSpread_57 : decode cX6_widestSpread 57 = .ok (.aaload, 1) := by decide +kernel
theorem dX6_widestSpread_58 : decode cX6_widestSpread 58 = .ok (.iload 5, 2) := by decide +kernel
theorem dX6_widestSpread_60 : decode cX6_widestSpread 60 = .ok (.iaload, 1) := by decide +kernel
theorem dX6_widestSpread_61 : decode cX6_widestSpread 61 = .ok (.invokestatic 154, 3) := by decide +kernel
theorem dX6_widestSpread_64 : decode cX6_widestSpread 64 = .ok (.istore 4, 2) := by decide +kernel
theorem dX6_widestSpread_66 : decode cX6_widestSpread 66 = .ok (.iinc 5 1, 3) := by decide +kernel
theorem dX6_widestSpread_69 : decode cX6_widestSpread 69 = .ok (.goto (-48), 3) := by decide +kernel
theorem dX6_widestSpread_72 : decode cX6_widestSpread 72 = .ok (.iload_n 1, 1) := by decide +kernel
theorem dX6_widestSpread_73 : decode cX6_widestSpread 73 = .ok (.iload 4, 2) := by decide +kernel
theorem dX6_widestSpread_75 : decode cX6_widestSpread 75 = .ok (.iload_n 3, 1) := by decide +kernel
theorem dX6_widestSpread_76 : decode cX6_widestSpread 76 = .ok (.isub, 1) := by decide +kernel
theorem dX6_widestSpread_77 : decode cX6_widestSpread 77 = .ok (.invokestatic 154, 3) := by decide +kernel
theorem dX6_widestSpread_80 : decode cX6_widestSpread 80 = .ok (.istore_n 1, 1) := by decide +kernel
theorem dX6_widestSpread_81 : decode cX6_widestSpread 81 = .ok (.iinc 2 1, 3) := by decide +kernel
theorem dX6_widestSpread_84 : decode cX6_widestSpread 84 = .ok (.goto (-80), 3) := by decide +kernel
theorem dX6_widestSpread_87 : decode cX6_widestSpread 87 = .ok (.iload_n 1, 1) := by decide +kernel
theorem dX6_widestSpread_88 : decode cX6_widestSpread 88 = .ok (.ireturn, 1) := by decide +kernel
theorem dX6_lawfulAt_0 : decode cX6_lawfulAt 0 = .ok (.iload_n 2, 1) := by decide +kernel
theorem dX6_lawfulAt_1 : decode cX6_lawfulAt 1 = .ok (.bipush 6, 2) := by decide +kernel
theorem dX6_lawfulAt_3 : decode cX6_lawfulAt 3 = .ok (.imul, 1) := by decide +kernel
theorem dX6_lawfulAt_4 : decode cX6_lawfulAt 4 = .ok (.iload_n 1, 1) := by decide +kernel
theorem dX6_lawfulAt_5 : decode cX6_lawfulAt 5 = .ok (.iadd, 1) := by decide +kernel
theorem dX6_lawfulAt_6 : decode cX6_lawfulAt 6 = .ok (.istore_n 3, 1) := by decide +kernel
theorem dX6_lawfulAt_7 : decode cX6_lawfulAt 7 = .ok (.iload_n 3, 1) := by decide +kernel
theorem dX6_lawfulAt_8 : decode cX6_lawfulAt 8 = .ok (.ifCond .lt 21, 3) := by decide +kernel
theorem dX6_lawfulAt_11 : decode cX6_lawfulAt 11 = .ok (.iload_n 3, 1) := by decide +kernel
theorem dX6_lawfulAt_12 : decode cX6_lawfulAt 12 = .ok (.aload_n 0, 1) := by decide +kernel
theorem dX6_lawfulAt_13 : decode cX6_lawfulAt 13 = .ok (.getfield 31, 3) := by decide +kernel
theorem dX6_lawfulAt_16 : decode cX6_lawfulAt 16 = .ok (.arraylength, 1) := by decide +kernel
theorem dX6_lawfulAt_17 : decode cX6_lawfulAt 17 = .ok (.if_icmp .ge 12, 3) := by decide +kernel
theorem dX6_lawfulAt_20 : decode cX6_lawfulAt 20 = .ok (.aload_n 0, 1) := by decide +kernel
theorem dX6_lawfulAt_21 : decode cX6_lawfulAt 21 = .ok (.getfield 31, 3) := by decide +kernel
theorem dX6_lawfulAt_24 : decode cX6_lawfulAt 24 = .ok (.iload_n 3, 1) := by decide +kernel
theorem dX6_lawfulAt_25 : decode cX6_lawfulAt 25 = .ok (.iaload, 1) := by decide +kernel
theorem dX6_lawfulAt_26 : decode cX6_lawfulAt 26 = .ok (.goto 4, 3) := by decide +kernel
theorem dX6_lawfulAt_29 : decode cX6_lawfulAt 29 = .ok (.iconst 0, 1) := by decide +kernel
theorem dX6_lawfulAt_30 : decode cX6_lawfulAt 30 = .ok (.ireturn, 1) := by decide +kernel
theorem dX6_keep_0 : decode cX6_keep 0 = .ok (.iload_n 1, 1) := by decide +kernel
theorem dX6_keep_1 : decode cX6_keep 1 = .ok (.aload_n 0, 1) := by decide +kernel
theorem dX6_keep_2 : decode cX6_keep 2 = .ok (.getfield 108, 3) := by decide +kernel
theorem dX6_keep_5 : decode cX6_keep 5 = .ok (.if_icmp .le 26, 3) := by decide +kernel
theorem dX6_keep_8 : decode cX6_keep 8 = .ok (.aload_n 0, 1) := by decide +kernel
theorem dX6_keep_9 : decode cX6_keep 9 = .ok (.iload_n 1, 1) := by decide +kernel
theorem dX6_keep_10 : decode cX6_keep 10 = .ok (.putfield 108, 3) := by decide +kernel
theorem dX6_keep_13 : decode cX6_keep 13 = .ok (.aload_n 0, 1) := by decide +kernel
theorem dX6_keep_14 : decode cX6_keep 14 = .ok (.getfield 28, 3) := by decide +kernel
theorem dX6_keep_17 : decode cX6_keep 17 = .ok (.iconst 0, 1) := by decide +kernel
theorem dX6_keep_18 : decode cX6_keep 18 = .ok (.aload_n 0, 1) := by decide +kernel
theorem dX6_keep_19 : decode cX6_keep 19 = .ok (.getfield 24, 3) := by decide +kernel
theorem dX6_keep_22 : decode cX6_keep 22 = .ok (.iconst 0, 1) := by decide +kernel
theorem dX6_keep_23 : decode cX6_keep 23 = .ok (.aload_n 0, 1) := by decide +kernel
theorem dX6_keep_24 : decode cX6_keep 24 = .ok (.getfield 28, 3) := by decide +kernel
theorem dX6_keep_27 : decode cX6_keep 27 = .ok (.arraylength, 1) := by decide +kernel
theorem dX6_keep_28 : decode cX6_keep 28 = .ok (.invokestatic 157, 3) := by decide +kernel
theorem dX6_keep_31 : decode cX6_keep 31 = .ok (.return_, 1) := by decide +kernel
