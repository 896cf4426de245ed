theorem dX8_init_0 : decode cX8_init 0 = .ok (.aload_n 0, 1) := by decide +kernel
theorem dX8_init_1 : decode cX8_init 1 = .ok (.invokespecial 1, 3) := by decide +kernel
theorem dX8_init_4 : decode cX8_init 4 = .ok (.aload_n 0, 1) := by decide +kernel
theorem dX8_init_5 : decode cX8_init 5 = .ok (.new 7, 3) := by decide +kernel
theorem dX8_init_8 : decode cX8_init 8 = .ok (.dup, 1) := by decide +kernel
theorem dX8_init_9 : decode cX8_init 9 = .ok (.invokespecial 9, 3) := by decide +kernel
theorem dX8_init_12 : decode cX8_init 12 = .ok (.putfield 10, 3) := by decide +kernel
theorem dX8_init_15 : decode cX8_init 15 = .ok (.aload_n 0, 1) := by decide +kernel
theorem dX8_init_16 : decode cX8_init 16 = .ok (.new 16, 3) := by decide +kernel
theorem dX8_init_19 : decode cX8_init 19 = .ok (.dup, 1) := by decide +kernel
theorem dX8_init_20 : decode cX8_init 20 = .ok (.invokespecial 18, 3) := by decide +kernel
theorem dX8_init_23 : decode cX8_init 23 = .ok (.putfield 19, 3) := by decide +kernel
theorem dX8_init_26 : decode cX8_init 26 = .ok (.aload_n 0, 1) := by decide +kernel
theorem dX8_init_27 : decode cX8_init 27 = .ok (.new 23, 3) := by decide +kernel
theorem dX8_init_30 : decode cX8_init 30 = .ok (.dup, 1) := by decide +kernel
theorem dX8_init_31 : decode cX8_init 31 = .ok (.aload_n 0, 1) := by decide +kernel
theorem dX8_init_32 : decode cX8_init 32 = .ok (.getfield 10, 3) := by decide +kernel
theorem dX8_init_35 : decode cX8_init 35 = .ok (.invokespecial 25, 3) := by decide +kernel
theorem dX8_init_38 : decode cX8_init 38 = .ok (.putfield 28, 3) := by decide +kernel
theorem dX8_init_41 : decode cX8_init 41 = .ok (.aload_n 0, 1) := by decide +kernel
theorem dX8_init_42 : decode cX8_init 42 = .ok (.new 32, 3) := by decide +kernel
theorem dX8_init_45 : decode cX8_init 45 = .ok (.dup, 1) := by decide +kernel
theorem dX8_init_46 : decode cX8_init 46 = .ok (.invokespecial 34, 3) := by decide +kernel
theorem dX8_init_49 : decode cX8_init 49 = .ok (.putfield 35, 3) := by decide +kernel
theorem dX8_init_52 : decode cX8_init 52 = .ok (.aload_n 0, 1) := by decide +kernel
theorem dX8_init_53 : decode cX8_init 53 = .ok (.new 39, 3) := by decide +kernel
theorem dX8_init_56 : decode cX8_init 56 = .ok (.dup, 1) := by decide +kernel
theorem dX8_init_57 : decode cX8_init 57 = .ok (.invokespecial 41, 3) := by decide +kernel
theorem dX8_init_60 : decode cX8_init 60 = .ok (.putfield 42, 3) := by decide +kernel
theorem dX8_init_63 : decode cX8_init 63 = .ok (.aload_n 0, 1) := by decide +kernel
theorem dX8_init_64 : decode cX8_init 64 = .ok (.new 46, 3) := by decide +kernel
theorem dX8_init_67 : decode cX8_init 67 = .ok (.dup, 1) := by decide +kernel
theorem dX8_init_68 : decode cX8_init 68 = .ok (.invokespecial 48, 3) := by decide +kernel
theorem dX8_init_71 : decode cX8_init 71 = .ok (.putfield 49, 3) := by decide +kernel
theorem dX8_init_74 : decode cX8_init 74 = .ok (.aload_n 0, 1) := by decide +kernel
theorem dX8_init_75 : decode cX8_init 75 = .ok (.new 53, 3) := by decide +kernel
theorem dX8_init_78 : decode cX8_init 78 = .ok (.dup, 1) := by decide +kernel
theorem dX8_init_79 : decode cX8_init 79 = .ok (.aload_n 0, 1) := by decide +kernel
theorem dX8_init_80 : decode cX8_init 80 = .ok (.getfield 35, 3) := by decide +kernel
theorem dX8_init_83 : decode cX8_init 83 = .ok (.aload_n 0, 1) := by decide +kernel
theorem dX8_init_84 : decode cX8_init 84 = .ok (.getfield 49, 3) := by decide +kernel
theorem dX8_init_87 : decode cX8_init 87 = .ok (.invokespecial 55, 3) := by decide +kernel
theorem dX8_init_90 : decode cX8_init 90 = .ok (.putfield 58, 3) := by decide +kernel
theorem dX8_init_93 : decode cX8_init 93 = .ok (.aload_n 0, 1) := by decide +kernel
theorem dX8_init_94 : decode cX8_init 94 = .ok (.bipush 100, 2) := by decide +kernel
theorem dX8_init_96 : decode cX8_init 96 = .ok (.newarray .int, 2) := by decide +kernel
theorem dX8_init_98 : decode cX8_init 98 = .ok (.putfield 62, 3) := by decide +kernel
theorem dX8_init_101 : decode cX8_init 101 = .ok (.aload_n 0, 1) := by decide +kernel
theorem dX8_init_102 : decode cX8_init 102 = .ok (.getfield 62, 3) := by decide +kernel
theorem dX8_init_105 : decode cX8_init 105 = .ok (.iconst 1, 1) := by decide +kernel
theorem dX8_init_106 : decode cX8_init 106 = .ok (.invokestatic 66, 3) := by decide +kernel
theorem dX8_init_109 : decode cX8_init 109 = .ok (.aload_n 0, 1) := by decide +kernel
theorem dX8_init_110 : decode cX8_init 110 = .ok (.sipush 201, 3) := by decide +kernel
theorem dX8_init_113 : decode cX8_init 113 = .ok (.newarray .boolean, 2) := by decide +kernel
theorem dX8_init_115 : decode cX8_init 115 = .ok (.putfield 72, 3) := by decide +kernel
theorem dX8_init_118 : decode cX8_init 118 = .ok (.aload_n 0, 1) := by decide +kernel
theorem dX8_init_119 : decode cX8_init 119 = .ok (.bipush 8, 2) := by decide +kernel
theorem dX8_init_121 : decode cX8_init 121 = .ok (.newarray .int, 2) := by decide +kernel
theorem dX8_init_123 : decode cX8_init 123 = .ok (.putfield 76, 3) := by decide +kernel
theorem dX8_init_126 : decode cX8_init 126 = .ok (.aload_n 0, 1) := by decide +kernel
theorem dX8_init_127 : decode cX8_init 127 = .ok (.bipush 9, 2) := by decide +kernel
theorem dX8_init_129 : decode cX8_init 129 = .ok (.putfield 79, 3) := by decide +kernel
theorem dX8_init_132 : decode cX8_init 132 = .ok (.return_, 1) := by decide +kernel
theorem dX8_feed_0 : decode cX8_feed 0 = .ok (.iload_n 1, 1) := by decide +kernel
theorem dX8_feed_1 : decode cX8_feed 1 = .ok (.invokestatic 83, 3) := by decide +kernel
theorem dX8_feed_4 : decode cX8_feed 4 = .ok (.iload_n 2, 1) := by decide +kernel
theorem dX8_feed_5 : decode cX8_feed 5 = .ok (.invokestatic 83, 3) := by decide +kernel
theorem dX8_feed_8 : decode cX8_feed 8 = .ok (.iadd, 1) := by decide +kernel
theorem dX8_feed_9 : decode cX8_feed 9 = .ok (.iload_n 3, 1) := by decide +kernel
theorem dX8_feed_10 : decode cX8_feed 10 = .ok (.invokestatic 83, 3) := by decide +kernel
theorem dX8_feed_13 : decode cX8_feed 13 = .ok (.iadd, 1) := by decide +kernel
theorem dX8_feed_14 : decode cX8_feed 14 = .ok (.iload 4, 2) := by decide +kernel
theorem dX8_feed_16 : decode cX8_feed 16 = .ok (.invokestatic 83, 3) := by decide +kernel
theorem dX8_feed_19 : decode cX8_feed 19 = .ok (.iadd, 1) := by decide +kernel
theorem dX8_feed_20 : decode cX8_feed 20 = .ok (.iload 5, 2) := by decide +kernel
theorem dX8_feed_22 : decode cX8_feed 22 = .ok (.invokestatic 83, 3) := by decide +kernel
theorem dX8_feed_25 : decode cX8_feed 25 = .ok (.iadd, 1) := by decide +kernel
theorem dX8_feed_26 : decode cX8_feed 26 = .ok (.istore 6, 2) := by decide +kernel
theorem dX8_feed_28 : decode cX8_feed 28 = .ok (.aload_n 0, 1) := by decide +kernel
theorem dX8_feed_29 : decode cX8_feed 29 = .ok (.getfield 10, 3) := by decide +kernel
theorem dX8_feed_32 : decode cX8_feed 32 = .ok (.getfield 87, 3) := by decide +kernel
theorem dX8_feed_35 : decode cX8_feed 35 = .ok (.iload 6, 2) := by decide +kernel
theorem dX8_feed_37 : decode cX8_feed 37 = .ok (.iadd, 1) := by decide +kernel
theorem dX8_feed_38 : decode cX8_feed 38 = .ok (.sipush 160, 3) := by decide +kernel
theorem dX8_feed_41 : decode cX8_feed 41 = .ok (.if_icmp .le 5, 3) := by decide +kernel
theorem dX8_feed_44 : decode cX8_feed 44 = .ok (.iconst (-1), 1) := by decide +kernel
theorem dX8_feed_45 : decode cX8_feed 45 = .ok (.ireturn, 1) := by decide +kernel
theorem dX8_feed_46 : decode cX8_feed 46 = .ok (.aload_n 0, 1) := by decide +kernel
theorem dX8_feed_47 : decode cX8_feed 47 = .ok (.getfield 10, 3) := by decide +kernel
theorem dX8_feed_50 : decode cX8_feed 50 = .ok (.iload_n 1, 1) := by decide +kernel
theorem dX8_feed_51 : decode cX8_feed 51 = .ok (.invokevirtual 90, 3) := by decide +kernel
theorem dX8_feed_54 : decode cX8_feed 54 = .ok (.aload_n 0, 1) := by decide +kernel
theorem dX8_feed_55 : decode cX8_feed 55 = .ok (.getfield 10, 3) := by decide +kernel
theorem dX8_feed_58 : decode cX8_feed 58 = .ok (.iload_n 2, 1) := by decide +kernel
theorem dX8_feed_59 : decode cX8_feed 59 = .ok (.invokevirtual 90, 3) := by decide +kernel
theorem dX8_feed_62 : decode cX8_feed 62 = .ok (.aload_n 0, 1) := by decide +kernel
theorem dX8_feed_63 : decode cX8_feed 63 = .ok (.getfield 10, 3) := by decide +kernel
theorem dX8_feed_66 : decode cX8_feed 66 = .ok (.iload_n 3, 1) := by decide +kernel
theorem dX8_feed_67 : decode cX8_feed 67 = .ok (.invokevirtual 90, 3) := by decide +kernel
theorem dX8_feed_70 : decode cX8_feed 70 = .ok (.aload_n 0, 1) := by decide +kernel
theorem dX8_feed_71 : decode cX8_feed 71 = .ok (.getfield 10, 3) := by decide +kernel
theorem dX8_feed_74 : decode cX8_feed 74 = .ok (.iload 4, 2) := by decide +kernel
theorem dX8_feed_76 : decode cX8_feed 76 = .ok (.invokevirtual 90, 3) := by decide +kernel
theorem dX8_feed_79 : decode cX8_feed 79 = .ok (.aload_n 0, 1) := by decide +kernel
theorem dX8_feed_80 : decode cX8_feed 80 = .ok (.getfield 10, 3) := by decide +kernel
theorem dX8_feed_83 : decode cX8_feed 83 = .ok (.iload 5, 2) := by decide +kernel
theorem dX8_feed_85 : decode cX8_feed 85 = .ok (.invokevirtual 90, 3) := by decide +kernel
theorem dX8_feed_88 : decode cX8_feed 88 = .ok (.aload_n 0, 1) := by decide +kernel
theorem dX8_feed_89 : decode cX8_feed 89 = .ok (.getfield 10, 3) := by decide +kernel
theorem dX8_feed_92 : decode cX8_feed 92 = .ok (.getfield 87, 3) := by decide +kernel
theorem dX8_feed_95 : decode cX8_feed 95 = .ok (.ireturn, 1) := by decide +kernel
theorem dX8_end_0 : decode cX8_end 0 = .ok (.iload_n 1, 1) := by decide +kernel
theorem dX8_end_1 : decode cX8_end 1 = .ok (.ifCond .lt 14, 3) := by decide +kernel
theorem dX8_end_4 : decode cX8_end 4 = .ok (.iload_n 1, 1) := by decide +kernel
theorem dX8_end_5 : decode cX8_end 5 = .ok (.aload_n 0, 1) := by decide +kernel
theorem dX8_end_6 : decode cX8_end 6 = .ok (.getfield 10, 3) := by decide +kernel
theorem dX8_end_9 : decode cX8_end 9 = .ok (.getfield 87, 3) := by decide +kernel
theorem dX8_end_12 : decode cX8_end 12 = .ok (.if_icmp .le 5, 3) := by decide +kernel
theorem dX8_end_15 : decode cX8_end 15 = .ok (.iconst 0, 1) := by decide +kernel
theorem dX8_end_16 : decode cX8_end 16 = .ok (.ireturn, 1) := by decide +kernel
theorem dX8_end_17 : decode cX8_end 17 = .ok (.aload_n 0, 1) := by decide +kernel
theorem dX8_end_18 : decode cX8_end 18 = .ok (.getfield 10, 3) := by decide +kernel
theorem dX8_end_21 : decode cX8_end 21 = .ok (.iload_n 1, 1) := by decide +kernel
theorem dX8_end_22 : decode cX8_end 22 = .ok (.putfield 87, 3) := by decide +kernel
theorem dX8_end_25 : decode cX8_end 25 = .ok (.iconst 1, 1) := by decide +kernel
theorem dX8_end_26 : decode cX8_end 26 = .ok (.ireturn, 1) := by decide +kernel
theorem dX8_fault_0 : decode cX8_fault 0 = .ok (.iload_n 1, 1) := by decide +kernel
theorem dX8_fault_1 : decode cX8_fault 1 = .ok (.ifCond .ne 29, 3) := by decide +kernel
theorem dX8_fault_4 : decode cX8_fault 4 = .ok (.aload_n 0, 1) := by decide +kernel
theorem dX8_fault_5 : decode cX8_fault 5 = .ok (.getfield 19, 3) := by decide +kernel
theorem dX8_fault_8 : decode cX8_fault 8 = .ok (.aload_n 0, 1) := by decide +kernel
theorem dX8_fault_9 : decode cX8_fault 9 = .ok (.getfield 10, 3) := by decide +kernel
theorem dX8_fault_12 : decode cX8_fault 12 = .ok (.invokevirtual 94, 3) := by decide +kernel
theorem dX8_fault_15 : decode cX8_fault 15 = .ok (.ifCond .eq 7, 3) := by decide +kernel
theorem dX8_fault_18 : decode cX8_fault 18 = .ok (.iconst (-1), 1) := by decide +kernel
theorem dX8_fault_19 : decode cX8_fault 19 = .ok (.goto 10, 3) := by decide +kernel
theorem dX8_fault_22 : decode cX8_fault 22 = .ok (.aload_n 0, 1) := by decide +kernel
theorem dX8_fault_23 : decode cX8_fault 23 = .ok (.getfield 10, 3) := by decide +kernel
theorem dX8_fault_26 : decode cX8_fault 26 = .ok (.getfield 98, 3) := by decide +kernel
theorem dX8_fault_29 : decode cX8_fault 29 = .ok (.ireturn, 1) := by decide +kernel
theorem dX8_fault_30 : decode cX8_fault 30 = .ok (.iload_n 1, 1) := by decide +kernel
theorem dX8_fault_31 : decode cX8_fault 31 = .ok (.iconst 1, 1) := by decide +kernel
theorem dX8_fault_32 : decode cX8_fault 32 = .ok (.if_icmp .ne 25, 3) := by decide +kernel
theorem dX8_fault_35 : decode cX8_fault 35 = .ok (.aload_n 0, 1) := by decide +kernel
theorem dX8_fault_36 : decode cX8_fault 36 = .ok (.getfield 28, 3) := by decide +kernel
theorem dX8_fault_39 : decode cX8_fault 39 = .ok (.invokevirtual 101, 3) := by decide +kernel
theorem dX8_fault_42 : decode cX8_fault 42 = .ok (.ifCond .eq 7, 3) := by decide +kernel
theorem dX8_fault_45 : decode cX8_fault 45 = .ok (.iconst (-1), 1) := by decide +kernel
theorem dX8_fault_46 : decode cX8_fault 46 = .ok (.goto 10, 3) := by decide +kernel
theorem dX8_fault_49 : decode cX8_fault 49 = .ok (.aload_n 0, 1) := by decide +kernel
theorem dX8_fault_50 : decode cX8_fault 50 = .ok (.getfield 10, 3) := by decide +kernel
theorem dX8_fault_53 : decode cX8_fault 53 = .ok (.getfield 98, 3) := by decide +kernel
theorem dX8_fault_56 : decode cX8_fault 56 = .ok (.ireturn, 1) := by decide +kernel
theorem dX8_fault_57 : decode cX8_fault 57 = .ok (.bipush (-2), 2) := by decide +kernel
theorem dX8_fault_59 : decode cX8_fault 59 = .ok (.ireturn, 1) := by decide +kernel
theorem dX8_text_0 : decode cX8_text 0 = .ok (.iload_n 1, 1) := by decide +kernel
theorem dX8_text_1 : decode cX8_text 1 = .ok (.ifCond .ne 22, 3) := by decide +kernel
theorem dX8_text_4 : decode cX8_text 4 = .ok (.aload_n 0, 1) := by decide +kernel
theorem dX8_text_5 : decode cX8_text 5 = .ok (.getfield 19, 3) := by decide +kernel
theorem dX8_text_8 : decode cX8_text 8 = .ok (.aload_n 0, 1) := by decide +kernel
theorem dX8_text_9 : decode cX8_text 9 = .ok (.getfield 10, 3) := by decide +kernel
theorem dX8_text_12 : decode cX8_text 12 = .ok (.invokevirtual 94, 3) := by decide +kernel
theorem dX8_text_15 : decode cX8_text 15 = .ok (.ifCond .eq 8, 3) := by decide +kernel
theorem dX8_text_18 : decode cX8_text 18 = .ok (.aload_n 0, 1) := by decide +kernel
theorem dX8_text_19 : decode cX8_text 19 = .ok (.invokevirtual 104, 3) := by decide +kernel
theorem dX8_text_22 : decode cX8_text 22 = .ok (.ireturn, 1) := by decide +kernel
theorem dX8_text_23 : decode cX8_text 23 = .ok (.iload_n 1, 1) := by decide +kernel
theorem dX8_text_24 : decode cX8_text 24 = .ok (.iconst 1, 1) := by decide +kernel
theorem dX8_text_25 : decode cX8_text 25 = .ok (.if_icmp .ne 29, 3) := by decide +kernel
theorem dX8_text_28 : decode cX8_text 28 = .ok (.aload_n 0, 1) := by decide +kernel
theorem dX8_text_29 : decode cX8_text 29 = .ok (.getfield 35, 3) := by decide +kernel
theorem dX8_text_32 : decode cX8_text 32 = .ok (.getfield 108, 3) := by decide +kernel
theorem dX8_text_35 : decode cX8_text 35 = .ok (.iconst 4, 1) := by decide +kernel
theorem dX8_text_36 : decode cX8_text 36 = .ok (.if_icmp .ge 18, 3) := by decide +kernel
theorem dX8_text_39 : decode cX8_text 39 = .ok (.aload_n 0, 1) := by decide +kernel
theorem dX8_text_40 : decode cX8_text 40 = .ok (.getfield 28, 3) := by decide +kernel
theorem dX8_text_43 : decode cX8_text 43 = .ok (.invokevirtual 101, 3) := by decide +kernel
theorem dX8_text_46 : decode cX8_text 46 = .ok (.ifCond .eq 8, 3) := by decide +kernel
theorem dX8_text_49 : decode cX8_text 49 = .ok (.aload_n 0, 1) := by decide +kernel
theorem dX8_text_50 : decode cX8_text 50 = .ok (.invokevirtual 111, 3) := by decide +kernel
theorem dX8_text_53 : decode cX8_text 53 = .ok (.ireturn, 1) := by decide +kernel
theorem dX8_text_54 : decode cX8_text 54 = .ok (.iconst (-1), 1) := by decide +kernel
theorem dX8_text_55 : decode cX8_text 55 = .ok (.ireturn, 1) := by decide +kernel
theorem dX8_taboo_0 : decode cX8_taboo 0 = .ok (.aload_n 0, 1) := by decide +kernel
theorem dX8_taboo_1 : decode cX8_taboo 1 = .ok (.getfield 35, 3) := by decide +kernel
theorem dX8_taboo_4 : decode cX8_taboo 4 = .ok (.iload_n 1, 1) := by decide +kernel
theorem dX8_taboo_5 : decode cX8_taboo 5 = .ok (.invokevirtual 114, 3) := by decide +kernel
theorem dX8_taboo_8 : decode cX8_taboo 8 = .ok (.ifCond .eq 10, 3) := by decide +kernel
theorem dX8_taboo_11 : decode cX8_taboo 11 = .ok (.iload_n 2, 1) := by decide +kernel
theorem dX8_taboo_12 : decode cX8_taboo 12 = .ok (.invokestatic 118, 3) := by decide +kernel
theorem dX8_taboo_15 : decode cX8_taboo 15 = .ok (.ifCond .ne 13, 3) := by decide +kernel
theorem dX8_taboo_18 : decode cX8_taboo 18 = .ok (.new 121, 3) := by decide +kernel
theorem dX8_taboo_21 : decode cX8_taboo 21 = .ok (.dup, 1) := by decide +kernel
theorem dX8_taboo_22 : decode cX8_taboo 22 = .ok (.ldc 123, 2) := by decide +kernel
theorem dX8_taboo_24 : decode cX8_taboo 24 = .ok (.invokespecial 125, 3) := by decide +kernel
theorem dX8_taboo_27 : decode cX8_taboo 27 = .ok (.athrow, 1) := by decide +kernel
theorem dX8_taboo_28 : decode cX8_taboo 28 = .ok (.aload_n 0, 1) := by decide +kernel
theorem dX8_taboo_29 : decode cX8_taboo 29 = .ok (.getfield 35, 3) := by decide +kernel
theorem dX8_taboo_32 : decode cX8_taboo 32 = .ok (.iload_n 1, 1) := by decide +kernel
theorem dX8_taboo_33 : decode cX8_taboo 33 = .ok (.iload_n 2, 1) := by decide +kernel
theorem dX8_taboo_34 : decode cX8_taboo 34 = .ok (.invokevirtual 128, 3) := by decide +kernel
theorem dX8_taboo_37 : decode cX8_taboo 37 = .ok (.ireturn, 1) := by decide +kernel
theorem dX8_way_0 : decode cX8_way 0 = .ok (.aload_n 0, 1) := by decide +kernel
theorem dX8_way_1 : decode cX8_way 1 = .ok (.getfield 35, 3) := by decide +kernel
theorem dX8_way_4 : decode cX8_way 4 = .ok (.iload_n 1, 1) := by decide +kernel
theorem dX8_way_5 : decode cX8_way 5 = .ok (.invokevirtual 114, 3) := by decide +kernel
theorem dX8_way_8 : decode cX8_way 8 = .ok (.ifCond .eq 14, 3) := by decide +kernel
theorem dX8_way_11 : decode cX8_way 11 = .ok (.aload_n 0, 1) := by decide +kernel
theorem dX8_way_12 : decode cX8_way 12 = .ok (.getfield 35, 3) := by decide +kernel
theorem dX8_way_15 : decode cX8_way 15 = .ok (.iload_n 2, 1) := by decide +kernel
theorem dX8_way_16 : decode cX8_way 16 = .ok (.invokevirtual 114, 3) := by decide +kernel
theorem dX8_way_19 : decode cX8_way 19 = .ok (.ifCond .ne 5, 3) := by decide +kernel
theorem dX8_way_22 : decode cX8_way 22 = .ok (.iconst (-1), 1) := by decide +kernel
theorem dX8_way_23 : decode cX8_way 23 = .ok (.ireturn, 1) := by decide +kernel
theorem dX8_way_24 : decode cX8_way 24 = .ok (.aload_n 0, 1) := by decide +kernel
theorem dX8_way_25 : decode cX8_way 25 = .ok (.getfield 35, 3) := by decide +kernel
theorem dX8_way_28 : decode cX8_way 28 = .ok (.getfield 132, 3) := by decide +kernel
theorem dX8_way_31 : decode cX8_way 31 = .ok (.getfield 135, 3) := by decide +kernel
theorem dX8_way_34 : decode cX8_way 34 = .ok (.iload_n 1, 1) := by decide +kernel
theorem dX8_way_35 : decode cX8_way 35 = .ok (.aaload, 1) := by decide +kernel
theorem dX8_way_36 : decode cX8_way 36 = .ok (.iload_n 2, 1) := by decide +kernel
theorem dX8_way_37 : decode cX8_way 37 = .ok (.iaload, 1) := by decide +kernel
theorem dX8_way_38 : decode cX8_way 38 = .ok (.istore_n 3, 1) := by decide +kernel
theorem dX8_way_39 : decode cX8_way 39 = .ok (.iload_n 3, 1) := by decide +kernel
theorem dX8_way_40 : decode cX8_way 40 = .ok (.ifCond .le 7, 3) := by decide +kernel
theorem dX8_way_43 : decode cX8_way 43 = .ok (.iload_n 3, 1) := by decide +kernel
theorem dX8_way_44 : decode cX8_way 44 = .ok (.goto 4, 3) := by decide +kernel
theorem dX8_way_47 : decode cX8_way 47 = .ok (.iconst (-1), 1) := by decide +kernel
theorem dX8_way_48 : decode cX8_way 48 = .ok (.ireturn, 1) := by decide +kernel
theorem dX8_custom_0 : decode cX8_custom 0 = .ok (.aload_n 0, 1) := by decide +kernel
theorem dX8_custom_1 : decode cX8_custom 1 = .ok (.getfield 35, 3) := by decide +kernel
theorem dX8_custom_4 : decode cX8_custom 4 = .ok (.iload_n 1, 1) := by decide +kernel
theorem dX8_custom_5 : decode cX8_custom 5 = .ok (.invokevirtual 114, 3) := by decide +kernel
theorem dX8_custom_8 : decode cX8_custom 8 = .ok (.ifCond .eq 19, 3) := by decide +kernel
theorem dX8_custom_11 : decode cX8_custom 11 = .ok (.iload_n 2, 1) := by decide +kernel
theorem dX8_custom_12 : decode cX8_custom 12 = .ok (.iconst (-1), 1) := by decide +kernel
theorem dX8_custom_13 : decode cX8_custom 13 = .ok (.if_icmp .lt 14, 3) := by decide +kernel
theorem dX8_custom_16 : decode cX8_custom 16 = .ok (.iload_n 2, 1) := by decide +kernel
theorem dX8_custom_17 : decode cX8_custom 17 = .ok (.aload_n 0, 1) := by decide +kernel
theorem dX8_custom_18 : decode cX8_custom 18 = .ok (.getfield 35, 3) := by decide +kernel
theorem dX8_custom_21 : decode cX8_custom 21 = .ok (.getfield 108, 3) := by decide +kernel
theorem dX8_custom_24 : decode cX8_custom 24 = .ok (.if_icmp .lt 5, 3) := by decide +kernel
theorem dX8_custom_27 : decode cX8_custom 27 = .ok (.iconst 0, 1) := by decide +kernel
theorem dX8_custom_28 : decode cX8_custom 28 = .ok (.ireturn, 1) := by decide +kernel
theorem dX8_custom_29 : decode cX8_custom 29 = .ok (.aload_n 0, 1) := by decide +kernel
theorem dX8_custom_30 : decode cX8_custom 30 = .ok (.getfield 35, 3) := by decide +kernel
theorem dX8_custom_33 : decode cX8_custom 33 = .ok (.getfield 139, 3) := by decide +kernel
theorem dX8_custom_36 : decode cX8_custom 36 = .ok (.iload_n 1, 1) := by decide +kernel
theorem dX8_custom_37 : decode cX8_custom 37 = .ok (.iload_n 2, 1) := by decide +kernel
theorem dX8_custom_38 : decode cX8_custom 38 = .ok (.iastore, 1) := by decide +kernel
theorem dX8_custom_39 : decode cX8_custom 39 = .ok (.iconst 1, 1) := by decide +kernel
theorem dX8_custom_40 : decode cX8_custom 40 = .ok (.ireturn, 1) := by decide +kernel
theorem dX8_forbidden_0 : decode cX8_forbidden 0 = .ok (.aload_n 0, 1) := by decide +kernel
theorem dX8_forbidden_1 : decode cX8_forbidden 1 = .ok (.getfield 35, 3) := by decide +kernel
theorem dX8_forbidden_4 : decode cX8_forbidden 4 = .ok (.iload_n 1, 1) := by decide +kernel
theorem dX8_forbidden_5 : decode cX8_forbidden 5 = .ok (.invokevirtual 114, 3) := by decide +kernel
theorem dX8_forbidden_8 : decode cX8_forbidden 8 = .ok (.ifCond .eq 17, 3) := by decide +kernel
theorem dX8_forbidden_11 : decode cX8_forbidden 11 = .ok (.iload_n 2, 1) := by decide +kernel
theorem dX8_forbidden_12 : decode cX8_forbidden 12 = .ok (.invokestatic 142, 3) := by decide +kernel
theorem dX8_forbidden_15 : decode cX8_forbidden 15 = .ok (.ifCond .eq 10, 3) := by decide +kernel
theorem dX8_forbidden_18 : decode cX8_forbidden 18 = .ok (.iload_n 3, 1) := by decide +kernel
theorem dX8_forbidden_19 : decode cX8_forbidden 19 = .ok (.invokestatic 118, 3) := by decide +kernel
theorem dX8_forbidden_22 : decode cX8_forbidden 22 = .ok (.ifCond .ne 5, 3) := by decide +kernel
theorem dX8_forbidden_25 : decode cX8_forbidden 25 = .ok (.iconst (-1), 1) := by decide +kernel
theorem dX8_forbidden_26 : decode cX8_forbidden 26 = .ok (.ireturn, 1) := by decide +kernel
theorem dX8_forbidden_27 : decode cX8_forbidden 27 = .ok (.aload_n 0, 1) := by decide +kernel
theorem dX8_forbidden_28 : decode cX8_forbidden 28 = .ok (.getfield 35, 3) := by decide +kernel
theorem dX8_forbidden_31 : decode cX8_forbidden 31 = .ok (.iload_n 1, 1) := by decide +kernel
theorem dX8_forbidden_32 : decode cX8_forbidden 32 = .ok (.iload_n 2, 1) := by decide +kernel
theorem dX8_forbidden_33 : decode cX8_forbidden 33 = .ok (.iload_n 3, 1) := by decide +kernel
theorem dX8_forbidden_34 : decode cX8_forbidden 34 = .ok (.invokevirtual 145, 3) := by decide +kernel
theorem dX8_forbidden_37 : decode cX8_forbidden 37 = .ok (.ifCond .eq 7, 3) := by decide +kernel
theorem dX8_forbidden_40 : decode cX8_forbidden 40 = .ok (.iconst 1, 1) := by decide +kernel
theorem dX8_forbidden_41 : decode cX8_forbidden 41 = .ok (.goto 4, 3) := by decide +kernel
theorem dX8_forbidden_44 : decode cX8_forbidden 44 = .ok (.iconst 0, 1) := by decide +kernel
theorem dX8_forbidden_45 : decode cX8_forbidden 45 = .ok (.ireturn, 1) := by decide +kernel
theorem dX8_hand_0 : decode cX8_hand 0 = .ok (.iload_n 1, 1) := by decide +kernel
theorem dX8_hand_1 : decode cX8_hand 1 = .ok (.iconst 1, 1) := by decide +kernel
theorem dX8_hand_2 : decode cX8_hand 2 = .ok (.if_icmp .lt 9, 3) := by decide +kernel
theorem dX8_hand_5 : decode cX8_hand 5 = .ok (.iload_n 1, 1) := by decide +kernel
theorem dX8_hand_6 : decode cX8_hand 6 = .ok (.bipush 20, 2) := by decide +kernel
theorem dX8_hand_8 : decode cX8_hand 8 = .ok (.if_icmp .le 5, 3) := by decide +kernel
theorem dX8_hand_11 : decode cX8_hand 11 = .ok (.iconst 0, 1) := by decide +kernel
theorem dX8_hand_12 : decode cX8_hand 12 = .ok (.ireturn, 1) := by decide +kernel
theorem dX8_hand_13 : decode cX8_hand 13 = .ok (.aload_n 0, 1) := by decide +kernel
theorem dX8_hand_14 : decode cX8_hand 14 = .ok (.iload_n 1, 1) := by decide +kernel
theorem dX8_hand_15 : decode cX8_hand 15 = .ok (.putfield 79, 3) := by decide +kernel
theorem dX8_hand_18 : decode cX8_hand 18 = .ok (.iconst 1, 1) := by decide +kernel
theorem dX8_hand_19 : decode cX8_hand 19 = .ok (.ireturn, 1) := by decide +kernel
theorem dX8_pay_0 : decode cX8_pay 0 = .ok (.aload_n 0, 1) := by decide +kernel
theorem dX8_pay_1 : decode cX8_pay 1 = .ok (.iload_n 1, 1) := by decide +kernel
theorem dX8_pay_2 : decode cX8_pay 2 = .ok (.iload_n 2, 1) := by decide +kernel
theorem dX8_pay_3 : decode cX8_pay 3 = .ok (.iload_n 3, 1) := by decide +kernel
theorem dX8_pay_4 : decode cX8_pay 4 = .ok (.invokevirtual 149, 3) := by decide +kernel
theorem dX8_pay_7 : decode cX8_pay 7 = .ok (.ifCond .ne 5, 3) := by decide +kernel
theorem dX8_pay_10 : decode cX8_pay 10 = .ok (.iconst (-1), 1) := by decide +kernel
theorem dX8_pay_11 : decode cX8_pay 11 = .ok (.ireturn, 1) := by decide +kernel
theorem dX8_pay_12 : decode cX8_pay 12 = .ok (.aload_n 0, 1) := by decide +kernel
theorem dX8_pay_13 : decode cX8_pay 13 = .ok (.iload_n 1, 1) := by decide +kernel
theorem dX8_pay_14 : decode cX8_pay 14 = .ok (.aload_n 0, 1) := by decide +kernel
theorem dX8_pay_15 : decode cX8_pay 15 = .ok (.getfield 79, 3) := by decide +kernel
theorem dX8_pay_18 : decode cX8_pay 18 = .ok (.iload_n 3, 1) := by decide +kernel
theorem dX8_pay_19 : decode cX8_pay 19 = .ok (.invokevirtual 152, 3) := by decide +kernel
theorem dX8_pay_22 : decode cX8_pay 22 = .ok (.aload_n 0, 1) := by decide +kernel
theorem dX8_pay_23 : decode cX8_pay 23 = .ok (.getfield 49, 3) := by decide +kernel
theorem dX8_pay_26 : decode cX8_pay 26 = .ok (.iload_n 2, 1) := by decide +kernel
theorem dX8_pay_27 : decode cX8_pay 27 = .ok (.iload 4, 2) := by decide +kernel
theorem dX8_pay_29 : decode cX8_pay 29 = .ok (.invokevirtual 156, 3) := by decide +kernel
theorem dX8_pay_32 : decode cX8_pay 32 = .ok (.ireturn, 1) := by decide +kernel
theorem dX8_ways_0 : decode cX8_ways 0 = .ok (.aload_n 0, 1) := by decide +kernel
theorem dX8_ways_1 : decode cX8_ways 1 = .ok (.iload_n 1, 1) := by decide +kernel
theorem dX8_ways_2 : decode cX8_ways 2 = .ok (.iload_n 2, 1) := by decide +kernel
theorem dX8_ways_3 : decode cX8_ways 3 = .ok (.iload_n 3, 1) := by decide +kernel
theorem dX8_ways_4 : decode cX8_ways 4 = .ok (.invokevirtual 149, 3) := by decide +kernel
theorem dX8_ways_7 : decode cX8_ways 7 = .ok (.ifCond .eq 16, 3) := by decide +kernel
theorem dX8_ways_10 : decode cX8_ways 10 = .ok (.iload 4, 2) := by decide +kernel
theorem dX8_ways_12 : decode cX8_ways 12 = .ok (.iconst 1, 1) := by decide +kernel
theorem dX8_ways_13 : decode cX8_ways 13 = .ok (.if_icmp .lt 10, 3) := by decide +kernel
theorem dX8_ways_16 : decode cX8_ways 16 = .ok (.iload 4, 2) := by decide +kernel
theorem dX8_ways_18 : decode cX8_ways 18 = .ok (.bipush 8, 2) := by decide +kernel
theorem dX8_ways_20 : decode cX8_ways 20 = .ok (.if_icmp .le 7, 3) := by decide +kernel
theorem dX8_ways_23 : decode cX8_ways 23 = .ok (.ldc2_w 159, 3) := by decide +kernel
theorem dX8_ways_26 : decode cX8_ways 26 = .ok (.lreturn, 1) := by decide +kernel
theorem dX8_ways_27 : decode cX8_ways 27 = .ok (.aload_n 0, 1) := by decide +kernel
theorem dX8_ways_28 : decode cX8_ways 28 = .ok (.iload_n 1, 1) := by decide +kernel
theorem dX8_ways_29 : decode cX8_ways 29 = .ok (.aload_n 0, 1) := by decide +kernel
theorem dX8_ways_30 : decode cX8_ways 30 = .ok (.getfield 79, 3) := by decide +kernel
theorem dX8_ways_33 : decode cX8_ways 33 = .ok (.iload_n 3, 1) := by decide +kernel
theorem dX8_ways_34 : decode cX8_ways 34 = .ok (.invokevirtual 152, 3) := by decide +kernel
theorem dX8_ways_37 : decode cX8_ways 37 = .ok (.aload_n 0, 1) := by decide +kernel
theorem dX8_ways_38 : decode cX8_ways 38 = .ok (.getfield 49, 3) := by decide +kernel
theorem dX8_ways_41 : decode cX8_ways 41 = .ok (.iload_n 2, 1) := by decide +kernel
theorem dX8_ways_42 : decode cX8_ways 42 = .ok (.iload 4, 2) := by decide +kernel
theorem dX8_ways_44 : decode cX8_ways 44 = .ok (.invokevirtual 161, 3) := by decide +kernel
theorem dX8_ways_47 : decode cX8_ways 47 = .ok (.lreturn, 1) := by decide +kernel
theorem dX8_cant_0 : decode cX8_cant 0 = .ok (.aload_n 0, 1) := by decide +kernel
theorem dX8_cant_1 : decode cX8_cant 1 = .ok (.getfield 35, 3) := by decide +kernel
theorem dX8_cant_4 : decode cX8_cant 4 = .ok (.iload_n 1, 1) := by decide +kernel
theorem dX8_cant_5 : decode cX8_cant 5 = .ok (.invokevirtual 114, 3) := by decide +kernel
theorem dX8_cant_8 : decode cX8_cant 8 = .ok (.ifCond .eq 15, 3) := by decide +kernel
theorem dX8_cant_11 : decode cX8_cant 11 = .ok (.iload_n 2, 1) := by decide +kernel
theorem dX8_cant_12 : decode cX8_cant 12 = .ok (.invokestatic 165, 3) := by decide +kernel
theorem dX8_cant_15 : decode cX8_cant 15 = .ok (.ifCond .eq 8, 3) := by decide +kernel
theorem dX8_cant_18 : decode cX8_cant 18 = .ok (.iload_n 3, 1) := by decide +kernel
theorem dX8_cant_19 : decode cX8_cant 19 = .ok (.iconst (-1), 1) := by decide +kernel
theorem dX8_cant_20 : decode cX8_cant 20 = .ok (.if_icmp .ge 5, 3) := by decide +kernel
theorem dX8_cant_23 : decode cX8_cant 23 = .ok (.iconst (-1), 1) := by decide +kernel
theorem dX8_cant_24 : decode cX8_cant 24 = .ok (.ireturn, 1) := by decide +kernel
theorem dX8_cant_25 : decode cX8_cant 25 = .ok (.aload_n 0, 1) := by decide +kernel
theorem dX8_cant_26 : decode cX8_cant 26 = .ok (.iload_n 1, 1) := by decide +kernel
theorem dX8_cant_27 : decode cX8_cant 27 = .ok (.aload_n 0, 1) := by decide +kernel
theorem dX8_cant_28 : decode cX8_cant 28 = .ok (.getfield 79, 3) := by decide +kernel
theorem dX8_cant_31 : decode cX8_cant 31 = .ok (.iload_n 2, 1) := by decide +kernel
theorem dX8_cant_32 : decode cX8_cant 32 = .ok (.invokevirtual 152, 3) := by decide +kernel
theorem dX8_cant_35 : decode cX8_cant 35 = .ok (.aload_n 0, 1) := by decide +kernel
theorem dX8_cant_36 : decode cX8_cant 36 = .ok (.getfield 49, 3) := by decide +kernel
theorem dX8_cant_39 : decode cX8_cant 39 = .ok (.invokevirtual 168, 3) := by decide +kernel
theorem dX8_cant_42 : decode cX8_cant 42 = .ok (.iload_n 3, 1) := by decide +kernel
theorem dX8_cant_43 : decode cX8_cant 43 = .ok (.iconst (-1), 1) := by decide +kernel
theorem dX8_cant_44 : decode cX8_cant 44 = .ok (.if_icmp .ne 13, 3) := by decide +kernel
theorem dX8_cant_47 : decode cX8_cant 47 = .ok (.aload_n 0, 1) := by decide +kernel
theorem dX8_cant_48 : decode cX8_cant 48 = .ok (.getfield 49, 3) := by decide +kernel
theorem dX8_cant_51 : decode cX8_cant 51 = .ok (.invokevirtual 171, 3) := by decide +kernel
theorem dX8_cant_54 : decode cX8_cant 54 = .ok (.goto 11, 3) := by decide +kernel
theorem dX8_cant_57 : decode cX8_cant 57 = .ok (.aload_n 0, 1) := by decide +kernel
theorem dX8_cant_58 : decode cX8_cant 58 = .ok (.getfield 49, 3) := by decide +kernel
theorem dX8_cant_61 : decode cX8_cant 61 = .ok (.iload_n 3, 1) := by decide +kernel
theorem dX8_cant_62 : decode cX8_cant 62 = .ok (.invokevirtual 174, 3) := by decide +kernel
theorem dX8_cant_65 : decode cX8_cant 65 = .ok (.ireturn, 1) := by decide +kernel
theorem dX8_family_0 : decode cX8_family 0 = .ok (.aload_n 0, 1) := by decide +kernel
theorem dX8_family_1 : decode cX8_family 1 = .ok (.iload_n 1, 1) := by decide +kernel
theorem dX8_family_2 : decode cX8_family 2 = .ok (.iload_n 2, 1) := by decide +kernel
theorem dX8_family_3 : decode cX8_family 3 = .ok (.invokevirtual 177, 3) := by decide +kernel
theorem dX8_family_6 : decode cX8_family 6 = .ok (.ifCond .ne 5, 3) := by decide +kernel
theorem dX8_family_9 : decode cX8_family 9 = .ok (.iconst (-1), 1) := by decide +kernel
theorem dX8_family_10 : decode cX8_family 10 = .ok (.ireturn, 1) := by decide +kernel
theorem dX8_family_11 : decode cX8_family 11 = .ok (.aload_n 0, 1) := by decide +kernel
theorem dX8_family_12 : decode cX8_family 12 = .ok (.iload_n 1, 1) := by decide +kernel
theorem dX8_family_13 : decode cX8_family 13 = .ok (.invokevirtual 181, 3) := by decide +kernel
theorem dX8_family_16 : decode cX8_family 16 = .ok (.aload_n 0, 1) := by decide +kernel
theorem dX8_family_17 : decode cX8_family 17 = .ok (.getfield 49, 3) := by decide +kernel
theorem dX8_family_20 : decode cX8_family 20 = .ok (.iload_n 2, 1) := by decide +kernel
theorem dX8_family_21 : decode cX8_family 21 = .ok (.iload_n 3, 1) := by decide +kernel
theorem dX8_family_22 : decode cX8_family 22 = .ok (.invokevirtual 156, 3) := by decide +kernel
theorem dX8_family_25 : decode cX8_family 25 = .ok (.ireturn, 1) := by decide +kernel
theorem dX8_splits_0 : decode cX8_splits 0 = .ok (.aload_n 0, 1) := by decide +kernel
theorem dX8_splits_1 : decode cX8_splits 1 = .ok (.iload_n 1, 1) := by decide +kernel
theorem dX8_splits_2 : decode cX8_splits 2 = .ok (.iload_n 2, 1) := by decide +kernel
theorem dX8_splits_3 : decode cX8_splits 3 = .ok (.invokevirtual 177, 3) := by decide +kernel
theorem dX8_splits_6 : decode cX8_splits 6 = .ok (.ifCond .ne 5, 3) := by decide +kernel
theorem dX8_splits_9 : decode cX8_splits 9 = .ok (.iconst (-1), 1) := by decide +kernel
theorem dX8_splits_10 : decode cX8_splits 10 = .ok (.ireturn, 1) := by decide +kernel
theorem dX8_splits_11 : decode cX8_splits 11 = .ok (.aload_n 0, 1) := by decide +kernel
theorem dX8_splits_12 : decode cX8_splits 12 = .ok (.iload_n 1, 1) := by decide +kernel
theorem dX8_splits_13 : decode cX8_splits 13 = .ok (.invokevirtual 181, 3) := by decide +kernel
theorem dX8_splits_16 : decode cX8_splits 16 = .ok (.aload_n 0, 1) := by decide +kernel
theorem dX8_splits_17 : decode cX8_splits 17 = .ok (.getfield 49, 3) := by decide +kernel
theorem dX8_splits_20 : decode cX8_splits 20 = .ok (.iload_n 2, 1) := by decide +kernel
theorem dX8_splits_21 : decode cX8_splits 21 = .ok (.invokevirtual 184, 3) := by decide +kernel
theorem dX8_splits_24 : decode cX8_splits 24 = .ok (.ireturn, 1) := by decide +kernel
theorem dX8_date_0 : decode cX8_date 0 = .ok (.aload_n 0, 1) := by decide +kernel
theorem dX8_date_1 : decode cX8_date 1 = .ok (.getfield 35, 3) := by decide +kernel
theorem dX8_date_4 : decode cX8_date 4 = .ok (.iload_n 1, 1) := by decide +kernel
theorem dX8_date_5 : decode cX8_date 5 = .ok (.invokevirtual 114, 3) := by decide +kernel
theorem dX8_date_8 : decode cX8_date 8 = .ok (.ifCond .eq 12, 3) := by decide +kernel
theorem dX8_date_11 : decode cX8_date 11 = .ok (.iload_n 2, 1) := by decide +kernel
theorem dX8_date_12 : decode cX8_date 12 = .ok (.iconst (-1), 1) := by decide +kernel
theorem dX8_date_13 : decode cX8_date 13 = .ok (.if_icmp .lt 7, 3) := by decide +kernel
theorem dX8_date_16 : decode cX8_date 16 = .ok (.iload_n 2, 1) := by decide +kernel
theorem dX8_date_17 : decode cX8_date 17 = .ok (.ifCond .ne 5, 3) := by decide +kernel
theorem dX8_date_20 : decode cX8_date 20 = .ok (.iconst (-1), 1) := by decide +kernel
theorem dX8_date_21 : decode cX8_date 21 = .ok (.ireturn, 1) := by decide +kernel
theorem dX8_date_22 : decode cX8_date 22 = .ok (.iconst 0, 1) := by decide +kernel
theorem dX8_date_23 : decode cX8_date 23 = .ok (.istore_n 3, 1) := by decide +kernel
theorem dX8_date_24 : decode cX8_date 24 = .ok (.iconst 1, 1) := by decide +kernel
theorem dX8_date_25 : decode cX8_date 25 = .ok (.istore 4, 2) := by decide +kernel
theorem dX8_date_27 : decode cX8_date 27 = .ok (.iload 4, 2) := by decide +kernel
theorem dX8_date_29 : decode cX8_date 29 = .ok (.bipush 30, 2) := by decide +kernel
theorem dX8_date_31 : decode cX8_date 31 = .ok (.if_icmp .gt 33, 3) := by decide +kernel
theorem dX8_date_34 : decode cX8_date 34 = .ok (.aload_n 0, 1) := by decide +kernel
theorem dX8_date_35 : decode cX8_date 35 = .ok (.getfield 35, 3) := by decide +kernel
theorem dX8_date_38 : decode cX8_date 38 = .ok (.iload_n 1, 1) := by decide +kernel
theorem dX8_date_39 : decode cX8_date 39 = .ok (.iload 4, 2) := by decide +kernel
theorem dX8_date_41 : decode cX8_date 41 = .ok (.invokevirtual 187, 3) := by decide +kernel
theorem dX8_date_44 : decode cX8_date 44 = .ok (.ifCond .ne 14, 3) := by decide +kernel
theorem dX8_date_47 : decode cX8_date 47 = .ok (.iinc 3 1, 3) := by decide +kernel
theorem dX8_date_50 : decode cX8_date 50 = .ok (.iload_n 3, 1) := by decide +kernel
theorem dX8_date_51 : decode cX8_date 51 = .ok (.iload_n 2, 1) := by decide +kernel
theorem dX8_date_52 : decode cX8_date 52 = .ok (.if_icmp .ne 6, 3) := by decide +kernel
theorem dX8_date_55 : decode cX8_date 55 = .ok (.iload 4, 2) := by decide +kernel
theorem dX8_date_57 : decode cX8_date 57 = .ok (.ireturn, 1) := by decide +kernel
theorem dX8_date_58 : decode cX8_date 58 = .ok (.iinc 4 1, 3) := by decide +kernel
theorem dX8_date_61 : decode cX8_date 61 = .ok (.goto (-34), 3) := by decide +kernel
theorem dX8_date_64 : decode cX8_date 64 = .ok (.iload_n 2, 1) := by decide +kernel
theorem dX8_date_65 : decode cX8_date 65 = .ok (.iconst (-1), 1) := by decide +kernel
theorem dX8_date_66 : decode cX8_date 66 = .ok (.if_icmp .ne 7, 3) := by decide +kernel
theorem dX8_date_69 : decode cX8_date 69 = .ok (.iload_n 3, 1) := by decide +kernel
theorem dX8_date_70 : decode cX8_date 70 = .ok (.goto 4, 3) := by decide +kernel
theorem dX8_date_73 : decode cX8_date 73 = .ok (.iconst (-1), 1) := by decide +kernel
theorem dX8_date_74 : decode cX8_date 74 = .ok (.ireturn, 1) := by decide +kernel
theorem dX8_debt_0 : decode cX8_debt 0 = .ok (.aload_n 0, 1) := by decide +kernel
theorem dX8_debt_1 : decode cX8_debt 1 = .ok (.getfield 35, 3) := by decide +kernel
theorem dX8_debt_4 : decode cX8_debt 4 = .ok (.iload_n 1, 1) := by decide +kernel
theorem dX8_debt_5 : decode cX8_debt 5 = .ok (.invokevirtual 114, 3) := by decide +kernel
theorem dX8_debt_8 : decode cX8_debt 8 = .ok (.ifCond .eq 23, 3) := by decide +kernel
theorem dX8_debt_11 : decode cX8_debt 11 = .ok (.iload_n 2, 1) := by decide +kernel
theorem dX8_debt_12 : decode cX8_debt 12 = .ok (.iconst 1, 1) := by decide +kernel
theorem dX8_debt_13 : decode cX8_debt 13 = .ok (.if_icmp .lt 18, 3) := by decide +kernel
theorem dX8_debt_16 : decode cX8_debt 16 = .ok (.iload_n 2, 1) := by decide +kernel
theorem dX8_debt_17 : decode cX8_debt 17 = .ok (.bipush 30, 2) := by decide +kernel
theorem dX8_debt_19 : decode cX8_debt 19 = .ok (.if_icmp .gt 12, 3) := by decide +kernel
theorem dX8_debt_22 : decode cX8_debt 22 = .ok (.iload_n 3, 1) := by decide +kernel
theorem dX8_debt_23 : decode cX8_debt 23 = .ok (.ifCond .lt 8, 3) := by decide +kernel
theorem dX8_debt_26 : decode cX8_debt 26 = .ok (.iload_n 3, 1) := by decide +kernel
theorem dX8_debt_27 : decode cX8_debt 27 = .ok (.iconst 1, 1) := by decide +kernel
theorem dX8_debt_28 : decode cX8_debt 28 = .ok (.if_icmp .le 5, 3) := by decide +kernel
theorem dX8_debt_31 : decode cX8_debt 31 = .ok (.iconst (-1), 1) := by decide +kernel
theorem dX8_debt_32 : decode cX8_debt 32 = .ok (.ireturn, 1) := by decide +kernel
theorem dX8_debt_33 : decode cX8_debt 33 = .ok (.aload_n 0, 1) := by decide +kernel
theorem dX8_debt_34 : decode cX8_debt 34 = .ok (.getfield 35, 3) := by decide +kernel
theorem dX8_debt_37 : decode cX8_debt 37 = .ok (.iload_n 1, 1) := by decide +kernel
theorem dX8_debt_38 : decode cX8_debt 38 = .ok (.aload_n 0, 1) := by decide +kernel
theorem dX8_debt_39 : decode cX8_debt 39 = .ok (.getfield 35, 3) := by decide +kernel
theorem dX8_debt_42 : decode cX8_debt 42 = .ok (.getfield 190, 3) := by decide +kernel
theorem dX8_debt_45 : decode cX8_debt 45 = .ok (.getfield 193, 3) := by decide +kernel
theorem dX8_debt_48 : decode cX8_debt 48 = .ok (.iload_n 2, 1) := by decide +kernel
theorem dX8_debt_49 : decode cX8_debt 49 = .ok (.invokevirtual 196, 3) := by decide +kernel
theorem dX8_debt_52 : decode cX8_debt 52 = .ok (.istore 4, 2) := by decide +kernel
theorem dX8_debt_54 : decode cX8_debt 54 = .ok (.iload 4, 2) := by decide +kernel
theorem dX8_debt_56 : decode cX8_debt 56 = .ok (.iconst (-1), 1) := by decide +kernel
theorem dX8_debt_57 : decode cX8_debt 57 = .ok (.if_icmp .eq 7, 3) := by decide +kernel
theorem dX8_debt_60 : decode cX8_debt 60 = .ok (.iload_n 3, 1) := by decide +kernel
theorem dX8_debt_61 : decode cX8_debt 61 = .ok (.ifCond .ne 6, 3) := by decide +kernel
theorem dX8_debt_64 : decode cX8_debt 64 = .ok (.iload 4, 2) := by decide +kernel
theorem dX8_debt_66 : decode cX8_debt 66 = .ok (.ireturn, 1) := by decide +kernel
theorem dX8_debt_67 : decode cX8_debt 67 = .ok (.iload 4, 2) := by decide +kernel
theorem dX8_debt_69 : decode cX8_debt 69 = .ok (.iload_n 2, 1) := by decide +kernel
theorem dX8_debt_70 : decode cX8_debt 70 = .ok (.if_icmp .ge 7, 3) := by decide +kernel
theorem dX8_debt_73 : decode cX8_debt 73 = .ok (.iconst 1, 1) := by decide +kernel
theorem dX8_debt_74 : decode cX8_debt 74 = .ok (.goto 4, 3) := by decide +kernel
theorem dX8_debt_77 : decode cX8_debt 77 = .ok (.iconst 0, 1) := by decide +kernel
theorem dX8_debt_78 : decode cX8_debt 78 = .ok (.ireturn, 1) := by decide +kernel
theorem dX8_bit_0 : decode cX8_bit 0 = .ok (.aload_n 0, 1) := by decide +kernel
theorem dX8_bit_1 : decode cX8_bit 1 = .ok (.iload_n 1, 1) := by decide +kernel
theorem dX8_bit_2 : decode cX8_bit 2 = .ok (.iload_n 2, 1) := by decide +kernel
theorem dX8_bit_3 : decode cX8_bit 3 = .ok (.invokevirtual 200, 3) := by decide +kernel
theorem dX8_bit_6 : decode cX8_bit 6 = .ok (.ifCond .eq 8, 3) := by decide +kernel
theorem dX8_bit_9 : decode cX8_bit 9 = .ok (.iload_n 3, 1) := by decide +kernel
theorem dX8_bit_10 : decode cX8_bit 10 = .ok (.iconst (-1), 1) := by decide +kernel
theorem dX8_bit_11 : decode cX8_bit 11 = .ok (.if_icmp .ge 5, 3) := by decide +kernel
theorem dX8_bit_14 : decode cX8_bit 14 = .ok (.iconst (-1), 1) := by decide +kernel
theorem dX8_bit_15 : decode cX8_bit 15 = .ok (.ireturn, 1) := by decide +kernel
theorem dX8_bit_16 : decode cX8_bit 16 = .ok (.aload_n 0, 1) := by decide +kernel
theorem dX8_bit_17 : decode cX8_bit 17 = .ok (.iload_n 1, 1) := by decide +kernel
theorem dX8_bit_18 : decode cX8_bit 18 = .ok (.iload_n 2, 1) := by decide +kernel
theorem dX8_bit_19 : decode cX8_bit 19 = .ok (.invokevirtual 203, 3) := by decide +kernel
theorem dX8_bit_22 : decode cX8_bit 22 = .ok (.istore 4, 2) := by decide +kernel
theorem dX8_bit_24 : decode cX8_bit 24 = .ok (.iload_n 3, 1) := by decide +kernel
theorem dX8_bit_25 : decode cX8_bit 25 = .ok (.iconst (-1), 1) := by decide +kernel
theorem dX8_bit_26 : decode cX8_bit 26 = .ok (.if_icmp .ne 6, 3) := by decide +kernel
theorem dX8_bit_29 : decode cX8_bit 29 = .ok (.iload 4, 2) := by decide +kernel
theorem dX8_bit_31 : decode cX8_bit 31 = .ok (.ireturn, 1) := by decide +kernel
theorem dX8_bit_32 : decode cX8_bit 32 = .ok (.iload_n 3, 1) := by decide +kernel
theorem dX8_bit_33 : decode cX8_bit 33 = .ok (.iload 4, 2) := by decide +kernel
theorem dX8_bit_35 : decode cX8_bit 35 = .ok (.if_icmp .ge 11, 3) := by decide +kernel
theorem dX8_bit_38 : decode cX8_bit 38 = .ok (.iload_n 2, 1) := by decide +kernel
theorem dX8_bit_39 : decode cX8_bit 39 = .ok (.iconst 1, 1) := by decide +kernel
theorem dX8_bit_40 : decode cX8_bit 40 = .ok (.iadd, 1) := by decide +kernel
theorem dX8_bit_41 : decode cX8_bit 41 = .ok (.iload_n 3, 1) := by decide +kernel
theorem dX8_bit_42 : decode cX8_bit 42 = .ok (.iadd, 1) := by decide +kernel
theorem dX8_bit_43 : decode cX8_bit 43 = .ok (.goto 4, 3) := by decide +kernel
theorem dX8_bit_46 : decode cX8_bit 46 = .ok (.iconst (-1), 1) := by decide +kernel
theorem dX8_bit_47 : decode cX8_bit 47 = .ok (.ireturn, 1) := by decide +kernel
theorem dX8_weight_0 : decode cX8_weight 0 = .ok (.iload_n 1, 1) := by decide +kernel
theorem dX8_weight_1 : decode cX8_weight 1 = .ok (.iconst 1, 1) := by decide +kernel
theorem dX8_weight_2 : decode cX8_weight 2 = .ok (.if_icmp .lt 19, 3) := by decide +kernel
theorem dX8_weight_5 : decode cX8_weight 5 = .ok (.iload_n 1, 1) := by decide +kernel
theorem dX8_weight_6 : decode cX8_weight 6 = .ok (.bipush 99, 2) := by decide +kernel
theorem dX8_weight_8 : decode cX8_weight 8 = .ok (.if_icmp .gt 13, 3) := by decide +kernel
theorem dX8_weight_11 : decode cX8_weight 11 = .ok (.iload_n 2, 1) := by decide +kernel
theorem dX8_weight_12 : decode cX8_weight 12 = .ok (.ifCond .lt 9, 3) := by decide +kernel
theorem dX8_weight_15 : decode cX8_weight 15 = .ok (.iload_n 2, 1) := by decide +kernel
theorem dX8_weight_16 : decode cX8_weight 16 = .ok (.bipush 99, 2) := by decide +kernel
theorem dX8_weight_18 : decode cX8_weight 18 = .ok (.if_icmp .le 5, 3) := by decide +kernel
theorem dX8_weight_21 : decode cX8_weight 21 = .ok (.iconst 0, 1) := by decide +kernel
theorem dX8_weight_22 : decode cX8_weight 22 = .ok (.ireturn, 1) := by decide +kernel
theorem dX8_weight_23 : decode cX8_weight 23 = .ok (.aload_n 0, 1) := by decide +kernel
theorem dX8_weight_24 : decode cX8_weight 24 = .ok (.getfield 62, 3) := by decide +kernel
theorem dX8_weight_27 : decode cX8_weight 27 = .ok (.iload_n 1, 1) := by decide +kernel
theorem dX8_weight_28 : decode cX8_weight 28 = .ok (.iload_n 2, 1) := by decide +kernel
theorem dX8_weight_29 : decode cX8_weight 29 = .ok (.iastore, 1) := by decide +kernel
theorem dX8_weight_30 : decode cX8_weight 30 = .ok (.iconst 1, 1) := by decide +kernel
theorem dX8_weight_31 : decode cX8_weight 31 = .ok (.ireturn, 1) := by decide +kernel
theorem dX8_likely_0 : decode cX8_likely 0 = .ok (.aload_n 0, 1) := by decide +kernel
theorem dX8_likely_1 : decode cX8_likely 1 = .ok (.iload_n 1, 1) := by decide +kernel
theorem dX8_likely_2 : decode cX8_likely 2 = .ok (.iload_n 2, 1) := by decide +kernel
theorem dX8_likely_3 : decode cX8_likely 3 = .ok (.invokevirtual 200, 3) := by decide +kernel
theorem dX8_likely_6 : decode cX8_likely 6 = .ok (.ifCond .eq 7, 3) := by decide +kernel
theorem dX8_likely_9 : decode cX8_likely 9 = .ok (.iload_n 3, 1) := by decide +kernel
theorem dX8_likely_10 : decode cX8_likely 10 = .ok (.ifCond .ge 5, 3) := by decide +kernel
theorem dX8_likely_13 : decode cX8_likely 13 = .ok (.iconst (-1), 1) := by decide +kernel
theorem dX8_likely_14 : decode cX8_likely 14 = .ok (.ireturn, 1) := by decide +kernel
theorem dX8_likely_15 : decode cX8_likely 15 = .ok (.aload_n 0, 1) := by decide +kernel
theorem dX8_likely_16 : decode cX8_likely 16 = .ok (.iload_n 1, 1) := by decide +kernel
theorem dX8_likely_17 : decode cX8_likely 17 = .ok (.iload_n 2, 1) := by decide +kernel
theorem dX8_likely_18 : decode cX8_likely 18 = .ok (.invokevirtual 203, 3) := by decide +kernel
theorem dX8_likely_21 : decode cX8_likely 21 = .ok (.istore 4, 2) := by decide +kernel
theorem dX8_likely_23 : decode cX8_likely 23 = .ok (.iconst 0, 1) := by decide +kernel
theorem dX8_likely_24 : decode cX8_likely 24 = .ok (.istore 5, 2) := by decide +kernel
theorem dX8_likely_26 : decode cX8_likely 26 = .ok (.iconst 1, 1) := by decide +kernel
theorem dX8_likely_27 : decode cX8_likely 27 = .ok (.istore 6, 2) := by decide +kernel
theorem dX8_likely_29 : decode cX8_likely 29 = .ok (.iload 6, 2) := by decide +kernel
theorem dX8_likely_31 : decode cX8_likely 31 = .ok (.iload 4, 2) := by decide +kernel
theorem dX8_likely_33 : decode cX8_likely 33 = .ok (.if_icmp .gt 22, 3) := by decide +kernel
theorem dX8_likely_36 : decode cX8_likely 36 = .ok (.iload 5, 2) := by decide +kernel
theorem dX8_likely_38 : decode cX8_likely 38 = .ok (.aload_n 0, 1) := by decide +kernel
theorem dX8_likely_39 : decode cX8_likely 39 = .ok (.iload_n 2, 1) := by decide +kernel
theorem dX8_likely_40 : decode cX8_likely 40 = .ok (.iload 6, 2) := by decide +kernel
theorem dX8_likely_42 : decode cX8_likely 42 = .ok (.iadd, 1) := by decide +kernel
theorem dX8_likely_43 : decode cX8_likely 43 = .ok (.invokevirtual 206, 3) := by decide +kernel
theorem dX8_likely_46 : decode cX8_likely 46 = .ok (.iadd, 1) := by decide +kernel
theorem dX8_likely_47 : decode cX8_likely 47 = .ok (.istore 5, 2) := by decide +kernel
theorem dX8_likely_49 : decode cX8_likely 49 = .ok (.iinc 6 1, 3) := by decide +kernel
theorem dX8_likely_52 : decode cX8_likely 52 = .ok (.goto (-23), 3) := by decide +kernel
theorem dX8_likely_55 : decode cX8_likely 55 = .ok (.iload_n 3, 1) := by decide +kernel
theorem dX8_likely_56 : decode cX8_likely 56 = .ok (.iload 4, 2) := by decide +kernel
theorem dX8_likely_58 : decode cX8_likely 58 = .ok (.if_icmp .ge 8, 3) := by decide +kernel
theorem dX8_likely_61 : decode cX8_likely 61 = .ok (.iload 5, 2) := by decide +kernel
theorem dX8_likely_63 : decode cX8_likely 63 = .ok (.ifCond .ne 5, 3) := by decide +kernel
theorem dX8_likely_66 : decode cX8_likely 66 = .ok (.iconst (-1), 1) := by decide +kernel
theorem dX8_likely_67 : decode cX8_likely 67 = .ok (.ireturn, 1) := by decide +kernel
theorem dX8_likely_68 : decode cX8_likely 68 = .ok (.aload_n 0, 1) := by decide +kernel
theorem dX8_likely_69 : decode cX8_likely 69 = .ok (.iload_n 2, 1) := by decide +kernel
theorem dX8_likely_70 : decode cX8_likely 70 = .ok (.iconst 1, 1) := by decide +kernel
theorem dX8_likely_71 : decode cX8_likely 71 = .ok (.iadd, 1) := by decide +kernel
theorem dX8_likely_72 : decode cX8_likely 72 = .ok (.iload_n 3, 1) := by decide +kernel
theorem dX8_likely_73 : decode cX8_likely 73 = .ok (.iadd, 1) := by decide +kernel
theorem dX8_likely_74 : decode cX8_likely 74 = .ok (.invokevirtual 206, 3) := by decide +kernel
theorem dX8_likely_77 : decode cX8_likely 77 = .ok (.ldc 209, 2) := by decide +kernel
theorem dX8_likely_79 : decode cX8_likely 79 = .ok (.imul, 1) := by decide +kernel
theorem dX8_likely_80 : decode cX8_likely 80 = .ok (.iload 5, 2) := by decide +kernel
theorem dX8_likely_82 : decode cX8_likely 82 = .ok (.idiv, 1) := by decide +kernel
theorem dX8_likely_83 : decode cX8_likely 83 = .ok (.ireturn, 1) := by decide +kernel
theorem dX8_good_0 : decode cX8_good 0 = .ok (.aload_n 0, 1) := by decide +kernel
theorem dX8_good_1 : decode cX8_good 1 = .ok (.getfield 35, 3) := by decide +kernel
theorem dX8_good_4 : decode cX8_good 4 = .ok (.getfield 132, 3) := by decide +kernel
theorem dX8_good_7 : decode cX8_good 7 = .ok (.getfield 210, 3) := by decide +kernel
theorem dX8_good_10 : decode cX8_good 10 = .ok (.ifCond .ne 5, 3) := by decide +kernel
theorem dX8_good_13 : decode cX8_good 13 = .ok (.iconst (-1), 1) := by decide +kernel
theorem dX8_good_14 : decode cX8_good 14 = .ok (.ireturn, 1) := by decide +kernel
theorem dX8_good_15 : decode cX8_good 15 = .ok (.aload_n 0, 1) := by decide +kernel
theorem dX8_good_16 : decode cX8_good 16 = .ok (.getfield 58, 3) := by decide +kernel
theorem dX8_good_19 : decode cX8_good 19 = .ok (.invokevirtual 213, 3) := by decide +kernel
theorem dX8_good_22 : decode cX8_good 22 = .ok (.ireturn, 1) := by decide +kernel
theorem dX8_price_0 : decode cX8_price 0 = .ok (.aload_n 0, 1) := by decide +kernel
theorem dX8_price_1 : decode cX8_price 1 = .ok (.getfield 58, 3) := by decide +kernel
theorem dX8_price_4 : decode cX8_price 4 = .ok (.iload_n 1, 1) := by decide +kernel
theorem dX8_price_5 : decode cX8_price 5 = .ok (.invokevirtual 216, 3) := by decide +kernel
theorem dX8_price_8 : decode cX8_price 8 = .ok (.ifCond .eq 25, 3) := by decide +kernel
theorem dX8_price_11 : decode cX8_price 11 = .ok (.aload_n 0, 1) := by decide +kernel
theorem dX8_price_12 : decode cX8_price 12 = .ok (.getfield 35, 3) := by decide +kernel
theorem dX8_price_15 : decode cX8_price 15 = .ok (.iload_n 2, 1) := by decide +kernel
theorem dX8_price_16 : decode cX8_price 16 = .ok (.invokevirtual 114, 3) := by decide +kernel
theorem dX8_price_19 : decode cX8_price 19 = .ok (.ifCond .eq 14, 3) := by decide +kernel
theorem dX8_price_22 : decode cX8_price 22 = .ok (.iload_n 3, 1) := by decide +kernel
theorem dX8_price_23 : decode cX8_price 23 = .ok (.iconst 1, 1) := by decide +kernel
theorem dX8_price_24 : decode cX8_price 24 = .ok (.if_icmp .lt 9, 3) := by decide +kernel
theorem dX8_price_27 : decode cX8_price 27 = .ok (.iload_n 3, 1) := by decide +kernel
theorem dX8_price_28 : decode cX8_price 28 = .ok (.bipush 99, 2) := by decide +kernel
theorem dX8_price_30 : decode cX8_price 30 = .ok (.if_icmp .le 5, 3) := by decide +kernel
theorem dX8_price_33 : decode cX8_price 33 = .ok (.iconst 0, 1) := by decide +kernel
theorem dX8_price_34 : decode cX8_price 34 = .ok (.ireturn, 1) := by decide +kernel
theorem dX8_price_35 : decode cX8_price 35 = .ok (.aload_n 0, 1) := by decide +kernel
theorem dX8_price_36 : decode cX8_price 36 = .ok (.getfield 58, 3) := by decide +kernel
theorem dX8_price_39 : decode cX8_price 39 = .ok (.getfield 219, 3) := by decide +kernel
theorem dX8_price_42 : decode cX8_price 42 = .ok (.iload_n 1, 1) := by decide +kernel
theorem dX8_price_43 : decode cX8_price 43 = .ok (.aaload, 1) := by decide +kernel
theorem dX8_price_44 : decode cX8_price 44 = .ok (.iload_n 2, 1) := by decide +kernel
theorem dX8_price_45 : decode cX8_price 45 = .ok (.iload_n 3, 1) := by decide +kernel
theorem dX8_price_46 : decode cX8_price 46 = .ok (.iastore, 1) := by decide +kernel
theorem dX8_price_47 : decode cX8_price 47 = .ok (.iconst 1, 1) := by decide +kernel
theorem dX8_price_48 : decode cX8_price 48 = .ok (.ireturn, 1) := by decide +kernel
theorem dX8_deal_0 : decode cX8_deal 0 = .ok (.aload_n 0, 1) := by decide +kernel
theorem dX8_deal_1 : decode cX8_deal 1 = .ok (.getfield 58, 3) := by decide +kernel
theorem dX8_deal_4 : decode cX8_deal 4 = .ok (.iload_n 1, 1) := by decide +kernel
theorem dX8_deal_5 : decode cX8_deal 5 = .ok (.invokevirtual 216, 3) := by decide +kernel
theorem dX8_deal_8 : decode cX8_deal 8 = .ok (.ifCond .eq 33, 3) := by decide +kernel
theorem dX8_deal_11 : decode cX8_deal 11 = .ok (.aload_n 0, 1) := by decide +kernel
theorem dX8_deal_12 : decode cX8_deal 12 = .ok (.getfield 35, 3) := by decide +kernel
theorem dX8_deal_15 : decode cX8_deal 15 = .ok (.iload_n 2, 1) := by decide +kernel
theorem dX8_deal_16 : decode cX8_deal 16 = .ok (.invokevirtual 114, 3) := by decide +kernel
theorem dX8_deal_19 : decode cX8_deal 19 = .ok (.ifCond .eq 22, 3) := by decide +kernel
theorem dX8_deal_22 : decode cX8_deal 22 = .ok (.iload_n 3, 1) := by decide +kernel
theorem dX8_deal_23 : decode cX8_deal 23 = .ok (.iconst 1, 1) := by decide +kernel
theorem dX8_deal_24 : decode cX8_deal 24 = .ok (.if_icmp .lt 17, 3) := by decide +kernel
theorem dX8_deal_27 : decode cX8_deal 27 = .ok (.iload_n 3, 1) := by decide +kernel
theorem dX8_deal_28 : decode cX8_deal 28 = .ok (.bipush 6, 2) := by decide +kernel
theorem dX8_deal_30 : decode cX8_deal 30 = .ok (.if_icmp .gt 11, 3) := by decide +kernel
theorem dX8_deal_33 : decode cX8_deal 33 = .ok (.iload 4, 2) := by decide +kernel
theorem dX8_deal_35 : decode cX8_deal 35 = .ok (.invokestatic 118, 3) := by decide +kernel
theorem dX8_deal_38 : decode cX8_deal 38 = .ok (.ifCond .ne 5, 3) := by decide +kernel
theorem dX8_deal_41 : decode cX8_deal 41 = .ok (.iconst (-1), 1) := by decide +kernel
theorem dX8_deal_42 : decode cX8_deal 42 = .ok (.ireturn, 1) := by decide +kernel
theorem dX8_deal_43 : decode cX8_deal 43 = .ok (.aload_n 0, 1) := by decide +kernel
theorem dX8_deal_44 : decode cX8_deal 44 = .ok (.getfield 58, 3) := by decide +kernel
theorem dX8_deal_47 : decode cX8_deal 47 = .ok (.iload_n 2, 1) := by decide +kernel
theorem dX8_deal_48 : decode cX8_deal 48 = .ok (.iload 4, 2) := by decide +kernel
theorem dX8_deal_50 : decode cX8_deal 50 = .ok (.aload_n 0, 1) := by decide +kernel
theorem dX8_deal_51 : decode cX8_deal 51 = .ok (.getfield 79, 3) := by decide +kernel
theorem dX8_deal_54 : decode cX8_deal 54 = .ok (.invokevirtual 222, 3) := by decide +kernel
theorem dX8_deal_57 : decode cX8_deal 57 = .ok (.istore 5, 2) := by decide +kernel
theorem dX8_deal_59 : decode cX8_deal 59 = .ok (.iload 5, 2) := by decide +kernel
theorem dX8_deal_61 : decode cX8_deal 61 = .ok (.iload_n 1, 1) := by decide +kernel
theorem dX8_deal_62 : decode cX8_deal 62 = .ok (.iload_n 3, 1) := by decide +kernel
theorem dX8_deal_63 : decode cX8_deal 63 = .ok (.invokestatic 225, 3) := by decide +kernel
theorem dX8_deal_66 : decode cX8_deal 66 = .ok (.ifCond .eq 7, 3) := by decide +kernel
theorem dX8_deal_69 : decode cX8_deal 69 = .ok (.iconst 1, 1) := by decide +kernel
theorem dX8_deal_70 : decode cX8_deal 70 = .ok (.goto 4, 3) := by decide +kernel
theorem dX8_deal_73 : decode cX8_deal 73 = .ok (.iconst 0, 1) := by decide +kernel
theorem dX8_deal_74 : decode cX8_deal 74 = .ok (.ireturn, 1) := by decide +kernel
theorem dX8_gain_0 : decode cX8_gain 0 = .ok (.aload_n 0, 1) := by decide +kernel
theorem dX8_gain_1 : decode cX8_gain 1 = .ok (.getfield 35, 3) := by decide +kernel
theorem dX8_gain_4 : decode cX8_gain 4 = .ok (.iload_n 1, 1) := by decide +kernel
theorem dX8_gain_5 : decode cX8_gain 5 = .ok (.invokevirtual 114, 3) := by decide +kernel
theorem dX8_gain_8 : decode cX8_gain 8 = .ok (.ifCond .eq 25, 3) := by decide +kernel
theorem dX8_gain_11 : decode cX8_gain 11 = .ok (.iload_n 2, 1) := by decide +kernel
theorem dX8_gain_12 : decode cX8_gain 12 = .ok (.ifCond .lt 21, 3) := by decide +kernel
theorem dX8_gain_15 : decode cX8_gain 15 = .ok (.iload_n 2, 1) := by decide +kernel
theorem dX8_gain_16 : decode cX8_gain 16 = .ok (.sipush 999, 3) := by decide +kernel
theorem dX8_gain_19 : decode cX8_gain 19 = .ok (.if_icmp .gt 14, 3) := by decide +kernel
theorem dX8_gain_22 : decode cX8_gain 22 = .ok (.iload_n 3, 1) := by decide +kernel
theorem dX8_gain_23 : decode cX8_gain 23 = .ok (.iconst 1, 1) := by decide +kernel
theorem dX8_gain_24 : decode cX8_gain 24 = .ok (.if_icmp .lt 9, 3) := by decide +kernel
theorem dX8_gain_27 : decode cX8_gain 27 = .ok (.iload_n 3, 1) := by decide +kernel
theorem dX8_gain_28 : decode cX8_gain 28 = .ok (.bipush 6, 2) := by decide +kernel
theorem dX8_gain_30 : decode cX8_gain 30 = .ok (.if_icmp .le 6, 3) := by decide +kernel
theorem dX8_gain_33 : decode cX8_gain 33 = .ok (.ldc 228, 2) := by decide +kernel
theorem dX8_gain_35 : decode cX8_gain 35 = .ok (.ireturn, 1) := by decide +kernel
theorem dX8_gain_36 : decode cX8_gain 36 = .ok (.iload 4, 2) := by decide +kernel
theorem dX8_gain_38 : decode cX8_gain 38 = .ok (.ifCond .lt 24, 3) := by decide +kernel
theorem dX8_gain_41 : decode cX8_gain 41 = .ok (.iload 4, 2) := by decide +kernel
theorem dX8_gain_43 : decode cX8_gain 43 = .ok (.iconst 3, 1) := by decide +kernel
theorem dX8_gain_44 : decode cX8_gain 44 = .ok (.if_icmp .gt 18, 3) := by decide +kernel
theorem dX8_gain_47 : decode cX8_gain 47 = .ok (.iload 5, 2) := by decide +kernel
theorem dX8_gain_49 : decode cX8_gain 49 = .ok (.iconst (-1), 1) := by decide +kernel
theorem dX8_gain_50 : decode cX8_gain 50 = .ok (.if_icmp .lt 12, 3) := by decide +kernel
theorem dX8_gain_53 : decode cX8_gain 53 = .ok (.iload 5, 2) := by decide +kernel
theorem dX8_gain_55 : decode cX8_gain 55 = .ok (.iconst 3, 1) := by decide +kernel
theorem dX8_gain_56 : decode cX8_gain 56 = .ok (.iload 4, 2) := by decide +kernel
theorem dX8_gain_58 : decode cX8_gain 58 = .ok (.imul, 1) := by decide +kernel
theorem dX8_gain_59 : decode cX8_gain 59 = .ok (.if_icmp .lt 6, 3) := by decide +kernel
theorem dX8_gain_62 : decode cX8_gain 62 = .ok (.ldc 228, 2) := by decide +kernel
theorem dX8_gain_64 : decode cX8_gain 64 = .ok (.ireturn, 1) := by decide +kernel
theorem dX8_gain_65 : decode cX8_gain 65 = .ok (.aload_n 0, 1) := by decide +kernel
theorem dX8_gain_66 : decode cX8_gain 66 = .ok (.getfield 58, 3) := by decide +kernel
theorem dX8_gain_69 : decode cX8_gain 69 = .ok (.iload_n 1, 1) := by decide +kernel
theorem dX8_gain_70 : decode cX8_gain 70 = .ok (.iload 4, 2) := by decide +kernel
theorem dX8_gain_72 : decode cX8_gain 72 = .ok (.aload_n 0, 1) := by decide +kernel
theorem dX8_gain_73 : decode cX8_gain 73 = .ok (.getfield 79, 3) := by decide +kernel
theorem dX8_gain_76 : decode cX8_gain 76 = .ok (.invokevirtual 229, 3) := by decide +kernel
theorem dX8_gain_79 : decode cX8_gain 79 = .ok (.aload_n 0, 1) := by decide +kernel
theorem dX8_gain_80 : decode cX8_gain 80 = .ok (.getfield 58, 3) := by decide +kernel
theorem dX8_gain_83 : decode cX8_gain 83 = .ok (.iload_n 1, 1) := by decide +kernel
theorem dX8_gain_84 : decode cX8_gain 84 = .ok (.iload_n 2, 1) := by decide +kernel
theorem dX8_gain_85 : decode cX8_gain 85 = .ok (.iload_n 3, 1) := by decide +kernel
theorem dX8_gain_86 : decode cX8_gain 86 = .ok (.iload 4, 2) := by decide +kernel
theorem dX8_gain_88 : decode cX8_gain 88 = .ok (.invokevirtual 232, 3) := by decide +kernel
theorem dX8_gain_91 : decode cX8_gain 91 = .ok (.istore 6, 2) := by decide +kernel
theorem dX8_gain_93 : decode cX8_gain 93 = .ok (.iload 6, 2) := by decide +kernel
theorem dX8_gain_95 : decode cX8_gain 95 = .ok (.iconst (-1), 1) := by decide +kernel
theorem dX8_gain_96 : decode cX8_gain 96 = .ok (.if_icmp .ne 6, 3) := by decide +kernel
theorem dX8_gain_99 : decode cX8_gain 99 = .ok (.ldc 228, 2) := by decide +kernel
theorem dX8_gain_101 : decode cX8_gain 101 = .ok (.ireturn, 1) := by decide +kernel
theorem dX8_gain_102 : decode cX8_gain 102 = .ok (.iload 5, 2) := by decide +kernel
theorem dX8_gain_104 : decode cX8_gain 104 = .ok (.iconst (-1), 1) := by decide +kernel
theorem dX8_gain_105 : decode cX8_gain 105 = .ok (.if_icmp .ne 10, 3) := by decide +kernel
theorem dX8_gain_108 : decode cX8_gain 108 = .ok (.iload 6, 2) := by decide +kernel
theorem dX8_gain_110 : decode cX8_gain 110 = .ok (.iload_n 2, 1) := by decide +kernel
theorem dX8_gain_111 : decode cX8_gain 111 = .ok (.isub, 1) := by decide +kernel
theorem dX8_gain_112 : decode cX8_gain 112 = .ok (.goto 13, 3) := by decide +kernel
theorem dX8_gain_115 : decode cX8_gain 115 = .ok (.aload_n 0, 1) := by decide +kernel
theorem dX8_gain_116 : decode cX8_gain 116 = .ok (.getfield 58, 3) := by decide +kernel
theorem dX8_gain_119 : decode cX8_gain 119 = .ok (.getfield 236, 3) := by decide +kernel
theorem dX8_gain_122 : decode cX8_gain 122 = .ok (.iload 5, 2) := by decide +kernel
theorem dX8_gain_124 : decode cX8_gain 124 = .ok (.iaload, 1) := by decide +kernel
theorem dX8_gain_125 : decode cX8_gain 125 = .ok (.ireturn, 1) := by decide +kernel
theorem dX8_today_0 : decode cX8_today 0 = .ok (.iload_n 1, 1) := by decide +kernel
theorem dX8_today_1 : decode cX8_today 1 = .ok (.invokestatic 118, 3) := by decide +kernel
theorem dX8_today_4 : decode cX8_today 4 = .ok (.ifCond .ne 5, 3) := by decide +kernel
theorem dX8_today_7 : decode cX8_today 7 = .ok (.iconst 0, 1) := by decide +kernel
theorem dX8_today_8 : decode cX8_today 8 = .ok (.ireturn, 1) := by decide +kernel
theorem dX8_today_9 : decode cX8_today 9 = .ok (.aload_n 0, 1) := by decide +kernel
theorem dX8_today_10 : decode cX8_today 10 = .ok (.getfield 35, 3) := by decide +kernel
theorem dX8_today_13 : decode cX8_today 13 = .ok (.getfield 190, 3) := by decide +kernel
theorem dX8_today_16 : decode cX8_today 16 = .ok (.iload_n 1, 1) := by decide +kernel
theorem dX8_today_17 : decode cX8_today 17 = .ok (.putfield 193, 3) := by decide +kernel
theorem dX8_today_20 : decode cX8_today 20 = .ok (.iconst 1, 1) := by decide +kernel
theorem dX8_today_21 : decode cX8_today 21 = .ok (.ireturn, 1) := by decide +kernel
theorem dX8_change_0 : decode cX8_change 0 = .ok (.aload_n 0, 1) := by decide +kernel
theorem dX8_change_1 : decode cX8_change 1 = .ok (.getfield 35, 3) := by decide +kernel
theorem dX8_change_4 : decode cX8_change 4 = .ok (.iload_n 1, 1) := by decide +kernel
theorem dX8_change_5 : decode cX8_change 5 = .ok (.invokevirtual 114, 3) := by decide +kernel
theorem dX8_change_8 : decode cX8_change 8 = .ok (.ifCond .eq 20, 3) := by decide +kernel
theorem dX8_change_11 : decode cX8_change 11 = .ok (.iload_n 2, 1) := by decide +kernel
theorem dX8_change_12 : decode cX8_change 12 = .ok (.invokestatic 118, 3) := by decide +kernel
theorem dX8_change_15 : decode cX8_change 15 = .ok (.ifCond .eq 13, 3) := by decide +kernel
theorem dX8_change_18 : decode cX8_change 18 = .ok (.iload_n 3, 1) := by decide +kernel
theorem dX8_change_19 : decode cX8_change 19 = .ok (.ifCond .lt 9, 3) := by decide +kernel
theorem dX8_change_22 : decode cX8_change 22 = .ok (.iload_n 3, 1) := by decide +kernel
theorem dX8_change_23 : decode cX8_change 23 = .ok (.bipush 99, 2) := by decide +kernel
theorem dX8_change_25 : decode cX8_change 25 = .ok (.if_icmp .le 5, 3) := by decide +kernel
theorem dX8_change_28 : decode cX8_change 28 = .ok (.iconst (-1), 1) := by decide +kernel
theorem dX8_change_29 : decode cX8_change 29 = .ok (.ireturn, 1) := by decide +kernel
theorem dX8_change_30 : decode cX8_change 30 = .ok (.aload_n 0, 1) := by decide +kernel
theorem dX8_change_31 : decode cX8_change 31 = .ok (.getfield 35, 3) := by decide +kernel
theorem dX8_change_34 : decode cX8_change 34 = .ok (.getfield 190, 3) := by decide +kernel
theorem dX8_change_37 : decode cX8_change 37 = .ok (.iload_n 1, 1) := by decide +kernel
theorem dX8_change_38 : decode cX8_change 38 = .ok (.iload_n 2, 1) := by decide +kernel
theorem dX8_change_39 : decode cX8_change 39 = .ok (.iload_n 3, 1) := by decide +kernel
theorem dX8_change_40 : decode cX8_change 40 = .ok (.invokevirtual 239, 3) := by decide +kernel
theorem dX8_change_43 : decode cX8_change 43 = .ok (.ifCond .eq 16, 3) := by decide +kernel
theorem dX8_change_46 : decode cX8_change 46 = .ok (.aload_n 0, 1) := by decide +kernel
theorem dX8_change_47 : decode cX8_change 47 = .ok (.getfield 35, 3) := by decide +kernel
theorem dX8_change_50 : decode cX8_change 50 = .ok (.getfield 190, 3) := by decide +kernel
theorem dX8_change_53 : decode cX8_change 53 = .ok (.getfield 242, 3) := by decide +kernel
theorem dX8_change_56 : decode cX8_change 56 = .ok (.goto 4, 3) := by decide +kernel
theorem dX8_change_59 : decode cX8_change 59 = .ok (.iconst (-1), 1) := by decide +kernel
theorem dX8_change_60 : decode cX8_change 60 = .ok (.ireturn, 1) := by decide +kernel
theorem dX8_drown_0 : decode cX8_drown 0 = .ok (.aload_n 0, 1) := by decide +kernel
theorem dX8_drown_1 : decode cX8_drown 1 = .ok (.getfield 35, 3) := by decide +kernel
theorem dX8_drown_4 : decode cX8_drown 4 = .ok (.getfield 132, 3) := by decide +kernel
theorem dX8_drown_7 : decode cX8_drown 7 = .ok (.getfield 210, 3) := by decide +kernel
theorem dX8_drown_10 : decode cX8_drown 10 = .ok (.ifCond .eq 24, 3) := by decide +kernel
theorem dX8_drown_13 : decode cX8_drown 13 = .ok (.iload_n 1, 1) := by decide +kernel
theorem dX8_drown_14 : decode cX8_drown 14 = .ok (.iconst 1, 1) := by decide +kernel
theorem dX8_drown_15 : decode cX8_drown 15 = .ok (.if_icmp .lt 19, 3) := by decide +kernel
theorem dX8_drown_18 : decode cX8_drown 18 = .ok (.iload_n 1, 1) := by decide +kernel
theorem dX8_drown_19 : decode cX8_drown 19 = .ok (.bipush 99, 2) := by decide +kernel
theorem dX8_drown_21 : decode cX8_drown 21 = .ok (.if_icmp .gt 13, 3) := by decide +kernel
theorem dX8_drown_24 : decode cX8_drown 24 = .ok (.iload_n 2, 1) := by decide +kernel
theorem dX8_drown_25 : decode cX8_drown 25 = .ok (.ifCond .lt 9, 3) := by decide +kernel
theorem dX8_drown_28 : decode cX8_drown 28 = .ok (.iload_n 2, 1) := by decide +kernel
theorem dX8_drown_29 : decode cX8_drown 29 = .ok (.bipush 100, 2) := by decide +kernel
theorem dX8_drown_31 : decode cX8_drown 31 = .ok (.if_icmp .le 5, 3) := by decide +kernel
theorem dX8_drown_34 : decode cX8_drown 34 = .ok (.iconst (-1), 1) := by decide +kernel
theorem dX8_drown_35 : decode cX8_drown 35 = .ok (.ireturn, 1) := by decide +kernel
theorem dX8_drown_36 : decode cX8_drown 36 = .ok (.aload_n 0, 1) := by decide +kernel
theorem dX8_drown_37 : decode cX8_drown 37 = .ok (.getfield 35, 3) := by decide +kernel
theorem dX8_drown_40 : decode cX8_drown 40 = .ok (.getfield 190, 3) := by decide +kernel
theorem dX8_drown_43 : decode cX8_drown 43 = .ok (.getfield 242, 3) := by decide +kernel
theorem dX8_drown_46 : decode cX8_drown 46 = .ok (.istore 5, 2) := by decide +kernel
theorem dX8_drown_48 : decode cX8_drown 48 = .ok (.aload_n 0, 1) := by decide +kernel
theorem dX8_drown_49 : decode cX8_drown 49 = .ok (.getfield 35, 3) := by decide +kernel
theorem dX8_drown_52 : decode cX8_drown 52 = .ok (.getfield 190, 3) := by decide +kernel
theorem dX8_drown_55 : decode cX8_drown 55 = .ok (.aload_n 0, 1) := by decide +kernel
theorem dX8_drown_56 : decode cX8_drown 56 = .ok (.getfield 35, 3) := by decide +kernel
theorem dX8_drown_59 : decode cX8_drown 59 = .ok (.getfield 132, 3) := by decide +kernel
theorem dX8_drown_62 : decode cX8_drown 62 = .ok (.getfield 210, 3) := by decide +kernel
theorem dX8_drown_65 : decode cX8_drown 65 = .ok (.iload_n 1, 1) := by decide +kernel
theorem dX8_drown_66 : decode cX8_drown 66 = .ok (.iload_n 2, 1) := by decide +kernel
theorem dX8_drown_67 : decode cX8_drown 67 = .ok (.lload_n 3, 1) := by decide +kernel
theorem dX8_drown_68 : decode cX8_drown 68 = .ok (.invokevirtual 245, 3) := by decide +kernel
theorem dX8_drown_71 : decode cX8_drown 71 = .ok (.aload_n 0, 1) := by decide +kernel
theorem dX8_drown_72 : decode cX8_drown 72 = .ok (.getfield 35, 3) := by decide +kernel
theorem dX8_drown_75 : decode cX8_drown 75 = .ok (.getfield 190, 3) := by decide +kernel
theorem dX8_drown_78 : decode cX8_drown 78 = .ok (.getfield 242, 3) := by decide +kernel
theorem dX8_drown_81 : decode cX8_drown 81 = .ok (.iload 5, 2) := by decide +kernel
theorem dX8_drown_83 : decode cX8_drown 83 = .ok (.isub, 1) := by decide +kernel
theorem dX8_drown_84 : decode cX8_drown 84 = .ok (.ireturn, 1) := by decide +kernel
theorem dX8_say_0 : decode cX8_say 0 = .ok (.aload_n 0, 1) := by decide +kernel
theorem dX8_say_1 : decode cX8_say 1 = .ok (.getfield 35, 3) := by decide +kernel
theorem dX8_say_4 : decode cX8_say 4 = .ok (.iload_n 1, 1) := by decide +kernel
theorem dX8_say_5 : decode cX8_say 5 = .ok (.invokevirtual 114, 3) := by decide +kernel
theorem dX8_say_8 : decode cX8_say 8 = .ok (.ifCond .eq 10, 3) := by decide +kernel
theorem dX8_say_11 : decode cX8_say 11 = .ok (.iload_n 2, 1) := by decide +kernel
theorem dX8_say_12 : decode cX8_say 12 = .ok (.invokestatic 142, 3) := by decide +kernel
theorem dX8_say_15 : decode cX8_say 15 = .ok (.ifCond .ne 5, 3) := by decide +kernel
theorem dX8_say_18 : decode cX8_say 18 = .ok (.iconst (-1), 1) := by decide +kernel
theorem dX8_say_19 : decode cX8_say 19 = .ok (.ireturn, 1) := by decide +kernel
theorem dX8_say_20 : decode cX8_say 20 = .ok (.aload_n 0, 1) := by decide +kernel
theorem dX8_say_21 : decode cX8_say 21 = .ok (.getfield 35, 3) := by decide +kernel
theorem dX8_say_24 : decode cX8_say 24 = .ok (.getfield 190, 3) := by decide +kernel
theorem dX8_say_27 : decode cX8_say 27 = .ok (.iload_n 1, 1) := by decide +kernel
theorem dX8_say_28 : decode cX8_say 28 = .ok (.iload_n 2, 1) := by decide +kernel
theorem dX8_say_29 : decode cX8_say 29 = .ok (.invokevirtual 249, 3) := by decide +kernel
theorem dX8_say_32 : decode cX8_say 32 = .ok (.ifCond .eq 16, 3) := by decide +kernel
theorem dX8_say_35 : decode cX8_say 35 = .ok (.aload_n 0, 1) := by decide +kernel
theorem dX8_say_36 : decode cX8_say 36 = .ok (.getfield 35, 3) := by decide +kernel
theorem dX8_say_39 : decode cX8_say 39 = .ok (.getfield 190, 3) := by decide +kernel
theorem dX8_say_42 : decode cX8_say 42 = .ok (.getfield 252, 3) := by decide +kernel
theorem dX8_say_45 : decode cX8_say 45 = .ok (.goto 4, 3) := by decide +kernel
theorem dX8_say_48 : decode cX8_say 48 = .ok (.iconst (-1), 1) := by decide +kernel
theorem dX8_say_49 : decode cX8_say 49 = .ok (.ireturn, 1) := by decide +kernel
theorem dX8_breach_0 : decode cX8_breach 0 = .ok (.aload_n 0, 1) := by decide +kernel
theorem dX8_breach_1 : decode cX8_breach 1 = .ok (.getfield 35, 3) := by decide +kernel
theorem dX8_breach_4 : decode cX8_breach 4 = .ok (.getfield 132, 3) := by decide +kernel
theorem dX8_breach_7 : decode cX8_breach 7 = .ok (.getfield 210, 3) := by decide +kernel
theorem dX8_breach_10 : decode cX8_breach 10 = .ok (.ifCond .eq 8, 3) := by decide +kernel
theorem dX8_breach_13 : decode cX8_breach 13 = .ok (.iload_n 1, 1) := by decide +kernel
theorem dX8_breach_14 : decode cX8_breach 14 = .ok (.iconst (-1), 1) := by decide +kernel
theorem dX8_breach_15 : decode cX8_breach 15 = .ok (.if_icmp .ge 5, 3) := by decide +kernel
theorem dX8_breach_18 : decode cX8_breach 18 = .ok (.iconst (-1), 1) := by decide +kernel
theorem dX8_breach_19 : decode cX8_breach 19 = .ok (.ireturn, 1) := by decide +kernel
theorem dX8_breach_20 : decode cX8_breach 20 = .ok (.iconst 0, 1) := by decide +kernel
theorem dX8_breach_21 : decode cX8_breach 21 = .ok (.istore_n 2, 1) := by decide +kernel
theorem dX8_breach_22 : decode cX8_breach 22 = .ok (.iconst 0, 1) := by decide +kernel
theorem dX8_breach_23 : decode cX8_breach 23 = .ok (.istore_n 3, 1) := by decide +kernel
theorem dX8_breach_24 : decode cX8_breach 24 = .ok (.iload_n 3, 1) := by decide +kernel
theorem dX8_breach_25 : decode cX8_breach 25 = .ok (.aload_n 0, 1) := by decide +kernel
theorem dX8_breach_26 : decode cX8_breach 26 = .ok (.getfield 35, 3) := by decide +kernel
theorem dX8_breach_29 : decode cX8_breach 29 = .ok (.getfield 190, 3) := by decide +kernel
theorem dX8_breach_32 : decode cX8_breach 32 = .ok (.getfield 252, 3) := by decide +kernel
theorem dX8_breach_35 : decode cX8_breach 35 = .ok (.if_icmp .ge 30, 3) := by decide +kernel
theorem dX8_breach_38 : decode cX8_breach 38 = .ok (.aload_n 0, 1) := by decide +kernel
theorem dX8_breach_39 : decode cX8_breach 39 = .ok (.getfield 35, 3) := by decide +kernel
theorem dX8_breach_42 : decode cX8_breach 42 = .ok (.iload_n 3, 1) := by decide +kernel
theorem dX8_breach_43 : decode cX8_breach 43 = .ok (.invokevirtual 255, 3) := by decide +kernel
theorem dX8_breach_46 : decode cX8_breach 46 = .ok (.ifCond .eq 13, 3) := by decide +kernel
theorem dX8_breach_49 : decode cX8_breach 49 = .ok (.iload_n 2, 1) := by decide +kernel
theorem dX8_breach_50 : decode cX8_breach 50 = .ok (.iload_n 1, 1) := by decide +kernel
theorem dX8_breach_51 : decode cX8_breach 51 = .ok (.if_icmp .ne 5, 3) := by decide +kernel
theorem dX8_breach_54 : decode cX8_breach 54 = .ok (.iload_n 3, 1) := by decide +kernel
theorem dX8_breach_55 : decode cX8_breach 55 = .ok (.ireturn, 1) := by decide +kernel
theorem dX8_breach_56 : decode cX8_breach 56 = .ok (.iinc 2 1, 3) := by decide +kernel
theorem dX8_breach_59 : decode cX8_breach 59 = .ok (.iinc 3 1, 3) := by decide +kernel
theorem dX8_breach_62 : decode cX8_breach 62 = .ok (.goto (-38), 3) := by decide +kernel
theorem dX8_breach_65 : decode cX8_breach 65 = .ok (.iload_n 1, 1) := by decide +kernel
theorem dX8_breach_66 : decode cX8_breach 66 = .ok (.iconst (-1), 1) := by decide +kernel
theorem dX8_breach_67 : decode cX8_breach 67 = .ok (.if_icmp .ne 7, 3) := by decide +kernel
theorem dX8_breach_70 : decode cX8_breach 70 = .ok (.iload_n 2, 1) := by decide +kernel
theorem dX8_breach_71 : decode cX8_breach 71 = .ok (.goto 4, 3) := by decide +kernel
theorem dX8_breach_74 : decode cX8_breach 74 = .ok (.iconst (-1), 1) := by decide +kernel
theorem dX8_breach_75 : decode cX8_breach 75 = .ok (.ireturn, 1) := by decide +kernel
theorem dX8_fines_0 : decode cX8_fines 0 = .ok (.aload_n 0, 1) := by decide +kernel
theorem dX8_fines_1 : decode cX8_fines 1 = .ok (.getfield 35, 3) := by decide +kernel
theorem dX8_fines_4 : decode cX8_fines 4 = .ok (.iload_n 1, 1) := by decide +kernel
theorem dX8_fines_5 : decode cX8_fines 5 = .ok (.invokevirtual 114, 3) := by decide +kernel
theorem dX8_fines_8 : decode cX8_fines 8 = .ok (.ifCond .ne 5, 3) := by decide +kernel
theorem dX8_fines_11 : decode cX8_fines 11 = .ok (.iconst (-1), 1) := by decide +kernel
theorem dX8_fines_12 : decode cX8_fines 12 = .ok (.ireturn, 1) := by decide +kernel
theorem dX8_fines_13 : decode cX8_fines 13 = .ok (.aload_n 0, 1) := by decide +kernel
theorem dX8_fines_14 : decode cX8_fines 14 = .ok (.getfield 35, 3) := by decide +kernel
theorem dX8_fines_17 : decode cX8_fines 17 = .ok (.iload_n 1, 1) := by decide +kernel
theorem dX8_fines_18 : decode cX8_fines 18 = .ok (.invokevirtual 258, 3) := by decide +kernel
theorem dX8_fines_21 : decode cX8_fines 21 = .ok (.ireturn, 1) := by decide +kernel
theorem dX8_safe_0 : decode cX8_safe 0 = .ok (.aload_n 0, 1) := by decide +kernel
theorem dX8_safe_1 : decode cX8_safe 1 = .ok (.getfield 35, 3) := by decide +kernel
theorem dX8_safe_4 : decode cX8_safe 4 = .ok (.iload_n 1, 1) := by decide +kernel
theorem dX8_safe_5 : decode cX8_safe 5 = .ok (.invokevirtual 114, 3) := by decide +kernel
theorem dX8_safe_8 : decode cX8_safe 8 = .ok (.ifCond .eq 13, 3) := by decide +kernel
theorem dX8_safe_11 : decode cX8_safe 11 = .ok (.iload_n 2, 1) := by decide +kernel
theorem dX8_safe_12 : decode cX8_safe 12 = .ok (.ifCond .lt 9, 3) := by decide +kernel
theorem dX8_safe_15 : decode cX8_safe 15 = .ok (.iload_n 2, 1) := by decide +kernel
theorem dX8_safe_16 : decode cX8_safe 16 = .ok (.bipush 99, 2) := by decide +kernel
theorem dX8_safe_18 : decode cX8_safe 18 = .ok (.if_icmp .le 5, 3) := by decide +kernel
theorem dX8_safe_21 : decode cX8_safe 21 = .ok (.iconst (-1), 1) := by decide +kernel
theorem dX8_safe_22 : decode cX8_safe 22 = .ok (.ireturn, 1) := by decide +kernel
theorem dX8_safe_23 : decode cX8_safe 23 = .ok (.bipush 99, 2) := by decide +kernel
theorem dX8_safe_25 : decode cX8_safe 25 = .ok (.aload_n 0, 1) := by decide +kernel
theorem dX8_safe_26 : decode cX8_safe 26 = .ok (.getfield 35, 3) := by decide +kernel
