theorem dX4_init_0 : decode cX4_init 0 = .ok (.aload_n 0, 1) := by decide +kernel
theorem dX4_init_1 : decode cX4_init 1 = .ok (.invokespecial 3, 3) := by decide +kernel
theorem dX4_init_4 : decode cX4_init 4 = .ok (.aload_n 0, 1) := by decide +kernel
theorem dX4_init_5 : decode cX4_init 5 = .ok (.sipush 201, 3) := by decide +kernel
theorem dX4_init_8 : decode cX4_init 8 = .ok (.newarray .boolean, 2) := by decide +kernel
theorem dX4_init_10 : decode cX4_init 10 = .ok (.putfield 9, 3) := by decide +kernel
theorem dX4_init_13 : decode cX4_init 13 = .ok (.aload_n 0, 1) := by decide +kernel
theorem dX4_init_14 : decode cX4_init 14 = .ok (.sipush 201, 3) := by decide +kernel
theorem dX4_init_17 : decode cX4_init 17 = .ok (.newarray .long, 2) := by decide +kernel
theorem dX4_init_19 : decode cX4_init 19 = .ok (.putfield 15, 3) := by decide +kernel
theorem dX4_init_22 : decode cX4_init 22 = .ok (.aload_n 0, 1) := by decide +kernel
theorem dX4_init_23 : decode cX4_init 23 = .ok (.sipush 201, 3) := by decide +kernel
theorem dX4_init_26 : decode cX4_init 26 = .ok (.newarray .long, 2) := by decide +kernel
theorem dX4_init_28 : decode cX4_init 28 = .ok (.putfield 19, 3) := by decide +kernel
theorem dX4_init_31 : decode cX4_init 31 = .ok (.aload_n 0, 1) := by decide +kernel
theorem dX4_init_32 : decode cX4_init 32 = .ok (.bipush 31, 2) := by decide +kernel
theorem dX4_init_34 : decode cX4_init 34 = .ok (.bipush 31, 2) := by decide +kernel
theorem dX4_init_36 : decode cX4_init 36 = .ok (.multianewarray 22 2, 4) := by decide +kernel
theorem dX4_init_40 : decode cX4_init 40 = .ok (.putfield 24, 3) := by decide +kernel
theorem dX4_init_43 : decode cX4_init 43 = .ok (.return_, 1) := by decide +kernel
theorem dX4_open_0 : decode cX4_open 0 = .ok (.aload_n 0, 1) := by decide +kernel
theorem dX4_open_1 : decode cX4_open 1 = .ok (.iload_n 1, 1) := by decide +kernel
theorem dX4_open_2 : decode cX4_open 2 = .ok (.putfield 27, 3) := by decide +kernel
theorem dX4_open_5 : decode cX4_open 5 = .ok (.aload_n 0, 1) := by decide +kernel
theorem dX4_open_6 : decode cX4_open 6 = .ok (.iload_n 2, 1) := by decide +kernel
theorem dX4_open_7 : decode cX4_open 7 = .ok (.putfield 31, 3) := by decide +kernel
theorem dX4_open_10 : decode cX4_open 10 = .ok (.return_, 1) := by decide +kernel
theorem dX4_countForward_0 : decode cX4_countForward 0 = .ok (.aload_n 0, 1) := by decide +kernel
theorem dX4_countForward_1 : decode cX4_countForward 1 = .ok (.getfield 15, 3) := by decide +kernel
theorem dX4_countForward_4 : decode cX4_countForward 4 = .ok (.iconst 0, 1) := by decide +kernel
theorem dX4_countForward_5 : decode cX4_countForward 5 = .ok (.lconst 1, 1) := by decide +kernel
theorem dX4_countForward_6 : decode cX4_countForward 6 = .ok (.lastore, 1) := by decide +kernel
theorem dX4_countForward_7 : decode cX4_countForward 7 = .ok (.iconst 1, 1) := by decide +kernel
theorem dX4_countForward_8 : decode cX4_countForward 8 = .ok (.istore_n 1, 1) := by decide +kernel
theorem dX4_countForward_9 : decode cX4_countForward 9 = .ok (.iload_n 1, 1) := by decide +kernel
theorem dX4_countForward_10 : decode cX4_countForward 10 = .ok (.sipush 200, 3) := by decide +kernel
theorem dX4_countForward_13 : decode cX4_countForward 13 = .ok (.if_icmp .gt 81, 3) := by decide +kernel
theorem dX4_countForward_16 : decode cX4_countForward 16 = .ok (.lconst 0, 1) := by decide +kernel
theorem dX4_countForward_17 : decode cX4_countForward 17 = .ok (.lstore_n 2, 1) := by decide +kernel
theorem dX4_countForward_18 : decode cX4_countForward 18 = .ok (.iconst 1, 1) := by decide +kernel
theorem dX4_countForward_19 : decode cX4_countForward 19 = .ok (.istore 4, 2) := by decide +kernel
theorem dX4_countForward_21 : decode cX4_countForward 21 = .ok (.iload 4, 2) := by decide +kernel
theorem dX4_countForward_23 : decode cX4_countForward 23 = .ok (.aload_n 0, 1) := by decide +kernel
theorem dX4_countForward_24 : decode cX4_countForward 24 = .ok (.getfield 27, 3) := by decide +kernel
theorem dX4_countForward_27 : decode cX4_countForward 27 = .ok (.if_icmp .gt 36, 3) := by decide +kernel
theorem dX4_countForward_30 : decode cX4_countForward 30 = .ok (.iload 4, 2) := by decide +kernel
theorem dX4_countForward_32 : decode cX4_countForward 32 = .ok (.iload_n 1, 1) := by decide +kernel
theorem dX4_countForward_33 : decode cX4_countForward 33 = .ok (.if_icmp .gt 30, 3) := by decide +kernel
theorem dX4_countForward_36 : decode cX4_countForward 36 = .ok (.aload_n 0, 1) := by decide +kernel
theorem dX4_countForward_37 : decode cX4_countForward 37 = .ok (.iload 4, 2) := by decide +kernel
theorem dX4_countForward_39 : decode cX4_countForward 39 = .ok (.invokevirtual 34, 3) := by decide +kernel
theorem dX4_countForward_42 : decode cX4_countForward 42 = .ok (.ifCond .eq 15, 3) := by decide +kernel
theorem dX4_countForward_45 : decode cX4_countForward 45 = .ok (.lload_n 2, 1) := by decide +kernel
theorem dX4_countForward_46 : decode cX4_countForward 46 = .ok (.aload_n 0, 1) := by decide +kernel
theorem dX4_countForward_47 : decode cX4_countForward 47 = .ok (.getfield 15, 3) := by decide +kernel
theorem dX4_countForward_50 : decode cX4_countForward 50 = .ok (.iload_n 1, 1) := by decide +kernel
theorem dX4_countForward_51 : decode cX4_countForward 51 = .ok (.iload 4, 2) := by decide +kernel
theorem dX4_countForward_53 : decode cX4_countForward 53 = .ok (.isub, 1) := by decide +kernel
theorem dX4_countForward_54 : decode cX4_countForward 54 = .ok (.laload, 1) := by decide +kernel
theorem dX4_countForward_55 : decode cX4_countForward 55 = .ok (.lor, 1) := by decide +kernel
theorem dX4_countForward_56 : decode cX4_countForward 56 = .ok (.lstore_n 2, 1) := by decide +kernel
theorem dX4_countForward_57 : decode cX4_countForward 57 = .ok (.iinc 4 1, 3) := by decide +kernel
theorem dX4_countForward_60 : decode cX4_countForward 60 = .ok (.goto (-39), 3) := by decide +kernel
theorem dX4_countForward_63 : decode cX4_countForward 63 = .ok (.aload_n 0, 1) := by decide +kernel
theorem dX4_countForward_64 : decode cX4_countForward 64 = .ok (.getfield 15, 3) := by decide +kernel
theorem dX4_countForward_67 : decode cX4_countForward 67 = .ok (.iload_n 1, 1) := by decide +kernel
theorem dX4_countForward_68 : decode cX4_countForward 68 = .ok (.aload_n 0, 1) := by decide +kernel
theorem dX4_countForward_69 : decode cX4_countForward 69 = .ok (.iload_n 1, 1) := by decide +kernel
theorem dX4_countForward_70 : decode cX4_countForward 70 = .ok (.invokevirtual 38, 3) := by decide +kernel
theorem dX4_countForward_73 : decode cX4_countForward 73 = .ok (.ifCond .eq 13, 3) := by decide +kernel
theorem dX4_countForward_76 : decode cX4_countForward 76 = .ok (.lload_n 2, 1) := by decide +kernel
theorem dX4_countForward_77 : decode cX4_countForward 77 = .ok (.iconst 1, 1) := by decide +kernel
theorem dX4_countForward_78 : decode cX4_countForward 78 = .ok (.lshl, 1) := by decide +kernel
theorem dX4_countForward_79 : decode cX4_countForward 79 = .ok (.ldc2_w 41, 3) := by decide +kernel
theorem dX4_countForward_82 : decode cX4_countForward 82 = .ok (.land, 1) := by decide +kernel
theorem dX4_countForward_83 : decode cX4_countForward 83 = .ok (.goto 4, 3) := by decide +kernel
theorem dX4_countForward_86 : decode cX4_countForward 86 = .ok (.lconst 0, 1) := by decide +kernel
theorem dX4_countForward_87 : decode cX4_countForward 87 = .ok (.lastore, 1) := by decide +kernel
theorem dX4_countForward_88 : decode cX4_countForward 88 = .ok (.iinc 1 1, 3) := by decide +kernel
theorem dX4_countForward_91 : decode cX4_countForward 91 = .ok (.goto (-82), 3) := by decide +kernel
theorem dX4_countForward_94 : decode cX4_countForward 94 = .ok (.return_, 1) := by decide +kernel
theorem dX4_unpaid_0 : decode cX4_unpaid 0 = .ok (.iconst 0, 1) := by decide +kernel
theorem dX4_unpaid_1 : decode cX4_unpaid 1 = .ok (.istore_n 1, 1) := by decide +kernel
theorem dX4_unpaid_2 : decode cX4_unpaid 2 = .ok (.iconst 1, 1) := by decide +kernel
theorem dX4_unpaid_3 : decode cX4_unpaid 3 = .ok (.istore_n 2, 1) := by decide +kernel
theorem dX4_unpaid_4 : decode cX4_unpaid 4 = .ok (.iload_n 2, 1) := by decide +kernel
theorem dX4_unpaid_5 : decode cX4_unpaid 5 = .ok (.sipush 200, 3) := by decide +kernel
theorem dX4_unpaid_8 : decode cX4_unpaid 8 = .ok (.if_icmp .gt 20, 3) := by decide +kernel
theorem dX4_unpaid_11 : decode cX4_unpaid 11 = .ok (.aload_n 0, 1) := by decide +kernel
theorem dX4_unpaid_12 : decode cX4_unpaid 12 = .ok (.iload_n 2, 1) := by decide +kernel
theorem dX4_unpaid_13 : decode cX4_unpaid 13 = .ok (.invokevirtual 43, 3) := by decide +kernel
theorem dX4_unpaid_16 : decode cX4_unpaid 16 = .ok (.ifCond .ne 6, 3) := by decide +kernel
theorem dX4_unpaid_19 : decode cX4_unpaid 19 = .ok (.iinc 1 1, 3) := by decide +kernel
theorem dX4_unpaid_22 : decode cX4_unpaid 22 = .ok (.iinc 2 1, 3) := by decide +kernel
theorem dX4_unpaid_25 : decode cX4_unpaid 25 = .ok (.goto (-21), 3) := by decide +kernel
theorem dX4_unpaid_28 : decode cX4_unpaid 28 = .ok (.iload_n 1, 1) := by decide +kernel
theorem dX4_unpaid_29 : decode cX4_unpaid 29 = .ok (.ireturn, 1) := by decide +kernel
theorem dX4_unpaidAt_0 : decode cX4_unpaidAt 0 = .ok (.iconst 0, 1) := by decide +kernel
theorem dX4_unpaidAt_1 : decode cX4_unpaidAt 1 = .ok (.istore_n 2, 1) := by decide +kernel
theorem dX4_unpaidAt_2 : decode cX4_unpaidAt 2 = .ok (.iconst 1, 1) := by decide +kernel
theorem dX4_unpaidAt_3 : decode cX4_unpaidAt 3 = .ok (.istore_n 3, 1) := by decide +kernel
theorem dX4_unpaidAt_4 : decode cX4_unpaidAt 4 = .ok (.iload_n 3, 1) := by decide +kernel
theorem dX4_unpaidAt_5 : decode cX4_unpaidAt 5 = .ok (.sipush 200, 3) := by decide +kernel
theorem dX4_unpaidAt_8 : decode cX4_unpaidAt 8 = .ok (.if_icmp .gt 27, 3) := by decide +kernel
theorem dX4_unpaidAt_11 : decode cX4_unpaidAt 11 = .ok (.aload_n 0, 1) := by decide +kernel
theorem dX4_unpaidAt_12 : decode cX4_unpaidAt 12 = .ok (.iload_n 3, 1) := by decide +kernel
theorem dX4_unpaidAt_13 : decode cX4_unpaidAt 13 = .ok (.invokevirtual 43, 3) := by decide +kernel
theorem dX4_unpaidAt_16 : decode cX4_unpaidAt 16 = .ok (.ifCond .ne 13, 3) := by decide +kernel
theorem dX4_unpaidAt_19 : decode cX4_unpaidAt 19 = .ok (.iload_n 2, 1) := by decide +kernel
theorem dX4_unpaidAt_20 : decode cX4_unpaidAt 20 = .ok (.iload_n 1, 1) := by decide +kernel
theorem dX4_unpaidAt_21 : decode cX4_unpaidAt 21 = .ok (.if_icmp .ne 5, 3) := by decide +kernel
theorem dX4_unpaidAt_24 : decode cX4_unpaidAt 24 = .ok (.iload_n 3, 1) := by decide +kernel
theorem dX4_unpaidAt_25 : decode cX4_unpaidAt 25 = .ok (.ireturn, 1) := by decide +kernel
theorem dX4_unpaidAt_26 : decode cX4_unpaidAt 26 = .ok (.iinc 2 1, 3) := by decide +kernel
theorem dX4_unpaidAt_29 : decode cX4_unpaidAt 29 = .ok (.iinc 3 1, 3) := by decide +kernel
theorem dX4_unpaidAt_32 : decode cX4_unpaidAt 32 = .ok (.goto (-28), 3) := by decide +kernel
theorem dX4_unpaidAt_35 : decode cX4_unpaidAt 35 = .ok (.iconst (-1), 1) := by decide +kernel
theorem dX4_unpaidAt_36 : decode cX4_unpaidAt 36 = .ok (.ireturn, 1) := by decide +kernel
theorem dX4_isPaid_0 : decode cX4_isPaid 0 = .ok (.iload_n 1, 1) := by decide +kernel
theorem dX4_isPaid_1 : decode cX4_isPaid 1 = .ok (.iconst 1, 1) := by decide +kernel
theorem dX4_isPaid_2 : decode cX4_isPaid 2 = .ok (.if_icmp .lt 28, 3) := by decide +kernel
theorem dX4_isPaid_5 : decode cX4_isPaid 5 = .ok (.iload_n 1, 1) := by decide +kernel
theorem dX4_isPaid_6 : decode cX4_isPaid 6 = .ok (.sipush 200, 3) := by decide +kernel
theorem dX4_isPaid_9 : decode cX4_isPaid 9 = .ok (.if_icmp .gt 21, 3) := by decide +kernel
theorem dX4_isPaid_12 : decode cX4_isPaid 12 = .ok (.aload_n 0, 1) := by decide +kernel
theorem dX4_isPaid_13 : decode cX4_isPaid 13 = .ok (.aload_n 0, 1) := by decide +kernel
theorem dX4_isPaid_14 : decode cX4_isPaid 14 = .ok (.getfield 15, 3) := by decide +kernel
theorem dX4_isPaid_17 : decode cX4_isPaid 17 = .ok (.iload_n 1, 1) := by decide +kernel
theorem dX4_isPaid_18 : decode cX4_isPaid 18 = .ok (.laload, 1) := by decide +kernel
theorem dX4_isPaid_19 : decode cX4_isPaid 19 = .ok (.invokevirtual 46, 3) := by decide +kernel
theorem dX4_isPaid_22 : decode cX4_isPaid 22 = .ok (.iconst (-1), 1) := by decide +kernel
theorem dX4_isPaid_23 : decode cX4_isPaid 23 = .ok (.if_icmp .eq 7, 3) := by decide +kernel
theorem dX4_isPaid_26 : decode cX4_isPaid 26 = .ok (.iconst 1, 1) := by decide +kernel
theorem dX4_isPaid_27 : decode cX4_isPaid 27 = .ok (.goto 4, 3) := by decide +kernel
theorem dX4_isPaid_30 : decode cX4_isPaid 30 = .ok (.iconst 0, 1) := by decide +kernel
theorem dX4_isPaid_31 : decode cX4_isPaid 31 = .ok (.ireturn, 1) := by decide +kernel
theorem dX4_rowPart_0 : decode cX4_rowPart 0 = .ok (.iload_n 1, 1) := by decide +kernel
theorem dX4_rowPart_1 : decode cX4_rowPart 1 = .ok (.iconst 1, 1) := by decide +kernel
theorem dX4_rowPart_2 : decode cX4_rowPart 2 = .ok (.if_icmp .lt 10, 3) := by decide +kernel
theorem dX4_rowPart_5 : decode cX4_rowPart 5 = .ok (.iload_n 1, 1) := by decide +kernel
theorem dX4_rowPart_6 : decode cX4_rowPart 6 = .ok (.sipush 200, 3) := by decide +kernel
theorem dX4_rowPart_9 : decode cX4_rowPart 9 = .ok (.if_icmp .le 5, 3) := by decide +kernel
theorem dX4_rowPart_12 : decode cX4_rowPart 12 = .ok (.iconst (-1), 1) := by decide +kernel
theorem dX4_rowPart_13 : decode cX4_rowPart 13 = .ok (.ireturn, 1) := by decide +kernel
theorem dX4_rowPart_14 : decode cX4_rowPart 14 = .ok (.aload_n 0, 1) := by decide +kernel
theorem dX4_rowPart_15 : decode cX4_rowPart 15 = .ok (.iload_n 1, 1) := by decide +kernel
theorem dX4_rowPart_16 : decode cX4_rowPart 16 = .ok (.invokevirtual 50, 3) := by decide +kernel
theorem dX4_rowPart_19 : decode cX4_rowPart 19 = .ok (.aload_n 0, 1) := by decide +kernel
theorem dX4_rowPart_20 : decode cX4_rowPart 20 = .ok (.aload_n 0, 1) := by decide +kernel
theorem dX4_rowPart_21 : decode cX4_rowPart 21 = .ok (.getfield 15, 3) := by decide +kernel
theorem dX4_rowPart_24 : decode cX4_rowPart 24 = .ok (.iconst 0, 1) := by decide +kernel
theorem dX4_rowPart_25 : decode cX4_rowPart 25 = .ok (.laload, 1) := by decide +kernel
theorem dX4_rowPart_26 : decode cX4_rowPart 26 = .ok (.invokevirtual 46, 3) := by decide +kernel
theorem dX4_rowPart_29 : decode cX4_rowPart 29 = .ok (.istore_n 3, 1) := by decide +kernel
theorem dX4_rowPart_30 : decode cX4_rowPart 30 = .ok (.iload_n 2, 1) := by decide +kernel
theorem dX4_rowPart_31 : decode cX4_rowPart 31 = .ok (.iconst (-1), 1) := by decide +kernel
theorem dX4_rowPart_32 : decode cX4_rowPart 32 = .ok (.if_icmp .ne 5, 3) := by decide +kernel
theorem dX4_rowPart_35 : decode cX4_rowPart 35 = .ok (.iload_n 3, 1) := by decide +kernel
theorem dX4_rowPart_36 : decode cX4_rowPart 36 = .ok (.ireturn, 1) := by decide +kernel
theorem dX4_rowPart_37 : decode cX4_rowPart 37 = .ok (.iload_n 2, 1) := by decide +kernel
theorem dX4_rowPart_38 : decode cX4_rowPart 38 = .ok (.ifCond .lt 8, 3) := by decide +kernel
theorem dX4_rowPart_41 : decode cX4_rowPart 41 = .ok (.iload_n 2, 1) := by decide +kernel
theorem dX4_rowPart_42 : decode cX4_rowPart 42 = .ok (.iload_n 3, 1) := by decide +kernel
theorem dX4_rowPart_43 : decode cX4_rowPart 43 = .ok (.if_icmp .lt 5, 3) := by decide +kernel
theorem dX4_rowPart_46 : decode cX4_rowPart 46 = .ok (.iconst (-1), 1) := by decide +kernel
theorem dX4_rowPart_47 : decode cX4_rowPart 47 = .ok (.ireturn, 1) := by decide +kernel
theorem dX4_rowPart_48 : decode cX4_rowPart 48 = .ok (.iconst 0, 1) := by decide +kernel
theorem dX4_rowPart_49 : decode cX4_rowPart 49 = .ok (.istore 4, 2) := by decide +kernel
theorem dX4_rowPart_51 : decode cX4_rowPart 51 = .ok (.iconst (-1), 1) := by decide +kernel
theorem dX4_rowPart_52 : decode cX4_rowPart 52 = .ok (.istore 5, 2) := by decide +kernel
theorem dX4_rowPart_54 : decode cX4_rowPart 54 = .ok (.iconst 0, 1) := by decide +kernel
theorem dX4_rowPart_55 : decode cX4_rowPart 55 = .ok (.istore 6, 2) := by decide +kernel
theorem dX4_rowPart_57 : decode cX4_rowPart 57 = .ok (.iload 6, 2) := by decide +kernel
theorem dX4_rowPart_59 : decode cX4_rowPart 59 = .ok (.iload_n 2, 1) := by decide +kernel
theorem dX4_rowPart_60 : decode cX4_rowPart 60 = .ok (.if_icmp .gt 31, 3) := by decide +kernel
theorem dX4_rowPart_63 : decode cX4_rowPart 63 = .ok (.aload_n 0, 1) := by decide +kernel
theorem dX4_rowPart_64 : decode cX4_rowPart 64 = .ok (.iload 4, 2) := by decide +kernel
theorem dX4_rowPart_66 : decode cX4_rowPart 66 = .ok (.iload_n 1, 1) := by decide +kernel
theorem dX4_rowPart_67 : decode cX4_rowPart 67 = .ok (.iload_n 3, 1) := by decide +kernel
theorem dX4_rowPart_68 : decode cX4_rowPart 68 = .ok (.iload 6, 2) := by decide +kernel
theorem dX4_rowPart_70 : decode cX4_rowPart 70 = .ok (.isub, 1) := by decide +kernel
theorem dX4_rowPart_71 : decode cX4_rowPart 71 = .ok (.iconst 1, 1) := by decide +kernel
theorem dX4_rowPart_72 : decode cX4_rowPart 72 = .ok (.isub, 1) := by decide +kernel
theorem dX4_rowPart_73 : decode cX4_rowPart 73 = .ok (.invokevirtual 54, 3) := by decide +kernel
theorem dX4_rowPart_76 : decode cX4_rowPart 76 = .ok (.istore 5, 2) := by decide +kernel
theorem dX4_rowPart_78 : decode cX4_rowPart 78 = .ok (.iload 4, 2) := by decide +kernel
theorem dX4_rowPart_80 : decode cX4_rowPart 80 = .ok (.iload 5, 2) := by decide +kernel
theorem dX4_rowPart_82 : decode cX4_rowPart 82 = .ok (.iadd, 1) := by decide +kernel
theorem dX4_rowPart_83 : decode cX4_rowPart 83 = .ok (.istore 4, 2) := by decide +kernel
theorem dX4_rowPart_85 : decode cX4_rowPart 85 = .ok (.iinc 6 1, 3) := by decide +kernel
theorem dX4_rowPart_88 : decode cX4_rowPart 88 = .ok (.goto (-31), 3) := by decide +kernel
theorem dX4_rowPart_91 : decode cX4_rowPart 91 = .ok (.iload 5, 2) := by decide +kernel
theorem dX4_rowPart_93 : decode cX4_rowPart 93 = .ok (.ireturn, 1) := by decide +kernel
theorem dX4_rows_0 : decode cX4_rows 0 = .ok (.iload_n 1, 1) := by decide +kernel
theorem dX4_rows_1 : decode cX4_rows 1 = .ok (.iconst 1, 1) := by decide +kernel
theorem dX4_rows_2 : decode cX4_rows 2 = .ok (.if_icmp .lt 18, 3) := by decide +kernel
theorem dX4_rows_5 : decode cX4_rows 5 = .ok (.iload_n 1, 1) := by decide +kernel
theorem dX4_rows_6 : decode cX4_rows 6 = .ok (.sipush 200, 3) := by decide +kernel
theorem dX4_rows_9 : decode cX4_rows 9 = .ok (.if_icmp .gt 11, 3) := by decide +kernel
theorem dX4_rows_12 : decode cX4_rows 12 = .ok (.aload_n 0, 1) := by decide +kernel
theorem dX4_rows_13 : decode cX4_rows 13 = .ok (.iload_n 2, 1) := by decide +kernel
theorem dX4_rows_14 : decode cX4_rows 14 = .ok (.invokevirtual 58, 3) := by decide +kernel
theorem dX4_rows_17 : decode cX4_rows 17 = .ok (.ifCond .ne 5, 3) := by decide +kernel
theorem dX4_rows_20 : decode cX4_rows 20 = .ok (.lconst 0, 1) := by decide +kernel
theorem dX4_rows_21 : decode cX4_rows 21 = .ok (.lreturn, 1) := by decide +kernel
theorem dX4_rows_22 : decode cX4_rows 22 = .ok (.aload_n 0, 1) := by decide +kernel
theorem dX4_rows_23 : decode cX4_rows 23 = .ok (.getfield 19, 3) := by decide +kernel
theorem dX4_rows_26 : decode cX4_rows 26 = .ok (.lconst 0, 1) := by decide +kernel
theorem dX4_rows_27 : decode cX4_rows 27 = .ok (.invokestatic 61, 3) := by decide +kernel
theorem dX4_rows_30 : decode cX4_rows 30 = .ok (.aload_n 0, 1) := by decide +kernel
theorem dX4_rows_31 : decode cX4_rows 31 = .ok (.getfield 19, 3) := by decide +kernel
theorem dX4_rows_34 : decode cX4_rows 34 = .ok (.iconst 0, 1) := by decide +kernel
theorem dX4_rows_35 : decode cX4_rows 35 = .ok (.lconst 1, 1) := by decide +kernel
theorem dX4_rows_36 : decode cX4_rows 36 = .ok (.lastore, 1) := by decide +kernel
theorem dX4_rows_37 : decode cX4_rows 37 = .ok (.iconst 0, 1) := by decide +kernel
theorem dX4_rows_38 : decode cX4_rows 38 = .ok (.istore_n 3, 1) := by decide +kernel
theorem dX4_rows_39 : decode cX4_rows 39 = .ok (.iload_n 3, 1) := by decide +kernel
theorem dX4_rows_40 : decode cX4_rows 40 = .ok (.iload_n 2, 1) := by decide +kernel
theorem dX4_rows_41 : decode cX4_rows 41 = .ok (.if_icmp .ge 49, 3) := by decide +kernel
theorem dX4_rows_44 : decode cX4_rows 44 = .ok (.iload_n 1, 1) := by decide +kernel
theorem dX4_rows_45 : decode cX4_rows 45 = .ok (.istore 4, 2) := by decide +kernel
theorem dX4_rows_47 : decode cX4_rows 47 = .ok (.iload 4, 2) := by decide +kernel
theorem dX4_rows_49 : decode cX4_rows 49 = .ok (.ifCond .lt 35, 3) := by decide +kernel
theorem dX4_rows_52 : decode cX4_rows 52 = .ok (.aload_n 0, 1) := by decide +kernel
theorem dX4_rows_53 : decode cX4_rows 53 = .ok (.getfield 19, 3) := by decide +kernel
theorem dX4_rows_56 : decode cX4_rows 56 = .ok (.iload 4, 2) := by decide +kernel
theorem dX4_rows_58 : decode cX4_rows 58 = .ok (.aload_n 0, 1) := by decide +kernel
theorem dX4_rows_59 : decode cX4_rows 59 = .ok (.iload 4, 2) := by decide +kernel
theorem dX4_rows_61 : decode cX4_rows 61 = .ok (.invokevirtual 38, 3) := by decide +kernel
theorem dX4_rows_64 : decode cX4_rows 64 = .ok (.ifCond .eq 12, 3) := by decide +kernel
theorem dX4_rows_67 : decode cX4_rows 67 = .ok (.aload_n 0, 1) := by decide +kernel
theorem dX4_rows_68 : decode cX4_rows 68 = .ok (.iload 4, 2) := by decide +kernel
theorem dX4_rows_70 : decode cX4_rows 70 = .ok (.invokevirtual 67, 3) := by decide +kernel
theorem dX4_rows_73 : decode cX4_rows 73 = .ok (.goto 4, 3) := by decide +kernel
theorem dX4_rows_76 : decode cX4_rows 76 = .ok (.lconst 0, 1) := by decide +kernel
theorem dX4_rows_77 : decode cX4_rows 77 = .ok (.lastore, 1) := by decide +kernel
theorem dX4_rows_78 : decode cX4_rows 78 = .ok (.iinc 4 (-1), 3) := by decide +kernel
theorem dX4_rows_81 : decode cX4_rows 81 = .ok (.goto (-34), 3) := by decide +kernel
theorem dX4_rows_84 : decode cX4_rows 84 = .ok (.iinc 3 1, 3) := by decide +kernel
theorem dX4_rows_87 : decode cX4_rows 87 = .ok (.goto (-48), 3) := by decide +kernel
theorem dX4_rows_90 : decode cX4_rows 90 = .ok (.aload_n 0, 1) := by decide +kernel
theorem dX4_rows_91 : decode cX4_rows 91 = .ok (.getfield 19, 3) := by decide +kernel
theorem dX4_rows_94 : decode cX4_rows 94 = .ok (.iload_n 1, 1) := by decide +kernel
theorem dX4_rows_95 : decode cX4_rows 95 = .ok (.laload, 1) := by decide +kernel
theorem dX4_rows_96 : decode cX4_rows 96 = .ok (.lreturn, 1) := by decide +kernel
theorem dX4_partitions_0 : decode cX4_partitions 0 = .ok (.iload_n 1, 1) := by decide +kernel
theorem dX4_partitions_1 : decode cX4_partitions 1 = .ok (.iconst 1, 1) := by decide +kernel
theorem dX4_partitions_2 : decode cX4_partitions 2 = .ok (.if_icmp .lt 9, 3) := by decide +kernel
theorem dX4_partitions_5 : decode cX4_partitions 5 = .ok (.iload_n 1, 1) := by decide +kernel
theorem dX4_partitions_6 : decode cX4_partitions 6 = .ok (.bipush 30, 2) := by decide +kernel
theorem dX4_partitions_8 : decode cX4_partitions 8 = .ok (.if_icmp .le 5, 3) := by decide +kernel
theorem dX4_partitions_11 : decode cX4_partitions 11 = .ok (.iconst 0, 1) := by decide +kernel
theorem dX4_partitions_12 : decode cX4_partitions 12 = .ok (.ireturn, 1) := by decide +kernel
theorem dX4_partitions_13 : decode cX4_partitions 13 = .ok (.iconst 0, 1) := by decide +kernel
theorem dX4_partitions_14 : decode cX4_partitions 14 = .ok (.istore_n 2, 1) := by decide +kernel
theorem dX4_partitions_15 : decode cX4_partitions 15 = .ok (.iload_n 2, 1) := by decide +kernel
theorem dX4_partitions_16 : decode cX4_partitions 16 = .ok (.iload_n 1, 1) := by decide +kernel
theorem dX4_partitions_17 : decode cX4_partitions 17 = .ok (.if_icmp .gt 19, 3) := by decide +kernel
theorem dX4_partitions_20 : decode cX4_partitions 20 = .ok (.aload_n 0, 1) := by decide +kernel
theorem dX4_partitions_21 : decode cX4_partitions 21 = .ok (.getfield 24, 3) := by decide +kernel
theorem dX4_partitions_24 : decode cX4_partitions 24 = .ok (.iload_n 2, 1) := by decide +kernel
theorem dX4_partitions_25 : decode cX4_partitions 25 = .ok (.aaload, 1) := by decide +kernel
theorem dX4_partitions_26 : decode cX4_partitions 26 = .ok (.iconst 0, 1) := by decide +kernel
theorem dX4_partitions_27 : decode cX4_partitions 27 = .ok (.invokestatic 71, 3) := by decide +kernel
theorem dX4_partitions_30 : decode cX4_partitions 30 = .ok (.iinc 2 1, 3) := by decide +kernel
theorem dX4_partitions_33 : decode cX4_partitions 33 = .ok (.goto (-18), 3) := by decide +kernel
theorem dX4_partitions_36 : decode cX4_partitions 36 = .ok (.aload_n 0, 1) := by decide +kernel
theorem dX4_partitions_37 : decode cX4_partitions 37 = .ok (.getfield 24, 3) := by decide +kernel
theorem dX4_partitions_40 : decode cX4_partitions 40 = .ok (.iconst 0, 1) := by decide +kernel
theorem dX4_partitions_41 : decode cX4_partitions 41 = .ok (.aaload, 1) := by decide +kernel
theorem dX4_partitions_42 : decode cX4_partitions 42 = .ok (.iconst 0, 1) := by decide +kernel
theorem dX4_partitions_43 : decode cX4_partitions 43 = .ok (.iconst 1, 1) := by decide +kernel
theorem dX4_partitions_44 : decode cX4_partitions 44 = .ok (.iastore, 1) := by decide +kernel
theorem dX4_partitions_45 : decode cX4_partitions 45 = .ok (.iconst 1, 1) := by decide +kernel
theorem dX4_partitions_46 : decode cX4_partitions 46 = .ok (.istore_n 2, 1) := by decide +kernel
theorem dX4_partitions_47 : decode cX4_partitions 47 = .ok (.iload_n 2, 1) := by decide +kernel
theorem dX4_partitions_48 : decode cX4_partitions 48 = .ok (.iload_n 1, 1) := by decide +kernel
theorem dX4_partitions_49 : decode cX4_partitions 49 = .ok (.if_icmp .gt 23, 3) := by decide +kernel
theorem dX4_partitions_52 : decode cX4_partitions 52 = .ok (.aload_n 0, 1) := by decide +kernel
theorem dX4_partitions_53 : decode cX4_partitions 53 = .ok (.iload_n 2, 1) := by decide +kernel
theorem dX4_partitions_54 : decode cX4_partitions 54 = .ok (.invokevirtual 34, 3) := by decide +kernel
theorem dX4_partitions_57 : decode cX4_partitions 57 = .ok (.ifCond .eq 9, 3) := by decide +kernel
theorem dX4_partitions_60 : decode cX4_partitions 60 = .ok (.aload_n 0, 1) := by decide +kernel
theorem dX4_partitions_61 : decode cX4_partitions 61 = .ok (.iload_n 2, 1) := by decide +kernel
theorem dX4_partitions_62 : decode cX4_partitions 62 = .ok (.iload_n 1, 1) := by decide +kernel
theorem dX4_partitions_63 : decode cX4_partitions 63 = .ok (.invokevirtual 74, 3) := by decide +kernel
theorem dX4_partitions_66 : decode cX4_partitions 66 = .ok (.iinc 2 1, 3) := by decide +kernel
theorem dX4_partitions_69 : decode cX4_partitions 69 = .ok (.goto (-22), 3) := by decide +kernel
theorem dX4_partitions_72 : decode cX4_partitions 72 = .ok (.iconst 0, 1) := by decide +kernel
theorem dX4_partitions_73 : decode cX4_partitions 73 = .ok (.istore_n 2, 1) := by decide +kernel
theorem dX4_partitions_74 : decode cX4_partitions 74 = .ok (.iconst 1, 1) := by decide +kernel
theorem dX4_partitions_75 : decode cX4_partitions 75 = .ok (.istore_n 3, 1) := by decide +kernel
theorem dX4_partitions_76 : decode cX4_partitions 76 = .ok (.iload_n 3, 1) := by decide +kernel
theorem dX4_partitions_77 : decode cX4_partitions 77 = .ok (.iload_n 1, 1) := by decide +kernel
theorem dX4_partitions_78 : decode cX4_partitions 78 = .ok (.if_icmp .gt 28, 3) := by decide +kernel
theorem dX4_partitions_81 : decode cX4_partitions 81 = .ok (.aload_n 0, 1) := by decide +kernel
theorem dX4_partitions_82 : decode cX4_partitions 82 = .ok (.iload_n 3, 1) := by decide +kernel
theorem dX4_partitions_83 : decode cX4_partitions 83 = .ok (.invokevirtual 58, 3) := by decide +kernel
theorem dX4_partitions_86 : decode cX4_partitions 86 = .ok (.ifCond .eq 14, 3) := by decide +kernel
theorem dX4_partitions_89 : decode cX4_partitions 89 = .ok (.iload_n 2, 1) := by decide +kernel
theorem dX4_partitions_90 : decode cX4_partitions 90 = .ok (.aload_n 0, 1) := by decide +kernel
theorem dX4_partitions_91 : decode cX4_partitions 91 = .ok (.getfield 24, 3) := by decide +kernel
theorem dX4_partitions_94 : decode cX4_partitions 94 = .ok (.iload_n 3, 1) := by decide +kernel
theorem dX4_partitions_95 : decode cX4_partitions 95 = .ok (.aaload, 1) := by decide +kernel
theorem dX4_partitions_96 : decode cX4_partitions 96 = .ok (.iload_n 1, 1) := by decide +kernel
theorem dX4_partitions_97 : decode cX4_partitions 97 = .ok (.iaload, 1) := by decide +kernel
theorem dX4_partitions_98 : decode cX4_partitions 98 = .ok (.iadd, 1) := by decide +kernel
theorem dX4_partitions_99 : decode cX4_partitions 99 = .ok (.istore_n 2, 1) := by decide +kernel
theorem dX4_partitions_100 : decode cX4_partitions 100 = .ok (.iinc 3 1, 3) := by decide +kernel
theorem dX4_partitions_103 : decode cX4_partitions 103 = .ok (.goto (-27), 3) := by decide +kernel
theorem dX4_partitions_106 : decode cX4_partitions 106 = .ok (.iload_n 2, 1) := by decide +kernel
theorem dX4_partitions_107 : decode cX4_partitions 107 = .ok (.ireturn, 1) := by decide +kernel
theorem dX4_isBarred_0 : decode cX4_isBarred 0 = .ok (.iload_n 1, 1) := by decide +kernel
theorem dX4_isBarred_1 : decode cX4_isBarred 1 = .ok (.ifCond .lt 23, 3) := by decide +kernel
theorem dX4_isBarred_4 : decode cX4_isBarred 4 = .ok (.iload_n 1, 1) := by decide +kernel
theorem dX4_isBarred_5 : decode cX4_isBarred 5 = .ok (.sipush 200, 3) := by decide +kernel
theorem dX4_isBarred_8 : decode cX4_isBarred 8 = .ok (.if_icmp .gt 16, 3) := by decide +kernel
theorem dX4_isBarred_11 : decode cX4_isBarred 11 = .ok (.aload_n 0, 1) := by decide +kernel
theorem dX4_isBarred_12 : decode cX4_isBarred 12 = .ok (.getfield 9, 3) := by decide +kernel
theorem dX4_isBarred_15 : decode cX4_isBarred 15 = .ok (.iload_n 1, 1) := by decide +kernel
theorem dX4_isBarred_16 : decode cX4_isBarred 16 = .ok (.baload, 1) := by decide +kernel
theorem dX4_isBarred_17 : decode cX4_isBarred 17 = .ok (.ifCond .eq 7, 3) := by decide +kernel
theorem dX4_isBarred_20 : decode cX4_isBarred 20 = .ok (.iconst 1, 1) := by decide +kernel
theorem dX4_isBarred_21 : decode cX4_isBarred 21 = .ok (.goto 4, 3) := by decide +kernel
theorem dX4_isBarred_24 : decode cX4_isBarred 24 = .ok (.iconst 0, 1) := by decide +kernel
theorem dX4_isBarred_25 : decode cX4_isBarred 25 = .ok (.ireturn, 1) := by decide +kernel
theorem dX4_isPart_0 : decode cX4_isPart 0 = .ok (.aload_n 0, 1) := by decide +kernel
theorem dX4_isPart_1 : decode cX4_isPart 1 = .ok (.getfield 31, 3) := by decide +kernel
theorem dX4_isPart_4 : decode cX4_isPart 4 = .ok (.iconst 1, 1) := by decide +kernel
theorem dX4_isPart_5 : decode cX4_isPart 5 = .ok (.iand, 1) := by decide +kernel
theorem dX4_isPart_6 : decode cX4_isPart 6 = .ok (.ifCond .eq 11, 3) := by decide +kernel
theorem dX4_isPart_9 : decode cX4_isPart 9 = .ok (.aload_n 0, 1) := by decide +kernel
theorem dX4_isPart_10 : decode cX4_isPart 10 = .ok (.iload_n 1, 1) := by decide +kernel
theorem dX4_isPart_11 : decode cX4_isPart 11 = .ok (.invokevirtual 78, 3) := by decide +kernel
theorem dX4_isPart_14 : decode cX4_isPart 14 = .ok (.ifCond .ne 7, 3) := by decide +kernel
theorem dX4_isPart_17 : decode cX4_isPart 17 = .ok (.iconst 1, 1) := by decide +kernel
theorem dX4_isPart_18 : decode cX4_isPart 18 = .ok (.goto 4, 3) := by decide +kernel
theorem dX4_isPart_21 : decode cX4_isPart 21 = .ok (.iconst 0, 1) := by decide +kernel
theorem dX4_isPart_22 : decode cX4_isPart 22 = .ok (.ireturn, 1) := by decide +kernel
theorem dX4_isTotal_0 : decode cX4_isTotal 0 = .ok (.aload_n 0, 1) := by decide +kernel
theorem dX4_isTotal_1 : decode cX4_isTotal 1 = .ok (.getfield 31, 3) := by decide +kernel
theorem dX4_isTotal_4 : decode cX4_isTotal 4 = .ok (.iconst 2, 1) := by decide +kernel
theorem dX4_isTotal_5 : decode cX4_isTotal 5 = .ok (.iand, 1) := by decide +kernel
theorem dX4_isTotal_6 : decode cX4_isTotal 6 = .ok (.ifCond .eq 11, 3) := by decide +kernel
theorem dX4_isTotal_9 : decode cX4_isTotal 9 = .ok (.aload_n 0, 1) := by decide +kernel
theorem dX4_isTotal_10 : decode cX4_isTotal 10 = .ok (.iload_n 1, 1) := by decide +kernel
theorem dX4_isTotal_11 : decode cX4_isTotal 11 = .ok (.invokevirtual 78, 3) := by decide +kernel
theorem dX4_isTotal_14 : decode cX4_isTotal 14 = .ok (.ifCond .ne 7, 3) := by decide +kernel
theorem dX4_isTotal_17 : decode cX4_isTotal 17 = .ok (.iconst 1, 1) := by decide +kernel
theorem dX4_isTotal_18 : decode cX4_isTotal 18 = .ok (.goto 4, 3) := by decide +kernel
theorem dX4_isTotal_21 : decode cX4_isTotal 21 = .ok (.iconst 0, 1) := by decide +kernel
theorem dX4_isTotal_22 : decode cX4_isTotal 22 = .ok (.ireturn, 1) := by decide +kernel
theorem dX4_isCount_0 : decode cX4_isCount 0 = .ok (.aload_n 0, 1) := by decide +kernel
theorem dX4_isCount_1 : decode cX4_isCount 1 = .ok (.getfield 31, 3) := by decide +kernel
theorem dX4_isCount_4 : decode cX4_isCount 4 = .ok (.iconst 4, 1) := by decide +kernel
theorem dX4_isCount_5 : decode cX4_isCount 5 = .ok (.iand, 1) := by decide +kernel
theorem dX4_isCount_6 : decode cX4_isCount 6 = .ok (.ifCond .eq 11, 3) := by decide +kernel
theorem dX4_isCount_9 : decode cX4_isCount 9 = .ok (.aload_n 0, 1) := by decide +kernel
theorem dX4_isCount_10 : decode cX4_isCount 10 = .ok (.iload_n 1, 1) := by decide +kernel
theorem dX4_isCount_11 : decode cX4_isCount 11 = .ok (.invokevirtual 78, 3) := by decide +kernel
theorem dX4_isCount_14 : decode cX4_isCount 14 = .ok (.ifCond .ne 7, 3) := by decide +kernel
theorem dX4_isCount_17 : decode cX4_isCount 17 = .ok (.iconst 1, 1) := by decide +kernel
theorem dX4_isCount_18 : decode cX4_isCount 18 = .ok (.goto 4, 3) := by decide +kernel
theorem dX4_isCount_21 : decode cX4_isCount 21 = .ok (.iconst 0, 1) := by decide +kernel
theorem dX4_isCount_22 : decode cX4_isCount 22 = .ok (.ireturn, 1) := by decide +kernel
theorem dX4_fewest_0 : decode cX4_fewest 0 = .ok (.iconst 1, 1) := by decide +kernel
theorem dX4_fewest_1 : decode cX4_fewest 1 = .ok (.istore_n 3, 1) := by decide +kernel
theorem dX4_fewest_2 : decode cX4_fewest 2 = .ok (.iload_n 3, 1) := by decide +kernel
theorem dX4_fewest_3 : decode cX4_fewest 3 = .ok (.bipush 60, 2) := by decide +kernel
theorem dX4_fewest_5 : decode cX4_fewest 5 = .ok (.if_icmp .gt 29, 3) := by decide +kernel
theorem dX4_fewest_8 : decode cX4_fewest 8 = .ok (.lload_n 1, 1) := by decide +kernel
theorem dX4_fewest_9 : decode cX4_fewest 9 = .ok (.iload_n 3, 1) := by decide +kernel
theorem dX4_fewest_10 : decode cX4_fewest 10 = .ok (.lushr, 1) := by decide +kernel
theorem dX4_fewest_11 : decode cX4_fewest 11 = .ok (.lconst 1, 1) := by decide +kernel
theorem dX4_fewest_12 : decode cX4_fewest 12 = .ok (.land, 1) := by decide +kernel
theorem dX4_fewest_13 : decode cX4_fewest 13 = .ok (.lconst 0, 1) := by decide +kernel
theorem dX4_fewest_14 : decode cX4_fewest 14 = .ok (.lcmp, 1) := by decide +kernel
theorem dX4_fewest_15 : decode cX4_fewest 15 = .ok (.ifCond .eq 13, 3) := by decide +kernel
theorem dX4_fewest_18 : decode cX4_fewest 18 = .ok (.aload_n 0, 1) := by decide +kernel
theorem dX4_fewest_19 : decode cX4_fewest 19 = .ok (.iload_n 3, 1) := by decide +kernel
theorem dX4_fewest_20 : decode cX4_fewest 20 = .ok (.invokevirtual 58, 3) := by decide +kernel
theorem dX4_fewest_23 : decode cX4_fewest 23 = .ok (.ifCond .eq 5, 3) := by decide +kernel
theorem dX4_fewest_26 : decode cX4_fewest 26 = .ok (.iload_n 3, 1) := by decide +kernel
theorem dX4_fewest_27 : decode cX4_fewest 27 = .ok (.ireturn, 1) := by decide +kernel
theorem dX4_fewest_28 : decode cX4_fewest 28 = .ok (.iinc 3 1, 3) := by decide +kernel
theorem dX4_fewest_31 : decode cX4_fewest 31 = .ok (.goto (-29), 3) := by decide +kernel
theorem dX4_fewest_34 : decode cX4_fewest 34 = .ok (.iconst (-1), 1) := by decide +kernel
theorem dX4_fewest_35 : decode cX4_fewest 35 = .ok (.ireturn, 1) := by decide +kernel
theorem dX4_countBack_0 : decode cX4_countBack 0 = .ok (.aload_n 0, 1) := by decide +kernel
theorem dX4_countBack_1 : decode cX4_countBack 1 = .ok (.getfield 15, 3) := by decide +kernel
theorem dX4_countBack_4 : decode cX4_countBack 4 = .ok (.iload_n 1, 1) := by decide +kernel
theorem dX4_countBack_5 : decode cX4_countBack 5 = .ok (.aload_n 0, 1) := by decide +kernel
theorem dX4_countBack_6 : decode cX4_countBack 6 = .ok (.iload_n 1, 1) := by decide +kernel
theorem dX4_countBack_7 : decode cX4_countBack 7 = .ok (.invokevirtual 38, 3) := by decide +kernel
theorem dX4_countBack_10 : decode cX4_countBack 10 = .ok (.ifCond .eq 7, 3) := by decide +kernel
theorem dX4_countBack_13 : decode cX4_countBack 13 = .ok (.lconst 1, 1) := by decide +kernel
theorem dX4_countBack_14 : decode cX4_countBack 14 = .ok (.goto 4, 3) := by decide +kernel
theorem dX4_countBack_17 : decode cX4_countBack 17 = .ok (.lconst 0, 1) := by decide +kernel
theorem dX4_countBack_18 : decode cX4_countBack 18 = .ok (.lastore, 1) := by decide +kernel
theorem dX4_countBack_19 : decode cX4_countBack 19 = .ok (.iload_n 1, 1) := by decide +kernel
theorem dX4_countBack_20 : decode cX4_countBack 20 = .ok (.iconst 1, 1) := by decide +kernel
theorem dX4_countBack_21 : decode cX4_countBack 21 = .ok (.isub, 1) := by decide +kernel
theorem dX4_countBack_22 : decode cX4_countBack 22 = .ok (.istore_n 2, 1) := by decide +kernel
theorem dX4_countBack_23 : decode cX4_countBack 23 = .ok (.iload_n 2, 1) := by decide +kernel
theorem dX4_countBack_24 : decode cX4_countBack 24 = .ok (.ifCond .lt 83, 3) := by decide +kernel
theorem dX4_countBack_27 : decode cX4_countBack 27 = .ok (.lconst 0, 1) := by decide +kernel
theorem dX4_countBack_28 : decode cX4_countBack 28 = .ok (.lstore_n 3, 1) := by decide +kernel
theorem dX4_countBack_29 : decode cX4_countBack 29 = .ok (.iconst 1, 1) := by decide +kernel
theorem dX4_countBack_30 : decode cX4_countBack 30 = .ok (.istore 5, 2) := by decide +kernel
theorem dX4_countBack_32 : decode cX4_countBack 32 = .ok (.iload 5, 2) := by decide +kernel
theorem dX4_countBack_34 : decode cX4_countBack 34 = .ok (.aload_n 0, 1) := by decide +kernel
theorem dX4_countBack_35 : decode cX4_countBack 35 = .ok (.getfield 27, 3) := by decide +kernel
theorem dX4_countBack_38 : decode cX4_countBack 38 = .ok (.if_icmp .gt 38, 3) := by decide +kernel
theorem dX4_countBack_41 : decode cX4_countBack 41 = .ok (.iload 5, 2) := by decide +kernel
theorem dX4_countBack_43 : decode cX4_countBack 43 = .ok (.iload_n 1, 1) := by decide +kernel
theorem dX4_countBack_44 : decode cX4_countBack 44 = .ok (.iload_n 2, 1) := by decide +kernel
theorem dX4_countBack_45 : decode cX4_countBack 45 = .ok (.isub, 1) := by decide +kernel
theorem dX4_countBack_46 : decode cX4_countBack 46 = .ok (.if_icmp .gt 30, 3) := by decide +kernel
theorem dX4_countBack_49 : decode cX4_countBack 49 = .ok (.aload_n 0, 1) := by decide +kernel
theorem dX4_countBack_50 : decode cX4_countBack 50 = .ok (.iload 5, 2) := by decide +kernel
theorem dX4_countBack_52 : decode cX4_countBack 52 = .ok (.invokevirtual 34, 3) := by decide +kernel
theorem dX4_countBack_55 : decode cX4_countBack 55 = .ok (.ifCond .eq 15, 3) := by decide +kernel
theorem dX4_countBack_58 : decode cX4_countBack 58 = .ok (.lload_n 3, 1) := by decide +kernel
theorem dX4_countBack_59 : decode cX4_countBack 59 = .ok (.aload_n 0, 1) := by decide +kernel
theorem dX4_countBack_60 : decode cX4_countBack 60 = .ok (.getfield 15, 3) := by decide +kernel
theorem dX4_countBack_63 : decode cX4_countBack 63 = .ok (.iload_n 2, 1) := by decide +kernel
theorem dX4_countBack_64 : decode cX4_countBack 64 = .ok (.iload 5, 2) := by decide +kernel
theorem dX4_countBack_66 : decode cX4_countBack 66 = .ok (.iadd, 1) := by decide +kernel
theorem dX4_countBack_67 : decode cX4_countBack 67 = .ok (.laload, 1) := by decide +kernel
theorem dX4_countBack_68 : decode cX4_countBack 68 = .ok (.lor, 1) := by decide +kernel
theorem dX4_countBack_69 : decode cX4_countBack 69 = .ok (.lstore_n 3, 1) := by decide +kernel
theorem dX4_countBack_70 : decode cX4_countBack 70 = .ok (.iinc 5 1, 3) := by decide +kernel
theorem dX4_countBack_73 : decode cX4_countBack 73 = .ok (.goto (-41), 3) := by decide +kernel
theorem dX4_countBack_76 : decode cX4_countBack 76 = .ok (.aload_n 0, 1) := by decide +kernel
theorem dX4_countBack_77 : decode cX4_countBack 77 = .ok (.getfield 15, 3) := by decide +kernel
theorem dX4_countBack_80 : decode cX4_countBack 80 = .ok (.iload_n 2, 1) := by decide +kernel
theorem dX4_countBack_81 : decode cX4_countBack 81 = .ok (.aload_n 0, 1) := by decide +kernel
theorem dX4_countBack_82 : decode cX4_countBack 82 = .ok (.iload_n 2, 1) := by decide +kernel
theorem dX4_countBack_83 : decode cX4_countBack 83 = .ok (.invokevirtual 38, 3) := by decide +kernel
theorem dX4_countBack_86 : decode cX4_countBack 86 = .ok (.ifCond .eq 13, 3) := by decide +kernel
theorem dX4_countBack_89 : decode cX4_countBack 89 = .ok (.lload_n 3, 1) := by decide +kernel
theorem dX4_countBack_90 : decode cX4_countBack 90 = .ok (.iconst 1, 1) := by decide +kernel
theorem dX4_countBack_91 : decode cX4_countBack 91 = .ok (.lshl, 1) := by decide +kernel
theorem dX4_countBack_92 : decode cX4_countBack 92 = .ok (.ldc2_w 41, 3) := by decide +kernel
theorem dX4_countBack_95 : decode cX4_countBack 95 = .ok (.land, 1) := by decide +kernel
theorem dX4_countBack_96 : decode cX4_countBack 96 = .ok (.goto 4, 3) := by decide +kernel
theorem dX4_countBack_99 : decode cX4_countBack 99 = .ok (.lconst 0, 1) := by decide +kernel
theorem dX4_countBack_100 : decode cX4_countBack 100 = .ok (.lastore, 1) := by decide +kernel
theorem dX4_countBack_101 : decode cX4_countBack 101 = .ok (.iinc 2 (-1), 3) := by decide +kernel
theorem dX4_countBack_104 : decode cX4_countBack 104 = .ok (.goto (-81), 3) := by decide +kernel
theorem dX4_countBack_107 : decode cX4_countBack 107 = .ok (.return_, 1) := by decide +kernel
theorem dX4_greatestPart_0 : decode cX4_greatestPart 0 = .ok (.aload_n 0, 1) := by decide +kernel
theorem dX4_greatestPart_1 : decode cX4_greatestPart 1 = .ok (.getfield 27, 3) := by decide +kernel
theorem dX4_greatestPart_4 : decode cX4_greatestPart 4 = .ok (.iload_n 2, 1) := by decide +kernel
theorem dX4_greatestPart_5 : decode cX4_greatestPart 5 = .ok (.iload_n 1, 1) := by decide +kernel
theorem dX4_greatestPart_6 : decode cX4_greatestPart 6 = .ok (.isub, 1) := by decide +kernel
theorem dX4_greatestPart_7 : decode cX4_greatestPart 7 = .ok (.invokestatic 81, 3) := by decide +kernel
theorem dX4_greatestPart_10 : decode cX4_greatestPart 10 = .ok (.istore 4, 2) := by decide +kernel
theorem dX4_greatestPart_12 : decode cX4_greatestPart 12 = .ok (.iload 4, 2) := by decide +kernel
theorem dX4_greatestPart_14 : decode cX4_greatestPart 14 = .ok (.ifCond .le 39, 3) := by decide +kernel
theorem dX4_greatestPart_17 : decode cX4_greatestPart 17 = .ok (.aload_n 0, 1) := by decide +kernel
theorem dX4_greatestPart_18 : decode cX4_greatestPart 18 = .ok (.iload 4, 2) := by decide +kernel
theorem dX4_greatestPart_20 : decode cX4_greatestPart 20 = .ok (.invokevirtual 34, 3) := by decide +kernel
theorem dX4_greatestPart_23 : decode cX4_greatestPart 23 = .ok (.ifCond .eq 24, 3) := by decide +kernel
theorem dX4_greatestPart_26 : decode cX4_greatestPart 26 = .ok (.aload_n 0, 1) := by decide +kernel
theorem dX4_greatestPart_27 : decode cX4_greatestPart 27 = .ok (.getfield 15, 3) := by decide +kernel
theorem dX4_greatestPart_30 : decode cX4_greatestPart 30 = .ok (.iload_n 1, 1) := by decide +kernel
theorem dX4_greatestPart_31 : decode cX4_greatestPart 31 = .ok (.iload 4, 2) := by decide +kernel
theorem dX4_greatestPart_33 : decode cX4_greatestPart 33 = .ok (.iadd, 1) := by decide +kernel
theorem dX4_greatestPart_34 : decode cX4_greatestPart 34 = .ok (.laload, 1) := by decide +kernel
theorem dX4_greatestPart_35 : decode cX4_greatestPart 35 = .ok (.iload_n 3, 1) := by decide +kernel
theorem dX4_greatestPart_36 : decode cX4_greatestPart 36 = .ok (.lushr, 1) := by decide +kernel
theorem dX4_greatestPart_37 : decode cX4_greatestPart 37 = .ok (.lconst 1, 1) := by decide +kernel
theorem dX4_greatestPart_38 : decode cX4_greatestPart 38 = .ok (.land, 1) := by decide +kernel
theorem dX4_greatestPart_39 : decode cX4_greatestPart 39 = .ok (.lconst 0, 1) := by decide +kernel
theorem dX4_greatestPart_40 : decode cX4_greatestPart 40 = .ok (.lcmp, 1) := by decide +kernel
theorem dX4_greatestPart_41 : decode cX4_greatestPart 41 = .ok (.ifCond .eq 6, 3) := by decide +kernel
theorem dX4_greatestPart_44 : decode cX4_greatestPart 44 = .ok (.iload 4, 2) := by decide +kernel
theorem dX4_greatestPart_46 : decode cX4_greatestPart 46 = .ok (.ireturn, 1) := by decide +kernel
theorem dX4_greatestPart_47 : decode cX4_greatestPart 47 = .ok (.iinc 4 (-1), 3) := by decide +kernel
theorem dX4_greatestPart_50 : decode cX4_greatestPart 50 = .ok (.goto (-38), 3) := by decide +kernel
theorem dX4_greatestPart_53 : decode cX4_greatestPart 53 = .ok (.iconst 0, 1) := by decide +kernel
theorem dX4_greatestPart_54 : decode cX4_greatestPart 54 = .ok (.ireturn, 1) := by decide +kernel
theorem dX4_waysBefore_0 : decode cX4_waysBefore 0 = .ok (.lconst 0, 1) := by decide +kernel
theorem dX4_waysBefore_1 : decode cX4_waysBefore 1 = .ok (.lstore_n 2, 1) := by decide +kernel
theorem dX4_waysBefore_2 : decode cX4_waysBefore 2 = .ok (.iconst 1, 1) := by decide +kernel
theorem dX4_waysBefore_3 : decode cX4_waysBefore 3 = .ok (.istore 4, 2) := by decide +kernel
theorem dX4_waysBefore_5 : decode cX4_waysBefore 5 = .ok (.iload 4, 2) := by decide +kernel
theorem dX4_waysBefore_7 : decode cX4_waysBefore 7 = .ok (.aload_n 0, 1) := by decide +kernel
theorem dX4_waysBefore_8 : decode cX4_waysBefore 8 = .ok (.getfield 27, 3) := by decide +kernel
theorem dX4_waysBefore_11 : decode cX4_waysBefore 11 = .ok (.if_icmp .gt 36, 3) := by decide +kernel
theorem dX4_waysBefore_14 : decode cX4_waysBefore 14 = .ok (.iload 4, 2) := by decide +kernel
theorem dX4_waysBefore_16 : decode cX4_waysBefore 16 = .ok (.iload_n 1, 1) := by decide +kernel
theorem dX4_waysBefore_17 : decode cX4_waysBefore 17 = .ok (.if_icmp .gt 30, 3) := by decide +kernel
theorem dX4_waysBefore_20 : decode cX4_waysBefore 20 = .ok (.aload_n 0, 1) := by decide +kernel
theorem dX4_waysBefore_21 : decode cX4_waysBefore 21 = .ok (.iload 4, 2) := by decide +kernel
theorem dX4_waysBefore_23 : decode cX4_waysBefore 23 = .ok (.invokevirtual 34, 3) := by decide +kernel
theorem dX4_waysBefore_26 : decode cX4_waysBefore 26 = .ok (.ifCond .eq 15, 3) := by decide +kernel
theorem dX4_waysBefore_29 : decode cX4_waysBefore 29 = .ok (.lload_n 2, 1) := by decide +kernel
theorem dX4_waysBefore_30 : decode cX4_waysBefore 30 = .ok (.aload_n 0, 1) := by decide +kernel
theorem dX4_waysBefore_31 : decode cX4_waysBefore 31 = .ok (.getfield 19, 3) := by decide +kernel
theorem dX4_waysBefore_34 : decode cX4_waysBefore 34 = .ok (.iload_n 1, 1) := by decide +kernel
theorem dX4_waysBefore_35 : decode cX4_waysBefore 35 = .ok (.iload 4, 2) := by decide +kernel
theorem dX4_waysBefore_37 : decode cX4_waysBefore 37 = .ok (.isub, 1) := by decide +kernel
theorem dX4_waysBefore_38 : decode cX4_waysBefore 38 = .ok (.laload, 1) := by decide +kernel
theorem dX4_waysBefore_39 : decode cX4_waysBefore 39 = .ok (.ladd, 1) := by decide +kernel
theorem dX4_waysBefore_40 : decode cX4_waysBefore 40 = .ok (.lstore_n 2, 1) := by decide +kernel
theorem dX4_waysBefore_41 : decode cX4_waysBefore 41 = .ok (.iinc 4 1, 3) := by decide +kernel
theorem dX4_waysBefore_44 : decode cX4_waysBefore 44 = .ok (.goto (-39), 3) := by decide +kernel
theorem dX4_waysBefore_47 : decode cX4_waysBefore 47 = .ok (.lload_n 2, 1) := by decide +kernel
theorem dX4_waysBefore_48 : decode cX4_waysBefore 48 = .ok (.lreturn, 1) := by decide +kernel
theorem dX4_addSize_0 : decode cX4_addSize 0 = .ok (.iload_n 1, 1) := by decide +kernel
theorem dX4_addSize_1 : decode cX4_addSize 1 = .ok (.istore_n 3, 1) := by decide +kernel
theorem dX4_addSize_2 : decode cX4_addSize 2 = .ok (.iload_n 3, 1) := by decide +kernel
theorem dX4_addSize_3 : decode cX4_addSize 3 = .ok (.iload_n 2, 1) := by decide +kernel
theorem dX4_addSize_4 : decode cX4_addSize 4 = .ok (.if_icmp .gt 49, 3) := by decide +kernel
theorem dX4_addSize_7 : decode cX4_addSize 7 = .ok (.iconst 1, 1) := by decide +kernel
theorem dX4_addSize_8 : decode cX4_addSize 8 = .ok (.istore 4, 2) := by decide +kernel
theorem dX4_addSize_10 : decode cX4_addSize 10 = .ok (.iload 4, 2) := by decide +kernel
theorem dX4_addSize_12 : decode cX4_addSize 12 = .ok (.iload_n 3, 1) := by decide +kernel
theorem dX4_addSize_13 : decode cX4_addSize 13 = .ok (.if_icmp .gt 34, 3) := by decide +kernel
theorem dX4_addSize_16 : decode cX4_addSize 16 = .ok (.aload_n 0, 1) := by decide +kernel
theorem dX4_addSize_17 : decode cX4_addSize 17 = .ok (.getfield 24, 3) := by decide +kernel
theorem dX4_addSize_20 : decode cX4_addSize 20 = .ok (.iload 4, 2) := by decide +kernel
theorem dX4_addSize_22 : decode cX4_addSize 22 = .ok (.aaload, 1) := by decide +kernel
theorem dX4_addSize_23 : decode cX4_addSize 23 = .ok (.iload_n 3, 1) := by decide +kernel
theorem dX4_addSize_24 : decode cX4_addSize 24 = .ok (.dup2, 1) := by decide +kernel
theorem dX4_addSize_25 : decode cX4_addSize 25 = .ok (.iaload, 1) := by decide +kernel
theorem dX4_addSize_26 : decode cX4_addSize 26 = .ok (.aload_n 0, 1) := by decide +kernel
theorem dX4_addSize_27 : decode cX4_addSize 27 = .ok (.getfield 24, 3) := by decide +kernel
theorem dX4_addSize_30 : decode cX4_addSize 30 = .ok (.iload 4, 2) := by decide +kernel
theorem dX4_addSize_32 : decode cX4_addSize 32 = .ok (.iconst 1, 1) := by decide +kernel
theorem dX4_addSize_33 : decode cX4_addSize 33 = .ok (.isub, 1) := by decide +kernel
theorem dX4_addSize_34 : decode cX4_addSize 34 = .ok (.aaload, 1) := by decide +kernel
theorem dX4_addSize_35 : decode cX4_addSize 35 = .ok (.iload_n 3, 1) := by decide +kernel
theorem dX4_addSize_36 : decode cX4_addSize 36 = .ok (.iload_n 1, 1) := by decide +kernel
theorem dX4_addSize_37 : decode cX4_addSize 37 = .ok (.isub, 1) := by decide +kernel
theorem dX4_addSize_38 : decode cX4_addSize 38 = .ok (.iaload, 1) := by decide +kernel
theorem dX4_addSize_39 : decode cX4_addSize 39 = .ok (.iadd, 1) := by decide +kernel
theorem dX4_addSize_40 : decode cX4_addSize 40 = .ok (.iastore, 1) := by decide +kernel
theorem dX4_addSize_41 : decode cX4_addSize 41 = .ok (.iinc 4 1, 3) := by decide +kernel
theorem dX4_addSize_44 : decode cX4_addSize 44 = .ok (.goto (-34), 3) := by decide +kernel
theorem dX4_addSize_47 : decode cX4_addSize 47 = .ok (.iinc 3 1, 3) := by decide +kernel
theorem dX4_addSize_50 : decode cX4_addSize 50 = .ok (.goto (-48), 3) := by decide +kernel
theorem dX4_addSize_53 : decode cX4_addSize 53 = .ok (.return_, 1) := by decide +kernel
