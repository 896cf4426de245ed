theorem dX7_init_0 : decode cX7_init 0 = .ok (.aload_n 0, 1) := by decide +kernel
theorem dX7_init_1 : decode cX7_init 1 = .ok (.invokespecial 3, 3) := by decide +kernel
theorem dX7_init_4 : decode cX7_init 4 = .ok (.aload_n 0, 1) := by decide +kernel
theorem dX7_init_5 : decode cX7_init 5 = .ok (.new 9, 3) := by decide +kernel
theorem dX7_init_8 : decode cX7_init 8 = .ok (.dup, 1) := by decide +kernel
theorem dX7_init_9 : decode cX7_init 9 = .ok (.invokespecial 11, 3) := by decide +kernel
theorem dX7_init_12 : decode cX7_init 12 = .ok (.putfield 12, 3) := by decide +kernel
theorem dX7_init_15 : decode cX7_init 15 = .ok (.aload_n 0, 1) := by decide +kernel
theorem dX7_init_16 : decode cX7_init 16 = .ok (.new 18, 3) := by decide +kernel
theorem dX7_init_19 : decode cX7_init 19 = .ok (.dup, 1) := by decide +kernel
theorem dX7_init_20 : decode cX7_init 20 = .ok (.invokespecial 20, 3) := by decide +kernel
theorem dX7_init_23 : decode cX7_init 23 = .ok (.putfield 21, 3) := by decide +kernel
theorem dX7_init_26 : decode cX7_init 26 = .ok (.aload_n 0, 1) := by decide +kernel
theorem dX7_init_27 : decode cX7_init 27 = .ok (.bipush 6, 2) := by decide +kernel
theorem dX7_init_29 : decode cX7_init 29 = .ok (.newarray .int, 2) := by decide +kernel
theorem dX7_init_31 : decode cX7_init 31 = .ok (.putfield 25, 3) := by decide +kernel
theorem dX7_init_34 : decode cX7_init 34 = .ok (.aload_n 0, 1) := by decide +kernel
theorem dX7_init_35 : decode cX7_init 35 = .ok (.iconst 4, 1) := by decide +kernel
theorem dX7_init_36 : decode cX7_init 36 = .ok (.anewarray 29, 3) := by decide +kernel
theorem dX7_init_39 : decode cX7_init 39 = .ok (.putfield 31, 3) := by decide +kernel
theorem dX7_init_42 : decode cX7_init 42 = .ok (.return_, 1) := by decide +kernel
theorem dX7_settle_0 : decode cX7_settle 0 = .ok (.aload_n 0, 1) := by decide +kernel
theorem dX7_settle_1 : decode cX7_settle 1 = .ok (.getfield 12, 3) := by decide +kernel
theorem dX7_settle_4 : decode cX7_settle 4 = .ok (.aload_n 1, 1) := by decide +kernel
theorem dX7_settle_5 : decode cX7_settle 5 = .ok (.invokevirtual 35, 3) := by decide +kernel
theorem dX7_settle_8 : decode cX7_settle 8 = .ok (.aload_n 0, 1) := by decide +kernel
theorem dX7_settle_9 : decode cX7_settle 9 = .ok (.getfield 21, 3) := by decide +kernel
theorem dX7_settle_12 : decode cX7_settle 12 = .ok (.invokevirtual 39, 3) := by decide +kernel
theorem dX7_settle_15 : decode cX7_settle 15 = .ok (.aload_n 0, 1) := by decide +kernel
theorem dX7_settle_16 : decode cX7_settle 16 = .ok (.getfield 25, 3) := by decide +kernel
theorem dX7_settle_19 : decode cX7_settle 19 = .ok (.iconst (-1), 1) := by decide +kernel
theorem dX7_settle_20 : decode cX7_settle 20 = .ok (.invokestatic 42, 3) := by decide +kernel
theorem dX7_settle_23 : decode cX7_settle 23 = .ok (.return_, 1) := by decide +kernel
theorem dX7_addCustom_0 : decode cX7_addCustom 0 = .ok (.aload_n 0, 1) := by decide +kernel
theorem dX7_addCustom_1 : decode cX7_addCustom 1 = .ok (.getfield 48, 3) := by decide +kernel
theorem dX7_addCustom_4 : decode cX7_addCustom 4 = .ok (.ifCond .lt 11, 3) := by decide +kernel
theorem dX7_addCustom_7 : decode cX7_addCustom 7 = .ok (.aload_n 0, 1) := by decide +kernel
theorem dX7_addCustom_8 : decode cX7_addCustom 8 = .ok (.getfield 48, 3) := by decide +kernel
theorem dX7_addCustom_11 : decode cX7_addCustom 11 = .ok (.iconst 4, 1) := by decide +kernel
theorem dX7_addCustom_12 : decode cX7_addCustom 12 = .ok (.if_icmp .lt 5, 3) := by decide +kernel
theorem dX7_addCustom_15 : decode cX7_addCustom 15 = .ok (.iconst (-1), 1) := by decide +kernel
theorem dX7_addCustom_16 : decode cX7_addCustom 16 = .ok (.ireturn, 1) := by decide +kernel
theorem dX7_addCustom_17 : decode cX7_addCustom 17 = .ok (.aload_n 0, 1) := by decide +kernel
theorem dX7_addCustom_18 : decode cX7_addCustom 18 = .ok (.getfield 31, 3) := by decide +kernel
theorem dX7_addCustom_21 : decode cX7_addCustom 21 = .ok (.aload_n 0, 1) := by decide +kernel
theorem dX7_addCustom_22 : decode cX7_addCustom 22 = .ok (.getfield 48, 3) := by decide +kernel
theorem dX7_addCustom_25 : decode cX7_addCustom 25 = .ok (.aload_n 1, 1) := by decide +kernel
theorem dX7_addCustom_26 : decode cX7_addCustom 26 = .ok (.aastore, 1) := by decide +kernel
theorem dX7_addCustom_27 : decode cX7_addCustom 27 = .ok (.aload_n 0, 1) := by decide +kernel
theorem dX7_addCustom_28 : decode cX7_addCustom 28 = .ok (.dup, 1) := by decide +kernel
theorem dX7_addCustom_29 : decode cX7_addCustom 29 = .ok (.getfield 48, 3) := by decide +kernel
theorem dX7_addCustom_32 : decode cX7_addCustom 32 = .ok (.iconst 1, 1) := by decide +kernel
theorem dX7_addCustom_33 : decode cX7_addCustom 33 = .ok (.iadd, 1) := by decide +kernel
theorem dX7_addCustom_34 : decode cX7_addCustom 34 = .ok (.putfield 48, 3) := by decide +kernel
theorem dX7_addCustom_37 : decode cX7_addCustom 37 = .ok (.aload_n 0, 1) := by decide +kernel
theorem dX7_addCustom_38 : decode cX7_addCustom 38 = .ok (.getfield 48, 3) := by decide +kernel
theorem dX7_addCustom_41 : decode cX7_addCustom 41 = .ok (.iconst 1, 1) := by decide +kernel
theorem dX7_addCustom_42 : decode cX7_addCustom 42 = .ok (.isub, 1) := by decide +kernel
theorem dX7_addCustom_43 : decode cX7_addCustom 43 = .ok (.ireturn, 1) := by decide +kernel
theorem dX7_isIsle_0 : decode cX7_isIsle 0 = .ok (.iload_n 1, 1) := by decide +kernel
theorem dX7_isIsle_1 : decode cX7_isIsle 1 = .ok (.ifCond .lt 24, 3) := by decide +kernel
theorem dX7_isIsle_4 : decode cX7_isIsle 4 = .ok (.iload_n 1, 1) := by decide +kernel
theorem dX7_isIsle_5 : decode cX7_isIsle 5 = .ok (.aload_n 0, 1) := by decide +kernel
theorem dX7_isIsle_6 : decode cX7_isIsle 6 = .ok (.getfield 12, 3) := by decide +kernel
theorem dX7_isIsle_9 : decode cX7_isIsle 9 = .ok (.getfield 52, 3) := by decide +kernel
theorem dX7_isIsle_12 : decode cX7_isIsle 12 = .ok (.if_icmp .ge 13, 3) := by decide +kernel
theorem dX7_isIsle_15 : decode cX7_isIsle 15 = .ok (.iload_n 1, 1) := by decide +kernel
theorem dX7_isIsle_16 : decode cX7_isIsle 16 = .ok (.bipush 6, 2) := by decide +kernel
theorem dX7_isIsle_18 : decode cX7_isIsle 18 = .ok (.if_icmp .ge 7, 3) := by decide +kernel
theorem dX7_isIsle_21 : decode cX7_isIsle 21 = .ok (.iconst 1, 1) := by decide +kernel
theorem dX7_isIsle_22 : decode cX7_isIsle 22 = .ok (.goto 4, 3) := by decide +kernel
theorem dX7_isIsle_25 : decode cX7_isIsle 25 = .ok (.iconst 0, 1) := by decide +kernel
theorem dX7_isIsle_26 : decode cX7_isIsle 26 = .ok (.ireturn, 1) := by decide +kernel
theorem dX7_tabooOn_0 : decode cX7_tabooOn 0 = .ok (.aload_n 0, 1) := by decide +kernel
theorem dX7_tabooOn_1 : decode cX7_tabooOn 1 = .ok (.iload_n 1, 1) := by decide +kernel
theorem dX7_tabooOn_2 : decode cX7_tabooOn 2 = .ok (.invokevirtual 55, 3) := by decide +kernel
theorem dX7_tabooOn_5 : decode cX7_tabooOn 5 = .ok (.ifCond .eq 24, 3) := by decide +kernel
theorem dX7_tabooOn_8 : decode cX7_tabooOn 8 = .ok (.aload_n 0, 1) := by decide +kernel
theorem dX7_tabooOn_9 : decode cX7_tabooOn 9 = .ok (.getfield 21, 3) := by decide +kernel
theorem dX7_tabooOn_12 : decode cX7_tabooOn 12 = .ok (.iload_n 1, 1) := by decide +kernel
theorem dX7_tabooOn_13 : decode cX7_tabooOn 13 = .ok (.iload_n 2, 1) := by decide +kernel
theorem dX7_tabooOn_14 : decode cX7_tabooOn 14 = .ok (.aload_n 0, 1) := by decide +kernel
theorem dX7_tabooOn_15 : decode cX7_tabooOn 15 = .ok (.getfield 12, 3) := by decide +kernel
theorem dX7_tabooOn_18 : decode cX7_tabooOn 18 = .ok (.getfield 59, 3) := by decide +kernel
theorem dX7_tabooOn_21 : decode cX7_tabooOn 21 = .ok (.iload_n 1, 1) := by decide +kernel
theorem dX7_tabooOn_22 : decode cX7_tabooOn 22 = .ok (.iaload, 1) := by decide +kernel
theorem dX7_tabooOn_23 : decode cX7_tabooOn 23 = .ok (.invokevirtual 62, 3) := by decide +kernel
theorem dX7_tabooOn_26 : decode cX7_tabooOn 26 = .ok (.goto 4, 3) := by decide +kernel
theorem dX7_tabooOn_29 : decode cX7_tabooOn 29 = .ok (.iconst 0, 1) := by decide +kernel
theorem dX7_tabooOn_30 : decode cX7_tabooOn 30 = .ok (.ireturn, 1) := by decide +kernel
theorem dX7_forbids_0 : decode cX7_forbids 0 = .ok (.aload_n 0, 1) := by decide +kernel
theorem dX7_forbids_1 : decode cX7_forbids 1 = .ok (.iload_n 1, 1) := by decide +kernel
theorem dX7_forbids_2 : decode cX7_forbids 2 = .ok (.iload_n 2, 1) := by decide +kernel
theorem dX7_forbids_3 : decode cX7_forbids 3 = .ok (.iload_n 3, 1) := by decide +kernel
theorem dX7_forbids_4 : decode cX7_forbids 4 = .ok (.aload_n 0, 1) := by decide +kernel
theorem dX7_forbids_5 : decode cX7_forbids 5 = .ok (.iload_n 1, 1) := by decide +kernel
theorem dX7_forbids_6 : decode cX7_forbids 6 = .ok (.iload_n 3, 1) := by decide +kernel
theorem dX7_forbids_7 : decode cX7_forbids 7 = .ok (.invokevirtual 66, 3) := by decide +kernel
theorem dX7_forbids_10 : decode cX7_forbids 10 = .ok (.invokevirtual 69, 3) := by decide +kernel
theorem dX7_forbids_13 : decode cX7_forbids 13 = .ok (.ireturn, 1) := by decide +kernel
theorem dX7_forbidsNow_0 : decode cX7_forbidsNow 0 = .ok (.aload_n 0, 1) := by decide +kernel
theorem dX7_forbidsNow_1 : decode cX7_forbidsNow 1 = .ok (.iload_n 1, 1) := by decide +kernel
theorem dX7_forbidsNow_2 : decode cX7_forbidsNow 2 = .ok (.iload_n 2, 1) := by decide +kernel
theorem dX7_forbidsNow_3 : decode cX7_forbidsNow 3 = .ok (.aload_n 0, 1) := by decide +kernel
theorem dX7_forbidsNow_4 : decode cX7_forbidsNow 4 = .ok (.getfield 21, 3) := by decide +kernel
theorem dX7_forbidsNow_7 : decode cX7_forbidsNow 7 = .ok (.getfield 73, 3) := by decide +kernel
theorem dX7_forbidsNow_10 : decode cX7_forbidsNow 10 = .ok (.invokevirtual 76, 3) := by decide +kernel
theorem dX7_forbidsNow_13 : decode cX7_forbidsNow 13 = .ok (.ireturn, 1) := by decide +kernel
theorem dX7_forbidsBy_0 : decode cX7_forbidsBy 0 = .ok (.iload_n 2, 1) := by decide +kernel
theorem dX7_forbidsBy_1 : decode cX7_forbidsBy 1 = .ok (.ifCond .le 11, 3) := by decide +kernel
theorem dX7_forbidsBy_4 : decode cX7_forbidsBy 4 = .ok (.aload_n 0, 1) := by decide +kernel
theorem dX7_forbidsBy_5 : decode cX7_forbidsBy 5 = .ok (.iload_n 1, 1) := by decide +kernel
theorem dX7_forbidsBy_6 : decode cX7_forbidsBy 6 = .ok (.invokevirtual 55, 3) := by decide +kernel
theorem dX7_forbidsBy_9 : decode cX7_forbidsBy 9 = .ok (.ifCond .ne 5, 3) := by decide +kernel
theorem dX7_forbidsBy_12 : decode cX7_forbidsBy 12 = .ok (.iconst 0, 1) := by decide +kernel
theorem dX7_forbidsBy_13 : decode cX7_forbidsBy 13 = .ok (.ireturn, 1) := by decide +kernel
theorem dX7_forbidsBy_14 : decode cX7_forbidsBy 14 = .ok (.iload_n 2, 1) := by decide +kernel
theorem dX7_forbidsBy_15 : decode cX7_forbidsBy 15 = .ok (.iload 4, 2) := by decide +kernel
theorem dX7_forbidsBy_17 : decode cX7_forbidsBy 17 = .ok (.if_icmp .ne 5, 3) := by decide +kernel
theorem dX7_forbidsBy_20 : decode cX7_forbidsBy 20 = .ok (.iconst 1, 1) := by decide +kernel
theorem dX7_forbidsBy_21 : decode cX7_forbidsBy 21 = .ok (.ireturn, 1) := by decide +kernel
theorem dX7_forbidsBy_22 : decode cX7_forbidsBy 22 = .ok (.aload_n 0, 1) := by decide +kernel
theorem dX7_forbidsBy_23 : decode cX7_forbidsBy 23 = .ok (.getfield 25, 3) := by decide +kernel
theorem dX7_forbidsBy_26 : decode cX7_forbidsBy 26 = .ok (.iload_n 1, 1) := by decide +kernel
theorem dX7_forbidsBy_27 : decode cX7_forbidsBy 27 = .ok (.iaload, 1) := by decide +kernel
theorem dX7_forbidsBy_28 : decode cX7_forbidsBy 28 = .ok (.istore 5, 2) := by decide +kernel
theorem dX7_forbidsBy_30 : decode cX7_forbidsBy 30 = .ok (.iload 5, 2) := by decide +kernel
theorem dX7_forbidsBy_32 : decode cX7_forbidsBy 32 = .ok (.ifCond .lt 19, 3) := by decide +kernel
theorem dX7_forbidsBy_35 : decode cX7_forbidsBy 35 = .ok (.iload 5, 2) := by decide +kernel
theorem dX7_forbidsBy_37 : decode cX7_forbidsBy 37 = .ok (.iconst 4, 1) := by decide +kernel
theorem dX7_forbidsBy_38 : decode cX7_forbidsBy 38 = .ok (.if_icmp .ge 13, 3) := by decide +kernel
theorem dX7_forbidsBy_41 : decode cX7_forbidsBy 41 = .ok (.aload_n 0, 1) := by decide +kernel
theorem dX7_forbidsBy_42 : decode cX7_forbidsBy 42 = .ok (.getfield 31, 3) := by decide +kernel
theorem dX7_forbidsBy_45 : decode cX7_forbidsBy 45 = .ok (.iload 5, 2) := by decide +kernel
theorem dX7_forbidsBy_47 : decode cX7_forbidsBy 47 = .ok (.aaload, 1) := by decide +kernel
theorem dX7_forbidsBy_48 : decode cX7_forbidsBy 48 = .ok (.ifnonnull 5, 3) := by decide +kernel
theorem dX7_forbidsBy_51 : decode cX7_forbidsBy 51 = .ok (.iconst 0, 1) := by decide +kernel
theorem dX7_forbidsBy_52 : decode cX7_forbidsBy 52 = .ok (.ireturn, 1) := by decide +kernel
theorem dX7_forbidsBy_53 : decode cX7_forbidsBy 53 = .ok (.aload_n 0, 1) := by decide +kernel
theorem dX7_forbidsBy_54 : decode cX7_forbidsBy 54 = .ok (.getfield 31, 3) := by decide +kernel
theorem dX7_forbidsBy_57 : decode cX7_forbidsBy 57 = .ok (.iload 5, 2) := by decide +kernel
theorem dX7_forbidsBy_59 : decode cX7_forbidsBy 59 = .ok (.aaload, 1) := by decide +kernel
theorem dX7_forbidsBy_60 : decode cX7_forbidsBy 60 = .ok (.iload_n 2, 1) := by decide +kernel
theorem dX7_forbidsBy_61 : decode cX7_forbidsBy 61 = .ok (.iload 4, 2) := by decide +kernel
theorem dX7_forbidsBy_63 : decode cX7_forbidsBy 63 = .ok (.iload_n 1, 1) := by decide +kernel
theorem dX7_forbidsBy_64 : decode cX7_forbidsBy 64 = .ok (.iload_n 3, 1) := by decide +kernel
theorem dX7_forbidsBy_65 : decode cX7_forbidsBy 65 = .ok (.invokevirtual 80, 3) := by decide +kernel
theorem dX7_forbidsBy_68 : decode cX7_forbidsBy 68 = .ok (.ifCond .le 7, 3) := by decide +kernel
theorem dX7_forbidsBy_71 : decode cX7_forbidsBy 71 = .ok (.iconst 1, 1) := by decide +kernel
theorem dX7_forbidsBy_72 : decode cX7_forbidsBy 72 = .ok (.goto 4, 3) := by decide +kernel
theorem dX7_forbidsBy_75 : decode cX7_forbidsBy 75 = .ok (.iconst 0, 1) := by decide +kernel
theorem dX7_forbidsBy_76 : decode cX7_forbidsBy 76 = .ok (.ireturn, 1) := by decide +kernel
theorem dX7_bar_0 : decode cX7_bar 0 = .ok (.iconst 0, 1) := by decide +kernel
theorem dX7_bar_1 : decode cX7_bar 1 = .ok (.istore 5, 2) := by decide +kernel
theorem dX7_bar_3 : decode cX7_bar 3 = .ok (.iload 5, 2) := by decide +kernel
theorem dX7_bar_5 : decode cX7_bar 5 = .ok (.aload_n 1, 1) := by decide +kernel
theorem dX7_bar_6 : decode cX7_bar 6 = .ok (.arraylength, 1) := by decide +kernel
theorem dX7_bar_7 : decode cX7_bar 7 = .ok (.if_icmp .ge 23, 3) := by decide +kernel
theorem dX7_bar_10 : decode cX7_bar 10 = .ok (.aload_n 1, 1) := by decide +kernel
theorem dX7_bar_11 : decode cX7_bar 11 = .ok (.iload 5, 2) := by decide +kernel
theorem dX7_bar_13 : decode cX7_bar 13 = .ok (.aload_n 0, 1) := by decide +kernel
theorem dX7_bar_14 : decode cX7_bar 14 = .ok (.iload_n 2, 1) := by decide +kernel
theorem dX7_bar_15 : decode cX7_bar 15 = .ok (.iload 5, 2) := by decide +kernel
theorem dX7_bar_17 : decode cX7_bar 17 = .ok (.iload_n 3, 1) := by decide +kernel
theorem dX7_bar_18 : decode cX7_bar 18 = .ok (.iload 4, 2) := by decide +kernel
theorem dX7_bar_20 : decode cX7_bar 20 = .ok (.invokevirtual 69, 3) := by decide +kernel
theorem dX7_bar_23 : decode cX7_bar 23 = .ok (.bastore, 1) := by decide +kernel
theorem dX7_bar_24 : decode cX7_bar 24 = .ok (.iinc 5 1, 3) := by decide +kernel
theorem dX7_bar_27 : decode cX7_bar 27 = .ok (.goto (-24), 3) := by decide +kernel
theorem dX7_bar_30 : decode cX7_bar 30 = .ok (.return_, 1) := by decide +kernel
theorem dX7_barAlso_0 : decode cX7_barAlso 0 = .ok (.aload_n 0, 1) := by decide +kernel
theorem dX7_barAlso_1 : decode cX7_barAlso 1 = .ok (.iload_n 2, 1) := by decide +kernel
theorem dX7_barAlso_2 : decode cX7_barAlso 2 = .ok (.aload_n 0, 1) := by decide +kernel
theorem dX7_barAlso_3 : decode cX7_barAlso 3 = .ok (.getfield 21, 3) := by decide +kernel
theorem dX7_barAlso_6 : decode cX7_barAlso 6 = .ok (.getfield 73, 3) := by decide +kernel
theorem dX7_barAlso_9 : decode cX7_barAlso 9 = .ok (.invokevirtual 66, 3) := by decide +kernel
theorem dX7_barAlso_12 : decode cX7_barAlso 12 = .ok (.istore_n 3, 1) := by decide +kernel
theorem dX7_barAlso_13 : decode cX7_barAlso 13 = .ok (.iconst 0, 1) := by decide +kernel
theorem dX7_barAlso_14 : decode cX7_barAlso 14 = .ok (.istore 4, 2) := by decide +kernel
theorem dX7_barAlso_16 : decode cX7_barAlso 16 = .ok (.iload 4, 2) := by decide +kernel
theorem dX7_barAlso_18 : decode cX7_barAlso 18 = .ok (.aload_n 1, 1) := by decide +kernel
theorem dX7_barAlso_19 : decode cX7_barAlso 19 = .ok (.arraylength, 1) := by decide +kernel
theorem dX7_barAlso_20 : decode cX7_barAlso 20 = .ok (.if_icmp .ge 43, 3) := by decide +kernel
theorem dX7_barAlso_23 : decode cX7_barAlso 23 = .ok (.aload_n 1, 1) := by decide +kernel
theorem dX7_barAlso_24 : decode cX7_barAlso 24 = .ok (.iload 4, 2) := by decide +kernel
theorem dX7_barAlso_26 : decode cX7_barAlso 26 = .ok (.aload_n 1, 1) := by decide +kernel
theorem dX7_barAlso_27 : decode cX7_barAlso 27 = .ok (.iload 4, 2) := by decide +kernel
theorem dX7_barAlso_29 : decode cX7_barAlso 29 = .ok (.baload, 1) := by decide +kernel
theorem dX7_barAlso_30 : decode cX7_barAlso 30 = .ok (.ifCond .ne 21, 3) := by decide +kernel
theorem dX7_barAlso_33 : decode cX7_barAlso 33 = .ok (.aload_n 0, 1) := by decide +kernel
theorem dX7_barAlso_34 : decode cX7_barAlso 34 = .ok (.iload_n 2, 1) := by decide +kernel
theorem dX7_barAlso_35 : decode cX7_barAlso 35 = .ok (.iload 4, 2) := by decide +kernel
theorem dX7_barAlso_37 : decode cX7_barAlso 37 = .ok (.aload_n 0, 1) := by decide +kernel
theorem dX7_barAlso_38 : decode cX7_barAlso 38 = .ok (.getfield 21, 3) := by decide +kernel
theorem dX7_barAlso_41 : decode cX7_barAlso 41 = .ok (.getfield 73, 3) := by decide +kernel
theorem dX7_barAlso_44 : decode cX7_barAlso 44 = .ok (.iload_n 3, 1) := by decide +kernel
theorem dX7_barAlso_45 : decode cX7_barAlso 45 = .ok (.invokevirtual 69, 3) := by decide +kernel
theorem dX7_barAlso_48 : decode cX7_barAlso 48 = .ok (.ifCond .eq 7, 3) := by decide +kernel
theorem dX7_barAlso_51 : decode cX7_barAlso 51 = .ok (.iconst 1, 1) := by decide +kernel
theorem dX7_barAlso_52 : decode cX7_barAlso 52 = .ok (.goto 4, 3) := by decide +kernel
theorem dX7_barAlso_55 : decode cX7_barAlso 55 = .ok (.iconst 0, 1) := by decide +kernel
theorem dX7_barAlso_56 : decode cX7_barAlso 56 = .ok (.bastore, 1) := by decide +kernel
theorem dX7_barAlso_57 : decode cX7_barAlso 57 = .ok (.iinc 4 1, 3) := by decide +kernel
theorem dX7_barAlso_60 : decode cX7_barAlso 60 = .ok (.goto (-44), 3) := by decide +kernel
theorem dX7_barAlso_63 : decode cX7_barAlso 63 = .ok (.return_, 1) := by decide +kernel
theorem dX7_neverForbids_0 : decode cX7_neverForbids 0 = .ok (.aload_n 0, 1) := by decide +kernel
theorem dX7_neverForbids_1 : decode cX7_neverForbids 1 = .ok (.getfield 21, 3) := by decide +kernel
theorem dX7_neverForbids_4 : decode cX7_neverForbids 4 = .ok (.getfield 73, 3) := by decide +kernel
theorem dX7_neverForbids_7 : decode cX7_neverForbids 7 = .ok (.istore 4, 2) := by decide +kernel
theorem dX7_neverForbids_9 : decode cX7_neverForbids 9 = .ok (.iload 4, 2) := by decide +kernel
theorem dX7_neverForbids_11 : decode cX7_neverForbids 11 = .ok (.iload_n 3, 1) := by decide +kernel
theorem dX7_neverForbids_12 : decode cX7_neverForbids 12 = .ok (.if_icmp .gt 22, 3) := by decide +kernel
theorem dX7_neverForbids_15 : decode cX7_neverForbids 15 = .ok (.aload_n 0, 1) := by decide +kernel
theorem dX7_neverForbids_16 : decode cX7_neverForbids 16 = .ok (.iload_n 1, 1) := by decide +kernel
theorem dX7_neverForbids_17 : decode cX7_neverForbids 17 = .ok (.iload_n 2, 1) := by decide +kernel
theorem dX7_neverForbids_18 : decode cX7_neverForbids 18 = .ok (.iload 4, 2) := by decide +kernel
theorem dX7_neverForbids_20 : decode cX7_neverForbids 20 = .ok (.invokevirtual 76, 3) := by decide +kernel
theorem dX7_neverForbids_23 : decode cX7_neverForbids 23 = .ok (.ifCond .eq 5, 3) := by decide +kernel
theorem dX7_neverForbids_26 : decode cX7_neverForbids 26 = .ok (.iconst 0, 1) := by decide +kernel
theorem dX7_neverForbids_27 : decode cX7_neverForbids 27 = .ok (.ireturn, 1) := by decide +kernel
theorem dX7_neverForbids_28 : decode cX7_neverForbids 28 = .ok (.iinc 4 1, 3) := by decide +kernel
theorem dX7_neverForbids_31 : decode cX7_neverForbids 31 = .ok (.goto (-22), 3) := by decide +kernel
theorem dX7_neverForbids_34 : decode cX7_neverForbids 34 = .ok (.iconst 1, 1) := by decide +kernel
theorem dX7_neverForbids_35 : decode cX7_neverForbids 35 = .ok (.ireturn, 1) := by decide +kernel
theorem dX7_isBreach_0 : decode cX7_isBreach 0 = .ok (.iload_n 1, 1) := by decide +kernel
theorem dX7_isBreach_1 : decode cX7_isBreach 1 = .ok (.ifCond .lt 20, 3) := by decide +kernel
theorem dX7_isBreach_4 : decode cX7_isBreach 4 = .ok (.iload_n 1, 1) := by decide +kernel
theorem dX7_isBreach_5 : decode cX7_isBreach 5 = .ok (.aload_n 0, 1) := by decide +kernel
theorem dX7_isBreach_6 : decode cX7_isBreach 6 = .ok (.getfield 21, 3) := by decide +kernel
theorem dX7_isBreach_9 : decode cX7_isBreach 9 = .ok (.getfield 84, 3) := by decide +kernel
theorem dX7_isBreach_12 : decode cX7_isBreach 12 = .ok (.if_icmp .ge 9, 3) := by decide +kernel
theorem dX7_isBreach_15 : decode cX7_isBreach 15 = .ok (.iload_n 1, 1) := by decide +kernel
theorem dX7_isBreach_16 : decode cX7_isBreach 16 = .ok (.bipush 40, 2) := by decide +kernel
theorem dX7_isBreach_18 : decode cX7_isBreach 18 = .ok (.if_icmp .lt 5, 3) := by decide +kernel
theorem dX7_isBreach_21 : decode cX7_isBreach 21 = .ok (.iconst 0, 1) := by decide +kernel
theorem dX7_isBreach_22 : decode cX7_isBreach 22 = .ok (.ireturn, 1) := by decide +kernel
theorem dX7_isBreach_23 : decode cX7_isBreach 23 = .ok (.aload_n 0, 1) := by decide +kernel
theorem dX7_isBreach_24 : decode cX7_isBreach 24 = .ok (.aload_n 0, 1) := by decide +kernel
theorem dX7_isBreach_25 : decode cX7_isBreach 25 = .ok (.getfield 21, 3) := by decide +kernel
theorem dX7_isBreach_28 : decode cX7_isBreach 28 = .ok (.getfield 87, 3) := by decide +kernel
theorem dX7_isBreach_31 : decode cX7_isBreach 31 = .ok (.iload_n 1, 1) := by decide +kernel
theorem dX7_isBreach_32 : decode cX7_isBreach 32 = .ok (.iaload, 1) := by decide +kernel
theorem dX7_isBreach_33 : decode cX7_isBreach 33 = .ok (.aload_n 0, 1) := by decide +kernel
theorem dX7_isBreach_34 : decode cX7_isBreach 34 = .ok (.getfield 21, 3) := by decide +kernel
theorem dX7_isBreach_37 : decode cX7_isBreach 37 = .ok (.getfield 90, 3) := by decide +kernel
theorem dX7_isBreach_40 : decode cX7_isBreach 40 = .ok (.iload_n 1, 1) := by decide +kernel
theorem dX7_isBreach_41 : decode cX7_isBreach 41 = .ok (.iaload, 1) := by decide +kernel
theorem dX7_isBreach_42 : decode cX7_isBreach 42 = .ok (.aload_n 0, 1) := by decide +kernel
theorem dX7_isBreach_43 : decode cX7_isBreach 43 = .ok (.getfield 21, 3) := by decide +kernel
theorem dX7_isBreach_46 : decode cX7_isBreach 46 = .ok (.getfield 93, 3) := by decide +kernel
theorem dX7_isBreach_49 : decode cX7_isBreach 49 = .ok (.iload_n 1, 1) := by decide +kernel
theorem dX7_isBreach_50 : decode cX7_isBreach 50 = .ok (.iaload, 1) := by decide +kernel
theorem dX7_isBreach_51 : decode cX7_isBreach 51 = .ok (.invokevirtual 76, 3) := by decide +kernel
theorem dX7_isBreach_54 : decode cX7_isBreach 54 = .ok (.ireturn, 1) := by decide +kernel
theorem dX7_finesOf_0 : decode cX7_finesOf 0 = .ok (.iconst 0, 1) := by decide +kernel
theorem dX7_finesOf_1 : decode cX7_finesOf 1 = .ok (.istore_n 2, 1) := by decide +kernel
theorem dX7_finesOf_2 : decode cX7_finesOf 2 = .ok (.iconst 0, 1) := by decide +kernel
theorem dX7_finesOf_3 : decode cX7_finesOf 3 = .ok (.istore_n 3, 1) := by decide +kernel
theorem dX7_finesOf_4 : decode cX7_finesOf 4 = .ok (.iload_n 3, 1) := by decide +kernel
theorem dX7_finesOf_5 : decode cX7_finesOf 5 = .ok (.aload_n 0, 1) := by decide +kernel
theorem dX7_finesOf_6 : decode cX7_finesOf 6 = .ok (.getfield 21, 3) := by decide +kernel
theorem dX7_finesOf_9 : decode cX7_finesOf 9 = .ok (.getfield 84, 3) := by decide +kernel
theorem dX7_finesOf_12 : decode cX7_finesOf 12 = .ok (.if_icmp .ge 48, 3) := by decide +kernel
theorem dX7_finesOf_15 : decode cX7_finesOf 15 = .ok (.iload_n 3, 1) := by decide +kernel
theorem dX7_finesOf_16 : decode cX7_finesOf 16 = .ok (.bipush 40, 2) := by decide +kernel
theorem dX7_finesOf_18 : decode cX7_finesOf 18 = .ok (.if_icmp .ge 42, 3) := by decide +kernel
theorem dX7_finesOf_21 : decode cX7_finesOf 21 = .ok (.aload_n 0, 1) := by decide +kernel
theorem dX7_finesOf_22 : decode cX7_finesOf 22 = .ok (.getfield 21, 3) := by decide +kernel
theorem dX7_finesOf_25 : decode cX7_finesOf 25 = .ok (.getfield 87, 3) := by decide +kernel
theorem dX7_finesOf_28 : decode cX7_finesOf 28 = .ok (.iload_n 3, 1) := by decide +kernel
theorem dX7_finesOf_29 : decode cX7_finesOf 29 = .ok (.iaload, 1) := by decide +kernel
theorem dX7_finesOf_30 : decode cX7_finesOf 30 = .ok (.iload_n 1, 1) := by decide +kernel
theorem dX7_finesOf_31 : decode cX7_finesOf 31 = .ok (.if_icmp .ne 23, 3) := by decide +kernel
theorem dX7_finesOf_34 : decode cX7_finesOf 34 = .ok (.aload_n 0, 1) := by decide +kernel
theorem dX7_finesOf_35 : decode cX7_finesOf 35 = .ok (.iload_n 3, 1) := by decide +kernel
theorem dX7_finesOf_36 : decode cX7_finesOf 36 = .ok (.invokevirtual 96, 3) := by decide +kernel
theorem dX7_finesOf_39 : decode cX7_finesOf 39 = .ok (.ifCond .eq 15, 3) := by decide +kernel
theorem dX7_finesOf_42 : decode cX7_finesOf 42 = .ok (.iload_n 2, 1) := by decide +kernel
theorem dX7_finesOf_43 : decode cX7_finesOf 43 = .ok (.aload_n 0, 1) := by decide +kernel
theorem dX7_finesOf_44 : decode cX7_finesOf 44 = .ok (.getfield 21, 3) := by decide +kernel
theorem dX7_finesOf_47 : decode cX7_finesOf 47 = .ok (.getfield 90, 3) := by decide +kernel
theorem dX7_finesOf_50 : decode cX7_finesOf 50 = .ok (.iload_n 3, 1) := by decide +kernel
theorem dX7_finesOf_51 : decode cX7_finesOf 51 = .ok (.iaload, 1) := by decide +kernel
theorem dX7_finesOf_52 : decode cX7_finesOf 52 = .ok (.iadd, 1) := by decide +kernel
theorem dX7_finesOf_53 : decode cX7_finesOf 53 = .ok (.istore_n 2, 1) := by decide +kernel
theorem dX7_finesOf_54 : decode cX7_finesOf 54 = .ok (.iinc 3 1, 3) := by decide +kernel
theorem dX7_finesOf_57 : decode cX7_finesOf 57 = .ok (.goto (-53), 3) := by decide +kernel
theorem dX7_finesOf_60 : decode cX7_finesOf 60 = .ok (.iload_n 2, 1) := by decide +kernel
theorem dX7_finesOf_61 : decode cX7_finesOf 61 = .ok (.ireturn, 1) := by decide +kernel
theorem dX7_spokenAs_0 : decode cX7_spokenAs 0 = .ok (.iload_n 2, 1) := by decide +kernel
theorem dX7_spokenAs_1 : decode cX7_spokenAs 1 = .ok (.istore_n 3, 1) := by decide +kernel
theorem dX7_spokenAs_2 : decode cX7_spokenAs 2 = .ok (.iload_n 3, 1) := by decide +kernel
theorem dX7_spokenAs_3 : decode cX7_spokenAs 3 = .ok (.ifCond .le 20, 3) := by decide +kernel
theorem dX7_spokenAs_6 : decode cX7_spokenAs 6 = .ok (.aload_n 0, 1) := by decide +kernel
theorem dX7_spokenAs_7 : decode cX7_spokenAs 7 = .ok (.iload_n 1, 1) := by decide +kernel
theorem dX7_spokenAs_8 : decode cX7_spokenAs 8 = .ok (.iload_n 3, 1) := by decide +kernel
theorem dX7_spokenAs_9 : decode cX7_spokenAs 9 = .ok (.invokevirtual 99, 3) := by decide +kernel
theorem dX7_spokenAs_12 : decode cX7_spokenAs 12 = .ok (.ifCond .ne 5, 3) := by decide +kernel
theorem dX7_spokenAs_15 : decode cX7_spokenAs 15 = .ok (.iload_n 3, 1) := by decide +kernel
theorem dX7_spokenAs_16 : decode cX7_spokenAs 16 = .ok (.ireturn, 1) := by decide +kernel
theorem dX7_spokenAs_17 : decode cX7_spokenAs 17 = .ok (.iinc 3 (-1), 3) := by decide +kernel
theorem dX7_spokenAs_20 : decode cX7_spokenAs 20 = .ok (.goto (-18), 3) := by decide +kernel
theorem dX7_spokenAs_23 : decode cX7_spokenAs 23 = .ok (.iconst 0, 1) := by decide +kernel
theorem dX7_spokenAs_24 : decode cX7_spokenAs 24 = .ok (.ireturn, 1) := by decide +kernel
theorem dX7_dateFrom_0 : decode cX7_dateFrom 0 = .ok (.aload_n 0, 1) := by decide +kernel
theorem dX7_dateFrom_1 : decode cX7_dateFrom 1 = .ok (.iload_n 1, 1) := by decide +kernel
theorem dX7_dateFrom_2 : decode cX7_dateFrom 2 = .ok (.iload_n 2, 1) := by decide +kernel
theorem dX7_dateFrom_3 : decode cX7_dateFrom 3 = .ok (.invokevirtual 66, 3) := by decide +kernel
theorem dX7_dateFrom_6 : decode cX7_dateFrom 6 = .ok (.istore 4, 2) := by decide +kernel
theorem dX7_dateFrom_8 : decode cX7_dateFrom 8 = .ok (.iload_n 3, 1) := by decide +kernel
theorem dX7_dateFrom_9 : decode cX7_dateFrom 9 = .ok (.istore 5, 2) := by decide +kernel
theorem dX7_dateFrom_11 : decode cX7_dateFrom 11 = .ok (.iconst 0, 1) := by decide +kernel
theorem dX7_dateFrom_12 : decode cX7_dateFrom 12 = .ok (.istore 6, 2) := by decide +kernel
theorem dX7_dateFrom_14 : decode cX7_dateFrom 14 = .ok (.iload 6, 2) := by decide +kernel
theorem dX7_dateFrom_16 : decode cX7_dateFrom 16 = .ok (.bipush 30, 2) := by decide +kernel
theorem dX7_dateFrom_18 : decode cX7_dateFrom 18 = .ok (.if_icmp .ge 34, 3) := by decide +kernel
theorem dX7_dateFrom_21 : decode cX7_dateFrom 21 = .ok (.aload_n 0, 1) := by decide +kernel
theorem dX7_dateFrom_22 : decode cX7_dateFrom 22 = .ok (.iload_n 1, 1) := by decide +kernel
theorem dX7_dateFrom_23 : decode cX7_dateFrom 23 = .ok (.iload 5, 2) := by decide +kernel
theorem dX7_dateFrom_25 : decode cX7_dateFrom 25 = .ok (.iload_n 2, 1) := by decide +kernel
theorem dX7_dateFrom_26 : decode cX7_dateFrom 26 = .ok (.iload 4, 2) := by decide +kernel
theorem dX7_dateFrom_28 : decode cX7_dateFrom 28 = .ok (.invokevirtual 69, 3) := by decide +kernel
theorem dX7_dateFrom_31 : decode cX7_dateFrom 31 = .ok (.ifCond .ne 6, 3) := by decide +kernel
theorem dX7_dateFrom_34 : decode cX7_dateFrom 34 = .ok (.iload 5, 2) := by decide +kernel
theorem dX7_dateFrom_36 : decode cX7_dateFrom 36 = .ok (.ireturn, 1) := by decide +kernel
theorem dX7_dateFrom_37 : decode cX7_dateFrom 37 = .ok (.iload 5, 2) := by decide +kernel
theorem dX7_dateFrom_39 : decode cX7_dateFrom 39 = .ok (.bipush 30, 2) := by decide +kernel
theorem dX7_dateFrom_41 : decode cX7_dateFrom 41 = .ok (.irem, 1) := by decide +kernel
theorem dX7_dateFrom_42 : decode cX7_dateFrom 42 = .ok (.iconst 1, 1) := by decide +kernel
theorem dX7_dateFrom_43 : decode cX7_dateFrom 43 = .ok (.iadd, 1) := by decide +kernel
theorem dX7_dateFrom_44 : decode cX7_dateFrom 44 = .ok (.istore 5, 2) := by decide +kernel
theorem dX7_dateFrom_46 : decode cX7_dateFrom 46 = .ok (.iinc 6 1, 3) := by decide +kernel
theorem dX7_dateFrom_49 : decode cX7_dateFrom 49 = .ok (.goto (-35), 3) := by decide +kernel
theorem dX7_dateFrom_52 : decode cX7_dateFrom 52 = .ok (.iconst (-1), 1) := by decide +kernel
theorem dX7_dateFrom_53 : decode cX7_dateFrom 53 = .ok (.ireturn, 1) := by decide +kernel
theorem dX7_dateBehind_0 : decode cX7_dateBehind 0 = .ok (.bipush 99, 2) := by decide +kernel
theorem dX7_dateBehind_2 : decode cX7_dateBehind 2 = .ok (.aload_n 0, 1) := by decide +kernel
theorem dX7_dateBehind_3 : decode cX7_dateBehind 3 = .ok (.getfield 21, 3) := by decide +kernel
theorem dX7_dateBehind_6 : decode cX7_dateBehind 6 = .ok (.getfield 73, 3) := by decide +kernel
theorem dX7_dateBehind_9 : decode cX7_dateBehind 9 = .ok (.iload_n 2, 1) := by decide +kernel
theorem dX7_dateBehind_10 : decode cX7_dateBehind 10 = .ok (.iadd, 1) := by decide +kernel
theorem dX7_dateBehind_11 : decode cX7_dateBehind 11 = .ok (.invokestatic 103, 3) := by decide +kernel
theorem dX7_dateBehind_14 : decode cX7_dateBehind 14 = .ok (.istore 4, 2) := by decide +kernel
theorem dX7_dateBehind_16 : decode cX7_dateBehind 16 = .ok (.aload_n 0, 1) := by decide +kernel
theorem dX7_dateBehind_17 : decode cX7_dateBehind 17 = .ok (.iload_n 1, 1) := by decide +kernel
theorem dX7_dateBehind_18 : decode cX7_dateBehind 18 = .ok (.iload 4, 2) := by decide +kernel
theorem dX7_dateBehind_20 : decode cX7_dateBehind 20 = .ok (.iload_n 3, 1) := by decide +kernel
theorem dX7_dateBehind_21 : decode cX7_dateBehind 21 = .ok (.bipush 30, 2) := by decide +kernel
theorem dX7_dateBehind_23 : decode cX7_dateBehind 23 = .ok (.irem, 1) := by decide +kernel
theorem dX7_dateBehind_24 : decode cX7_dateBehind 24 = .ok (.iconst 1, 1) := by decide +kernel
theorem dX7_dateBehind_25 : decode cX7_dateBehind 25 = .ok (.iadd, 1) := by decide +kernel
theorem dX7_dateBehind_26 : decode cX7_dateBehind 26 = .ok (.invokevirtual 108, 3) := by decide +kernel
theorem dX7_dateBehind_29 : decode cX7_dateBehind 29 = .ok (.ireturn, 1) := by decide +kernel
