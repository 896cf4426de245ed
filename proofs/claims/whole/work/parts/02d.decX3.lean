theorem dX3_init_0 : decode cX3_init 0 = .ok (.aload_n 0, 1) := by decide +kernel
theorem dX3_init_1 : decode cX3_init 1 = .ok (.invokespecial 3, 3) := by decide +kernel
theorem dX3_init_4 : decode cX3_init 4 = .ok (.aload_n 0, 1) := by decide +kernel
theorem dX3_init_5 : decode cX3_init 5 = .ok (.bipush 20, 2) := by decide +kernel
theorem dX3_init_7 : decode cX3_init 7 = .ok (.newarray .int, 2) := by decide +kernel
theorem dX3_init_9 : decode cX3_init 9 = .ok (.putfield 9, 3) := by decide +kernel
theorem dX3_init_12 : decode cX3_init 12 = .ok (.aload_n 0, 1) := by decide +kernel
theorem dX3_init_13 : decode cX3_init 13 = .ok (.bipush 20, 2) := by decide +kernel
theorem dX3_init_15 : decode cX3_init 15 = .ok (.newarray .int, 2) := by decide +kernel
theorem dX3_init_17 : decode cX3_init 17 = .ok (.putfield 15, 3) := by decide +kernel
theorem dX3_init_20 : decode cX3_init 20 = .ok (.aload_n 0, 1) := by decide +kernel
theorem dX3_init_21 : decode cX3_init 21 = .ok (.bipush 20, 2) := by decide +kernel
theorem dX3_init_23 : decode cX3_init 23 = .ok (.newarray .int, 2) := by decide +kernel
theorem dX3_init_25 : decode cX3_init 25 = .ok (.putfield 18, 3) := by decide +kernel
theorem dX3_init_28 : decode cX3_init 28 = .ok (.aload_n 0, 1) := by decide +kernel
theorem dX3_init_29 : decode cX3_init 29 = .ok (.bipush 40, 2) := by decide +kernel
theorem dX3_init_31 : decode cX3_init 31 = .ok (.newarray .int, 2) := by decide +kernel
theorem dX3_init_33 : decode cX3_init 33 = .ok (.putfield 21, 3) := by decide +kernel
theorem dX3_init_36 : decode cX3_init 36 = .ok (.aload_n 0, 1) := by decide +kernel
theorem dX3_init_37 : decode cX3_init 37 = .ok (.bipush 40, 2) := by decide +kernel
theorem dX3_init_39 : decode cX3_init 39 = .ok (.newarray .int, 2) := by decide +kernel
theorem dX3_init_41 : decode cX3_init 41 = .ok (.putfield 24, 3) := by decide +kernel
theorem dX3_init_44 : decode cX3_init 44 = .ok (.aload_n 0, 1) := by decide +kernel
theorem dX3_init_45 : decode cX3_init 45 = .ok (.bipush 40, 2) := by decide +kernel
theorem dX3_init_47 : decode cX3_init 47 = .ok (.newarray .int, 2) := by decide +kernel
theorem dX3_init_49 : decode cX3_init 49 = .ok (.putfield 27, 3) := by decide +kernel
theorem dX3_init_52 : decode cX3_init 52 = .ok (.return_, 1) := by decide +kernel
theorem dX3_clear_0 : decode cX3_clear 0 = .ok (.aload_n 0, 1) := by decide +kernel
theorem dX3_clear_1 : decode cX3_clear 1 = .ok (.iconst 0, 1) := by decide +kernel
theorem dX3_clear_2 : decode cX3_clear 2 = .ok (.putfield 30, 3) := by decide +kernel
theorem dX3_clear_5 : decode cX3_clear 5 = .ok (.aload_n 0, 1) := by decide +kernel
theorem dX3_clear_6 : decode cX3_clear 6 = .ok (.iconst 0, 1) := by decide +kernel
theorem dX3_clear_7 : decode cX3_clear 7 = .ok (.putfield 34, 3) := by decide +kernel
theorem dX3_clear_10 : decode cX3_clear 10 = .ok (.aload_n 0, 1) := by decide +kernel
theorem dX3_clear_11 : decode cX3_clear 11 = .ok (.iconst 0, 1) := by decide +kernel
theorem dX3_clear_12 : decode cX3_clear 12 = .ok (.putfield 37, 3) := by decide +kernel
theorem dX3_clear_15 : decode cX3_clear 15 = .ok (.return_, 1) := by decide +kernel
theorem dX3_copy_0 : decode cX3_copy 0 = .ok (.aload_n 0, 1) := by decide +kernel
theorem dX3_copy_1 : decode cX3_copy 1 = .ok (.aload_n 1, 1) := by decide +kernel
theorem dX3_copy_2 : decode cX3_copy 2 = .ok (.getfield 30, 3) := by decide +kernel
theorem dX3_copy_5 : decode cX3_copy 5 = .ok (.putfield 30, 3) := by decide +kernel
theorem dX3_copy_8 : decode cX3_copy 8 = .ok (.aload_n 0, 1) := by decide +kernel
theorem dX3_copy_9 : decode cX3_copy 9 = .ok (.aload_n 1, 1) := by decide +kernel
theorem dX3_copy_10 : decode cX3_copy 10 = .ok (.getfield 34, 3) := by decide +kernel
theorem dX3_copy_13 : decode cX3_copy 13 = .ok (.putfield 34, 3) := by decide +kernel
theorem dX3_copy_16 : decode cX3_copy 16 = .ok (.aload_n 0, 1) := by decide +kernel
theorem dX3_copy_17 : decode cX3_copy 17 = .ok (.aload_n 1, 1) := by decide +kernel
theorem dX3_copy_18 : decode cX3_copy 18 = .ok (.getfield 37, 3) := by decide +kernel
theorem dX3_copy_21 : decode cX3_copy 21 = .ok (.putfield 37, 3) := by decide +kernel
theorem dX3_copy_24 : decode cX3_copy 24 = .ok (.aload_n 1, 1) := by decide +kernel
theorem dX3_copy_25 : decode cX3_copy 25 = .ok (.getfield 9, 3) := by decide +kernel
theorem dX3_copy_28 : decode cX3_copy 28 = .ok (.iconst 0, 1) := by decide +kernel
theorem dX3_copy_29 : decode cX3_copy 29 = .ok (.aload_n 0, 1) := by decide +kernel
theorem dX3_copy_30 : decode cX3_copy 30 = .ok (.getfield 9, 3) := by decide +kernel
theorem dX3_copy_33 : decode cX3_copy 33 = .ok (.iconst 0, 1) := by decide +kernel
theorem dX3_copy_34 : decode cX3_copy 34 = .ok (.bipush 20, 2) := by decide +kernel
theorem dX3_copy_36 : decode cX3_copy 36 = .ok (.invokestatic 40, 3) := by decide +kernel
theorem dX3_copy_39 : decode cX3_copy 39 = .ok (.aload_n 1, 1) := by decide +kernel
theorem dX3_copy_40 : decode cX3_copy 40 = .ok (.getfield 15, 3) := by decide +kernel
theorem dX3_copy_43 : decode cX3_copy 43 = .ok (.iconst 0, 1) := by decide +kernel
theorem dX3_copy_44 : decode cX3_copy 44 = .ok (.aload_n 0, 1) := by decide +kernel
theorem dX3_copy_45 : decode cX3_copy 45 = .ok (.getfield 15, 3) := by decide +kernel
theorem dX3_copy_48 : decode cX3_copy 48 = .ok (.iconst 0, 1) := by decide +kernel
theorem dX3_copy_49 : decode cX3_copy 49 = .ok (.bipush 20, 2) := by decide +kernel
theorem dX3_copy_51 : decode cX3_copy 51 = .ok (.invokestatic 40, 3) := by decide +kernel
theorem dX3_copy_54 : decode cX3_copy 54 = .ok (.aload_n 1, 1) := by decide +kernel
theorem dX3_copy_55 : decode cX3_copy 55 = .ok (.getfield 18, 3) := by decide +kernel
theorem dX3_copy_58 : decode cX3_copy 58 = .ok (.iconst 0, 1) := by decide +kernel
theorem dX3_copy_59 : decode cX3_copy 59 = .ok (.aload_n 0, 1) := by decide +kernel
theorem dX3_copy_60 : decode cX3_copy 60 = .ok (.getfield 18, 3) := by decide +kernel
theorem dX3_copy_63 : decode cX3_copy 63 = .ok (.iconst 0, 1) := by decide +kernel
theorem dX3_copy_64 : decode cX3_copy 64 = .ok (.bipush 20, 2) := by decide +kernel
theorem dX3_copy_66 : decode cX3_copy 66 = .ok (.invokestatic 40, 3) := by decide +kernel
theorem dX3_copy_69 : decode cX3_copy 69 = .ok (.aload_n 1, 1) := by decide +kernel
theorem dX3_copy_70 : decode cX3_copy 70 = .ok (.getfield 21, 3) := by decide +kernel
theorem dX3_copy_73 : decode cX3_copy 73 = .ok (.iconst 0, 1) := by decide +kernel
theorem dX3_copy_74 : decode cX3_copy 74 = .ok (.aload_n 0, 1) := by decide +kernel
theorem dX3_copy_75 : decode cX3_copy 75 = .ok (.getfield 21, 3) := by decide +kernel
theorem dX3_copy_78 : decode cX3_copy 78 = .ok (.iconst 0, 1) := by decide +kernel
theorem dX3_copy_79 : decode cX3_copy 79 = .ok (.bipush 40, 2) := by decide +kernel
theorem dX3_copy_81 : decode cX3_copy 81 = .ok (.invokestatic 40, 3) := by decide +kernel
theorem dX3_copy_84 : decode cX3_copy 84 = .ok (.aload_n 1, 1) := by decide +kernel
theorem dX3_copy_85 : decode cX3_copy 85 = .ok (.getfield 24, 3) := by decide +kernel
theorem dX3_copy_88 : decode cX3_copy 88 = .ok (.iconst 0, 1) := by decide +kernel
theorem dX3_copy_89 : decode cX3_copy 89 = .ok (.aload_n 0, 1) := by decide +kernel
theorem dX3_copy_90 : decode cX3_copy 90 = .ok (.getfield 24, 3) := by decide +kernel
theorem dX3_copy_93 : decode cX3_copy 93 = .ok (.iconst 0, 1) := by decide +kernel
theorem dX3_copy_94 : decode cX3_copy 94 = .ok (.bipush 40, 2) := by decide +kernel
theorem dX3_copy_96 : decode cX3_copy 96 = .ok (.invokestatic 40, 3) := by decide +kernel
theorem dX3_copy_99 : decode cX3_copy 99 = .ok (.aload_n 1, 1) := by decide +kernel
theorem dX3_copy_100 : decode cX3_copy 100 = .ok (.getfield 27, 3) := by decide +kernel
theorem dX3_copy_103 : decode cX3_copy 103 = .ok (.iconst 0, 1) := by decide +kernel
theorem dX3_copy_104 : decode cX3_copy 104 = .ok (.aload_n 0, 1) := by decide +kernel
theorem dX3_copy_105 : decode cX3_copy 105 = .ok (.getfield 27, 3) := by decide +kernel
theorem dX3_copy_108 : decode cX3_copy 108 = .ok (.iconst 0, 1) := by decide +kernel
theorem dX3_copy_109 : decode cX3_copy 109 = .ok (.bipush 40, 2) := by decide +kernel
theorem dX3_copy_111 : decode cX3_copy 111 = .ok (.invokestatic 40, 3) := by decide +kernel
theorem dX3_copy_114 : decode cX3_copy 114 = .ok (.return_, 1) := by decide +kernel
theorem dX3_addChange_0 : decode cX3_addChange 0 = .ok (.aload_n 0, 1) := by decide +kernel
theorem dX3_addChange_1 : decode cX3_addChange 1 = .ok (.getfield 34, 3) := by decide +kernel
theorem dX3_addChange_4 : decode cX3_addChange 4 = .ok (.ifCond .lt 12, 3) := by decide +kernel
theorem dX3_addChange_7 : decode cX3_addChange 7 = .ok (.aload_n 0, 1) := by decide +kernel
theorem dX3_addChange_8 : decode cX3_addChange 8 = .ok (.getfield 34, 3) := by decide +kernel
theorem dX3_addChange_11 : decode cX3_addChange 11 = .ok (.bipush 20, 2) := by decide +kernel
theorem dX3_addChange_13 : decode cX3_addChange 13 = .ok (.if_icmp .lt 5, 3) := by decide +kernel
theorem dX3_addChange_16 : decode cX3_addChange 16 = .ok (.iconst 0, 1) := by decide +kernel
theorem dX3_addChange_17 : decode cX3_addChange 17 = .ok (.ireturn, 1) := by decide +kernel
theorem dX3_addChange_18 : decode cX3_addChange 18 = .ok (.aload_n 0, 1) := by decide +kernel
theorem dX3_addChange_19 : decode cX3_addChange 19 = .ok (.getfield 9, 3) := by decide +kernel
theorem dX3_addChange_22 : decode cX3_addChange 22 = .ok (.aload_n 0, 1) := by decide +kernel
theorem dX3_addChange_23 : decode cX3_addChange 23 = .ok (.getfield 34, 3) := by decide +kernel
theorem dX3_addChange_26 : decode cX3_addChange 26 = .ok (.iload_n 1, 1) := by decide +kernel
theorem dX3_addChange_27 : decode cX3_addChange 27 = .ok (.iastore, 1) := by decide +kernel
theorem dX3_addChange_28 : decode cX3_addChange 28 = .ok (.aload_n 0, 1) := by decide +kernel
theorem dX3_addChange_29 : decode cX3_addChange 29 = .ok (.getfield 15, 3) := by decide +kernel
theorem dX3_addChange_32 : decode cX3_addChange 32 = .ok (.aload_n 0, 1) := by decide +kernel
theorem dX3_addChange_33 : decode cX3_addChange 33 = .ok (.getfield 34, 3) := by decide +kernel
theorem dX3_addChange_36 : decode cX3_addChange 36 = .ok (.iload_n 2, 1) := by decide +kernel
theorem dX3_addChange_37 : decode cX3_addChange 37 = .ok (.iastore, 1) := by decide +kernel
theorem dX3_addChange_38 : decode cX3_addChange 38 = .ok (.aload_n 0, 1) := by decide +kernel
theorem dX3_addChange_39 : decode cX3_addChange 39 = .ok (.getfield 18, 3) := by decide +kernel
theorem dX3_addChange_42 : decode cX3_addChange 42 = .ok (.aload_n 0, 1) := by decide +kernel
theorem dX3_addChange_43 : decode cX3_addChange 43 = .ok (.getfield 34, 3) := by decide +kernel
theorem dX3_addChange_46 : decode cX3_addChange 46 = .ok (.iload_n 3, 1) := by decide +kernel
theorem dX3_addChange_47 : decode cX3_addChange 47 = .ok (.iastore, 1) := by decide +kernel
theorem dX3_addChange_48 : decode cX3_addChange 48 = .ok (.aload_n 0, 1) := by decide +kernel
theorem dX3_addChange_49 : decode cX3_addChange 49 = .ok (.dup, 1) := by decide +kernel
theorem dX3_addChange_50 : decode cX3_addChange 50 = .ok (.getfield 34, 3) := by decide +kernel
theorem dX3_addChange_53 : decode cX3_addChange 53 = .ok (.iconst 1, 1) := by decide +kernel
theorem dX3_addChange_54 : decode cX3_addChange 54 = .ok (.iadd, 1) := by decide +kernel
theorem dX3_addChange_55 : decode cX3_addChange 55 = .ok (.putfield 34, 3) := by decide +kernel
theorem dX3_addChange_58 : decode cX3_addChange 58 = .ok (.iconst 1, 1) := by decide +kernel
theorem dX3_addChange_59 : decode cX3_addChange 59 = .ok (.ireturn, 1) := by decide +kernel
theorem dX3_addSaid_0 : decode cX3_addSaid 0 = .ok (.aload_n 0, 1) := by decide +kernel
theorem dX3_addSaid_1 : decode cX3_addSaid 1 = .ok (.getfield 37, 3) := by decide +kernel
theorem dX3_addSaid_4 : decode cX3_addSaid 4 = .ok (.ifCond .lt 12, 3) := by decide +kernel
theorem dX3_addSaid_7 : decode cX3_addSaid 7 = .ok (.aload_n 0, 1) := by decide +kernel
theorem dX3_addSaid_8 : decode cX3_addSaid 8 = .ok (.getfield 37, 3) := by decide +kernel
theorem dX3_addSaid_11 : decode cX3_addSaid 11 = .ok (.bipush 40, 2) := by decide +kernel
theorem dX3_addSaid_13 : decode cX3_addSaid 13 = .ok (.if_icmp .lt 5, 3) := by decide +kernel
theorem dX3_addSaid_16 : decode cX3_addSaid 16 = .ok (.iconst 0, 1) := by decide +kernel
theorem dX3_addSaid_17 : decode cX3_addSaid 17 = .ok (.ireturn, 1) := by decide +kernel
theorem dX3_addSaid_18 : decode cX3_addSaid 18 = .ok (.aload_n 0, 1) := by decide +kernel
theorem dX3_addSaid_19 : decode cX3_addSaid 19 = .ok (.getfield 21, 3) := by decide +kernel
theorem dX3_addSaid_22 : decode cX3_addSaid 22 = .ok (.aload_n 0, 1) := by decide +kernel
theorem dX3_addSaid_23 : decode cX3_addSaid 23 = .ok (.getfield 37, 3) := by decide +kernel
theorem dX3_addSaid_26 : decode cX3_addSaid 26 = .ok (.iload_n 1, 1) := by decide +kernel
theorem dX3_addSaid_27 : decode cX3_addSaid 27 = .ok (.iastore, 1) := by decide +kernel
theorem dX3_addSaid_28 : decode cX3_addSaid 28 = .ok (.aload_n 0, 1) := by decide +kernel
theorem dX3_addSaid_29 : decode cX3_addSaid 29 = .ok (.getfield 24, 3) := by decide +kernel
theorem dX3_addSaid_32 : decode cX3_addSaid 32 = .ok (.aload_n 0, 1) := by decide +kernel
theorem dX3_addSaid_33 : decode cX3_addSaid 33 = .ok (.getfield 37, 3) := by decide +kernel
theorem dX3_addSaid_36 : decode cX3_addSaid 36 = .ok (.iload_n 2, 1) := by decide +kernel
theorem dX3_addSaid_37 : decode cX3_addSaid 37 = .ok (.iastore, 1) := by decide +kernel
theorem dX3_addSaid_38 : decode cX3_addSaid 38 = .ok (.aload_n 0, 1) := by decide +kernel
theorem dX3_addSaid_39 : decode cX3_addSaid 39 = .ok (.getfield 27, 3) := by decide +kernel
theorem dX3_addSaid_42 : decode cX3_addSaid 42 = .ok (.aload_n 0, 1) := by decide +kernel
theorem dX3_addSaid_43 : decode cX3_addSaid 43 = .ok (.getfield 37, 3) := by decide +kernel
theorem dX3_addSaid_46 : decode cX3_addSaid 46 = .ok (.aload_n 0, 1) := by decide +kernel
theorem dX3_addSaid_47 : decode cX3_addSaid 47 = .ok (.getfield 30, 3) := by decide +kernel
theorem dX3_addSaid_50 : decode cX3_addSaid 50 = .ok (.iastore, 1) := by decide +kernel
theorem dX3_addSaid_51 : decode cX3_addSaid 51 = .ok (.aload_n 0, 1) := by decide +kernel
theorem dX3_addSaid_52 : decode cX3_addSaid 52 = .ok (.dup, 1) := by decide +kernel
theorem dX3_addSaid_53 : decode cX3_addSaid 53 = .ok (.getfield 37, 3) := by decide +kernel
theorem dX3_addSaid_56 : decode cX3_addSaid 56 = .ok (.iconst 1, 1) := by decide +kernel
theorem dX3_addSaid_57 : decode cX3_addSaid 57 = .ok (.iadd, 1) := by decide +kernel
theorem dX3_addSaid_58 : decode cX3_addSaid 58 = .ok (.putfield 37, 3) := by decide +kernel
theorem dX3_addSaid_61 : decode cX3_addSaid 61 = .ok (.iconst 1, 1) := by decide +kernel
theorem dX3_addSaid_62 : decode cX3_addSaid 62 = .ok (.ireturn, 1) := by decide +kernel
theorem dX3_tabooOn_0 : decode cX3_tabooOn 0 = .ok (.iconst (-1), 1) := by decide +kernel
theorem dX3_tabooOn_1 : decode cX3_tabooOn 1 = .ok (.istore 4, 2) := by decide +kernel
theorem dX3_tabooOn_3 : decode cX3_tabooOn 3 = .ok (.iload_n 3, 1) := by decide +kernel
theorem dX3_tabooOn_4 : decode cX3_tabooOn 4 = .ok (.istore 5, 2) := by decide +kernel
theorem dX3_tabooOn_6 : decode cX3_tabooOn 6 = .ok (.iconst 0, 1) := by decide +kernel
theorem dX3_tabooOn_7 : decode cX3_tabooOn 7 = .ok (.istore 6, 2) := by decide +kernel
theorem dX3_tabooOn_9 : decode cX3_tabooOn 9 = .ok (.iload 6, 2) := by decide +kernel
theorem dX3_tabooOn_11 : decode cX3_tabooOn 11 = .ok (.aload_n 0, 1) := by decide +kernel
theorem dX3_tabooOn_12 : decode cX3_tabooOn 12 = .ok (.getfield 34, 3) := by decide +kernel
theorem dX3_tabooOn_15 : decode cX3_tabooOn 15 = .ok (.if_icmp .ge 68, 3) := by decide +kernel
theorem dX3_tabooOn_18 : decode cX3_tabooOn 18 = .ok (.iload 6, 2) := by decide +kernel
theorem dX3_tabooOn_20 : decode cX3_tabooOn 20 = .ok (.bipush 20, 2) := by decide +kernel
theorem dX3_tabooOn_22 : decode cX3_tabooOn 22 = .ok (.if_icmp .ge 61, 3) := by decide +kernel
theorem dX3_tabooOn_25 : decode cX3_tabooOn 25 = .ok (.aload_n 0, 1) := by decide +kernel
theorem dX3_tabooOn_26 : decode cX3_tabooOn 26 = .ok (.getfield 9, 3) := by decide +kernel
theorem dX3_tabooOn_29 : decode cX3_tabooOn 29 = .ok (.iload 6, 2) := by decide +kernel
theorem dX3_tabooOn_31 : decode cX3_tabooOn 31 = .ok (.iaload, 1) := by decide +kernel
theorem dX3_tabooOn_32 : decode cX3_tabooOn 32 = .ok (.iload_n 1, 1) := by decide +kernel
theorem dX3_tabooOn_33 : decode cX3_tabooOn 33 = .ok (.if_icmp .ne 44, 3) := by decide +kernel
theorem dX3_tabooOn_36 : decode cX3_tabooOn 36 = .ok (.aload_n 0, 1) := by decide +kernel
theorem dX3_tabooOn_37 : decode cX3_tabooOn 37 = .ok (.getfield 15, 3) := by decide +kernel
theorem dX3_tabooOn_40 : decode cX3_tabooOn 40 = .ok (.iload 6, 2) := by decide +kernel
theorem dX3_tabooOn_42 : decode cX3_tabooOn 42 = .ok (.iaload, 1) := by decide +kernel
theorem dX3_tabooOn_43 : decode cX3_tabooOn 43 = .ok (.iload_n 2, 1) := by decide +kernel
theorem dX3_tabooOn_44 : decode cX3_tabooOn 44 = .ok (.if_icmp .gt 33, 3) := by decide +kernel
theorem dX3_tabooOn_47 : decode cX3_tabooOn 47 = .ok (.aload_n 0, 1) := by decide +kernel
theorem dX3_tabooOn_48 : decode cX3_tabooOn 48 = .ok (.getfield 15, 3) := by decide +kernel
theorem dX3_tabooOn_51 : decode cX3_tabooOn 51 = .ok (.iload 6, 2) := by decide +kernel
theorem dX3_tabooOn_53 : decode cX3_tabooOn 53 = .ok (.iaload, 1) := by decide +kernel
theorem dX3_tabooOn_54 : decode cX3_tabooOn 54 = .ok (.iload 4, 2) := by decide +kernel
theorem dX3_tabooOn_56 : decode cX3_tabooOn 56 = .ok (.if_icmp .lt 21, 3) := by decide +kernel
theorem dX3_tabooOn_59 : decode cX3_tabooOn 59 = .ok (.aload_n 0, 1) := by decide +kernel
theorem dX3_tabooOn_60 : decode cX3_tabooOn 60 = .ok (.getfield 15, 3) := by decide +kernel
theorem dX3_tabooOn_63 : decode cX3_tabooOn 63 = .ok (.iload 6, 2) := by decide +kernel
theorem dX3_tabooOn_65 : decode cX3_tabooOn 65 = .ok (.iaload, 1) := by decide +kernel
theorem dX3_tabooOn_66 : decode cX3_tabooOn 66 = .ok (.istore 4, 2) := by decide +kernel
theorem dX3_tabooOn_68 : decode cX3_tabooOn 68 = .ok (.aload_n 0, 1) := by decide +kernel
theorem dX3_tabooOn_69 : decode cX3_tabooOn 69 = .ok (.getfield 18, 3) := by decide +kernel
theorem dX3_tabooOn_72 : decode cX3_tabooOn 72 = .ok (.iload 6, 2) := by decide +kernel
theorem dX3_tabooOn_74 : decode cX3_tabooOn 74 = .ok (.iaload, 1) := by decide +kernel
theorem dX3_tabooOn_75 : decode cX3_tabooOn 75 = .ok (.istore 5, 2) := by decide +kernel
theorem dX3_tabooOn_77 : decode cX3_tabooOn 77 = .ok (.iinc 6 1, 3) := by decide +kernel
theorem dX3_tabooOn_80 : decode cX3_tabooOn 80 = .ok (.goto (-71), 3) := by decide +kernel
theorem dX3_tabooOn_83 : decode cX3_tabooOn 83 = .ok (.iload 5, 2) := by decide +kernel
theorem dX3_tabooOn_85 : decode cX3_tabooOn 85 = .ok (.ireturn, 1) := by decide +kernel
theorem dX3_drownings_0 : decode cX3_drownings 0 = .ok (.aload_n 0, 1) := by decide +kernel
theorem dX3_drownings_1 : decode cX3_drownings 1 = .ok (.lload 4, 2) := by decide +kernel
theorem dX3_drownings_3 : decode cX3_drownings 3 = .ok (.putfield 46, 3) := by decide +kernel
theorem dX3_drownings_6 : decode cX3_drownings 6 = .ok (.iconst 0, 1) := by decide +kernel
theorem dX3_drownings_7 : decode cX3_drownings 7 = .ok (.istore 6, 2) := by decide +kernel
theorem dX3_drownings_9 : decode cX3_drownings 9 = .ok (.iload 6, 2) := by decide +kernel
theorem dX3_drownings_11 : decode cX3_drownings 11 = .ok (.iload_n 2, 1) := by decide +kernel
theorem dX3_drownings_12 : decode cX3_drownings 12 = .ok (.if_icmp .ge 77, 3) := by decide +kernel
theorem dX3_drownings_15 : decode cX3_drownings 15 = .ok (.aload_n 0, 1) := by decide +kernel
theorem dX3_drownings_16 : decode cX3_drownings 16 = .ok (.bipush 99, 2) := by decide +kernel
theorem dX3_drownings_18 : decode cX3_drownings 18 = .ok (.aload_n 0, 1) := by decide +kernel
theorem dX3_drownings_19 : decode cX3_drownings 19 = .ok (.getfield 30, 3) := by decide +kernel
theorem dX3_drownings_22 : decode cX3_drownings 22 = .ok (.iconst 1, 1) := by decide +kernel
theorem dX3_drownings_23 : decode cX3_drownings 23 = .ok (.iadd, 1) := by decide +kernel
theorem dX3_drownings_24 : decode cX3_drownings 24 = .ok (.invokestatic 50, 3) := by decide +kernel
theorem dX3_drownings_27 : decode cX3_drownings 27 = .ok (.putfield 30, 3) := by decide +kernel
theorem dX3_drownings_30 : decode cX3_drownings 30 = .ok (.iconst 0, 1) := by decide +kernel
theorem dX3_drownings_31 : decode cX3_drownings 31 = .ok (.istore 7, 2) := by decide +kernel
theorem dX3_drownings_33 : decode cX3_drownings 33 = .ok (.iload 7, 2) := by decide +kernel
theorem dX3_drownings_35 : decode cX3_drownings 35 = .ok (.iload_n 1, 1) := by decide +kernel
theorem dX3_drownings_36 : decode cX3_drownings 36 = .ok (.if_icmp .ge 47, 3) := by decide +kernel
theorem dX3_drownings_39 : decode cX3_drownings 39 = .ok (.aload_n 0, 1) := by decide +kernel
theorem dX3_drownings_40 : decode cX3_drownings 40 = .ok (.getfield 34, 3) := by decide +kernel
theorem dX3_drownings_43 : decode cX3_drownings 43 = .ok (.bipush 20, 2) := by decide +kernel
theorem dX3_drownings_45 : decode cX3_drownings 45 = .ok (.if_icmp .ge 32, 3) := by decide +kernel
theorem dX3_drownings_48 : decode cX3_drownings 48 = .ok (.aload_n 0, 1) := by decide +kernel
theorem dX3_drownings_49 : decode cX3_drownings 49 = .ok (.bipush 100, 2) := by decide +kernel
theorem dX3_drownings_51 : decode cX3_drownings 51 = .ok (.invokevirtual 56, 3) := by decide +kernel
theorem dX3_drownings_54 : decode cX3_drownings 54 = .ok (.iload_n 3, 1) := by decide +kernel
theorem dX3_drownings_55 : decode cX3_drownings 55 = .ok (.if_icmp .ge 22, 3) := by decide +kernel
theorem dX3_drownings_58 : decode cX3_drownings 58 = .ok (.aload_n 0, 1) := by decide +kernel
theorem dX3_drownings_59 : decode cX3_drownings 59 = .ok (.iload 7, 2) := by decide +kernel
theorem dX3_drownings_61 : decode cX3_drownings 61 = .ok (.aload_n 0, 1) := by decide +kernel
theorem dX3_drownings_62 : decode cX3_drownings 62 = .ok (.getfield 30, 3) := by decide +kernel
theorem dX3_drownings_65 : decode cX3_drownings 65 = .ok (.iconst 1, 1) := by decide +kernel
theorem dX3_drownings_66 : decode cX3_drownings 66 = .ok (.aload_n 0, 1) := by decide +kernel
theorem dX3_drownings_67 : decode cX3_drownings 67 = .ok (.bipush 12, 2) := by decide +kernel
theorem dX3_drownings_69 : decode cX3_drownings 69 = .ok (.invokevirtual 56, 3) := by decide +kernel
theorem dX3_drownings_72 : decode cX3_drownings 72 = .ok (.iadd, 1) := by decide +kernel
theorem dX3_drownings_73 : decode cX3_drownings 73 = .ok (.invokevirtual 60, 3) := by decide +kernel
theorem dX3_drownings_76 : decode cX3_drownings 76 = .ok (.pop, 1) := by decide +kernel
theorem dX3_drownings_77 : decode cX3_drownings 77 = .ok (.iinc 7 1, 3) := by decide +kernel
theorem dX3_drownings_80 : decode cX3_drownings 80 = .ok (.goto (-47), 3) := by decide +kernel
theorem dX3_drownings_83 : decode cX3_drownings 83 = .ok (.iinc 6 1, 3) := by decide +kernel
theorem dX3_drownings_86 : decode cX3_drownings 86 = .ok (.goto (-77), 3) := by decide +kernel
theorem dX3_drownings_89 : decode cX3_drownings 89 = .ok (.return_, 1) := by decide +kernel
theorem dX3_draw_0 : decode cX3_draw 0 = .ok (.aload_n 0, 1) := by decide +kernel
theorem dX3_draw_1 : decode cX3_draw 1 = .ok (.aload_n 0, 1) := by decide +kernel
theorem dX3_draw_2 : decode cX3_draw 2 = .ok (.getfield 46, 3) := by decide +kernel
theorem dX3_draw_5 : decode cX3_draw 5 = .ok (.ldc2_w 64, 3) := by decide +kernel
theorem dX3_draw_8 : decode cX3_draw 8 = .ok (.lmul, 1) := by decide +kernel
theorem dX3_draw_9 : decode cX3_draw 9 = .ok (.ldc2_w 66, 3) := by decide +kernel
theorem dX3_draw_12 : decode cX3_draw 12 = .ok (.ladd, 1) := by decide +kernel
theorem dX3_draw_13 : decode cX3_draw 13 = .ok (.putfield 46, 3) := by decide +kernel
theorem dX3_draw_16 : decode cX3_draw 16 = .ok (.iload_n 1, 1) := by decide +kernel
theorem dX3_draw_17 : decode cX3_draw 17 = .ok (.ifCond .le 17, 3) := by decide +kernel
theorem dX3_draw_20 : decode cX3_draw 20 = .ok (.aload_n 0, 1) := by decide +kernel
theorem dX3_draw_21 : decode cX3_draw 21 = .ok (.getfield 46, 3) := by decide +kernel
theorem dX3_draw_24 : decode cX3_draw 24 = .ok (.bipush 33, 2) := by decide +kernel
theorem dX3_draw_26 : decode cX3_draw 26 = .ok (.lushr, 1) := by decide +kernel
theorem dX3_draw_27 : decode cX3_draw 27 = .ok (.iload_n 1, 1) := by decide +kernel
theorem dX3_draw_28 : decode cX3_draw 28 = .ok (.i2l, 1) := by decide +kernel
theorem dX3_draw_29 : decode cX3_draw 29 = .ok (.lrem, 1) := by decide +kernel
theorem dX3_draw_30 : decode cX3_draw 30 = .ok (.l2i, 1) := by decide +kernel
theorem dX3_draw_31 : decode cX3_draw 31 = .ok (.goto 4, 3) := by decide +kernel
theorem dX3_draw_34 : decode cX3_draw 34 = .ok (.iconst 0, 1) := by decide +kernel
theorem dX3_draw_35 : decode cX3_draw 35 = .ok (.ireturn, 1) := by decide +kernel
