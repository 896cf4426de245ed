theorem dX8_safe_29 : decode cX8_safe 29 = .ok (.getfield 190, 3) := by decide +kernel
theorem dX8_safe_32 : decode cX8_safe 32 = .ok (.getfield 193, 3) := by decide +kernel
theorem dX8_safe_35 : decode cX8_safe 35 = .ok (.iload_n 2, 1) := by decide +kernel
theorem dX8_safe_36 : decode cX8_safe 36 = .ok (.iadd, 1) := by decide +kernel
theorem dX8_safe_37 : decode cX8_safe 37 = .ok (.invokestatic 261, 3) := by decide +kernel
theorem dX8_safe_40 : decode cX8_safe 40 = .ok (.istore_n 3, 1) := by decide +kernel
theorem dX8_safe_41 : decode cX8_safe 41 = .ok (.iconst 1, 1) := by decide +kernel
theorem dX8_safe_42 : decode cX8_safe 42 = .ok (.istore 4, 2) := by decide +kernel
theorem dX8_safe_44 : decode cX8_safe 44 = .ok (.iload 4, 2) := by decide +kernel
theorem dX8_safe_46 : decode cX8_safe 46 = .ok (.sipush 999, 3) := by decide +kernel
theorem dX8_safe_49 : decode cX8_safe 49 = .ok (.if_icmp .gt 26, 3) := by decide +kernel
theorem dX8_safe_52 : decode cX8_safe 52 = .ok (.aload_n 0, 1) := by decide +kernel
theorem dX8_safe_53 : decode cX8_safe 53 = .ok (.getfield 35, 3) := by decide +kernel
theorem dX8_safe_56 : decode cX8_safe 56 = .ok (.iload_n 1, 1) := by decide +kernel
theorem dX8_safe_57 : decode cX8_safe 57 = .ok (.iload 4, 2) := by decide +kernel
theorem dX8_safe_59 : decode cX8_safe 59 = .ok (.iload_n 3, 1) := by decide +kernel
theorem dX8_safe_60 : decode cX8_safe 60 = .ok (.invokevirtual 266, 3) := by decide +kernel
theorem dX8_safe_63 : decode cX8_safe 63 = .ok (.ifCond .eq 6, 3) := by decide +kernel
theorem dX8_safe_66 : decode cX8_safe 66 = .ok (.iload 4, 2) := by decide +kernel
theorem dX8_safe_68 : decode cX8_safe 68 = .ok (.ireturn, 1) := by decide +kernel
theorem dX8_safe_69 : decode cX8_safe 69 = .ok (.iinc 4 1, 3) := by decide +kernel
theorem dX8_safe_72 : decode cX8_safe 72 = .ok (.goto (-28), 3) := by decide +kernel
theorem dX8_safe_75 : decode cX8_safe 75 = .ok (.iconst (-1), 1) := by decide +kernel
theorem dX8_safe_76 : decode cX8_safe 76 = .ok (.ireturn, 1) := by decide +kernel
theorem dX8_game_0 : decode cX8_game 0 = .ok (.aload_n 0, 1) := by decide +kernel
theorem dX8_game_1 : decode cX8_game 1 = .ok (.getfield 35, 3) := by decide +kernel
theorem dX8_game_4 : decode cX8_game 4 = .ok (.iload_n 1, 1) := by decide +kernel
theorem dX8_game_5 : decode cX8_game 5 = .ok (.invokevirtual 114, 3) := by decide +kernel
theorem dX8_game_8 : decode cX8_game 8 = .ok (.ifCond .eq 26, 3) := by decide +kernel
theorem dX8_game_11 : decode cX8_game 11 = .ok (.iload_n 2, 1) := by decide +kernel
theorem dX8_game_12 : decode cX8_game 12 = .ok (.iconst 1, 1) := by decide +kernel
theorem dX8_game_13 : decode cX8_game 13 = .ok (.if_icmp .lt 21, 3) := by decide +kernel
theorem dX8_game_16 : decode cX8_game 16 = .ok (.iload_n 2, 1) := by decide +kernel
theorem dX8_game_17 : decode cX8_game 17 = .ok (.bipush 9, 2) := by decide +kernel
theorem dX8_game_19 : decode cX8_game 19 = .ok (.if_icmp .gt 15, 3) := by decide +kernel
theorem dX8_game_22 : decode cX8_game 22 = .ok (.iload_n 3, 1) := by decide +kernel
theorem dX8_game_23 : decode cX8_game 23 = .ok (.iconst 1, 1) := by decide +kernel
theorem dX8_game_24 : decode cX8_game 24 = .ok (.if_icmp .lt 10, 3) := by decide +kernel
theorem dX8_game_27 : decode cX8_game 27 = .ok (.iload_n 3, 1) := by decide +kernel
theorem dX8_game_28 : decode cX8_game 28 = .ok (.sipush 200, 3) := by decide +kernel
theorem dX8_game_31 : decode cX8_game 31 = .ok (.if_icmp .le 6, 3) := by decide +kernel
theorem dX8_game_34 : decode cX8_game 34 = .ok (.ldc 228, 2) := by decide +kernel
theorem dX8_game_36 : decode cX8_game 36 = .ok (.ireturn, 1) := by decide +kernel
theorem dX8_game_37 : decode cX8_game 37 = .ok (.iload 4, 2) := by decide +kernel
theorem dX8_game_39 : decode cX8_game 39 = .ok (.ifCond .lt 20, 3) := by decide +kernel
theorem dX8_game_42 : decode cX8_game 42 = .ok (.iload 4, 2) := by decide +kernel
theorem dX8_game_44 : decode cX8_game 44 = .ok (.iload_n 3, 1) := by decide +kernel
theorem dX8_game_45 : decode cX8_game 45 = .ok (.if_icmp .ge 14, 3) := by decide +kernel
theorem dX8_game_48 : decode cX8_game 48 = .ok (.iload 5, 2) := by decide +kernel
theorem dX8_game_50 : decode cX8_game 50 = .ok (.ifCond .lt 9, 3) := by decide +kernel
theorem dX8_game_53 : decode cX8_game 53 = .ok (.iload 5, 2) := by decide +kernel
theorem dX8_game_55 : decode cX8_game 55 = .ok (.iconst 1, 1) := by decide +kernel
theorem dX8_game_56 : decode cX8_game 56 = .ok (.if_icmp .le 6, 3) := by decide +kernel
theorem dX8_game_59 : decode cX8_game 59 = .ok (.ldc 228, 2) := by decide +kernel
theorem dX8_game_61 : decode cX8_game 61 = .ok (.ireturn, 1) := by decide +kernel
theorem dX8_game_62 : decode cX8_game 62 = .ok (.aload_n 0, 1) := by decide +kernel
theorem dX8_game_63 : decode cX8_game 63 = .ok (.getfield 72, 3) := by decide +kernel
theorem dX8_game_66 : decode cX8_game 66 = .ok (.iload_n 3, 1) := by decide +kernel
theorem dX8_game_67 : decode cX8_game 67 = .ok (.iconst 0, 1) := by decide +kernel
theorem dX8_game_68 : decode cX8_game 68 = .ok (.bastore, 1) := by decide +kernel
theorem dX8_game_69 : decode cX8_game 69 = .ok (.iconst (-1), 1) := by decide +kernel
theorem dX8_game_70 : decode cX8_game 70 = .ok (.istore 6, 2) := by decide +kernel
theorem dX8_game_72 : decode cX8_game 72 = .ok (.iload_n 3, 1) := by decide +kernel
theorem dX8_game_73 : decode cX8_game 73 = .ok (.iconst 1, 1) := by decide +kernel
theorem dX8_game_74 : decode cX8_game 74 = .ok (.isub, 1) := by decide +kernel
theorem dX8_game_75 : decode cX8_game 75 = .ok (.istore 7, 2) := by decide +kernel
theorem dX8_game_77 : decode cX8_game 77 = .ok (.iload 7, 2) := by decide +kernel
theorem dX8_game_79 : decode cX8_game 79 = .ok (.iload 4, 2) := by decide +kernel
theorem dX8_game_81 : decode cX8_game 81 = .ok (.if_icmp .lt 38, 3) := by decide +kernel
theorem dX8_game_84 : decode cX8_game 84 = .ok (.aload_n 0, 1) := by decide +kernel
theorem dX8_game_85 : decode cX8_game 85 = .ok (.iload_n 1, 1) := by decide +kernel
theorem dX8_game_86 : decode cX8_game 86 = .ok (.iload_n 2, 1) := by decide +kernel
theorem dX8_game_87 : decode cX8_game 87 = .ok (.iload_n 3, 1) := by decide +kernel
theorem dX8_game_88 : decode cX8_game 88 = .ok (.iload 7, 2) := by decide +kernel
theorem dX8_game_90 : decode cX8_game 90 = .ok (.invokevirtual 269, 3) := by decide +kernel
theorem dX8_game_93 : decode cX8_game 93 = .ok (.istore 6, 2) := by decide +kernel
theorem dX8_game_95 : decode cX8_game 95 = .ok (.aload_n 0, 1) := by decide +kernel
theorem dX8_game_96 : decode cX8_game 96 = .ok (.getfield 72, 3) := by decide +kernel
theorem dX8_game_99 : decode cX8_game 99 = .ok (.iload 7, 2) := by decide +kernel
theorem dX8_game_101 : decode cX8_game 101 = .ok (.iload 6, 2) := by decide +kernel
theorem dX8_game_103 : decode cX8_game 103 = .ok (.iconst (-1), 1) := by decide +kernel
theorem dX8_game_104 : decode cX8_game 104 = .ok (.if_icmp .eq 7, 3) := by decide +kernel
theorem dX8_game_107 : decode cX8_game 107 = .ok (.iconst 1, 1) := by decide +kernel
theorem dX8_game_108 : decode cX8_game 108 = .ok (.goto 4, 3) := by decide +kernel
theorem dX8_game_111 : decode cX8_game 111 = .ok (.iconst 0, 1) := by decide +kernel
theorem dX8_game_112 : decode cX8_game 112 = .ok (.bastore, 1) := by decide +kernel
theorem dX8_game_113 : decode cX8_game 113 = .ok (.iinc 7 (-1), 3) := by decide +kernel
theorem dX8_game_116 : decode cX8_game 116 = .ok (.goto (-39), 3) := by decide +kernel
theorem dX8_game_119 : decode cX8_game 119 = .ok (.iload 5, 2) := by decide +kernel
theorem dX8_game_121 : decode cX8_game 121 = .ok (.iconst 1, 1) := by decide +kernel
theorem dX8_game_122 : decode cX8_game 122 = .ok (.if_icmp .ne 6, 3) := by decide +kernel
theorem dX8_game_125 : decode cX8_game 125 = .ok (.iload 6, 2) := by decide +kernel
theorem dX8_game_127 : decode cX8_game 127 = .ok (.ireturn, 1) := by decide +kernel
theorem dX8_game_128 : decode cX8_game 128 = .ok (.iload 6, 2) := by decide +kernel
theorem dX8_game_130 : decode cX8_game 130 = .ok (.iconst (-1), 1) := by decide +kernel
theorem dX8_game_131 : decode cX8_game 131 = .ok (.if_icmp .eq 7, 3) := by decide +kernel
theorem dX8_game_134 : decode cX8_game 134 = .ok (.iconst 1, 1) := by decide +kernel
theorem dX8_game_135 : decode cX8_game 135 = .ok (.goto 4, 3) := by decide +kernel
theorem dX8_game_138 : decode cX8_game 138 = .ok (.iconst 0, 1) := by decide +kernel
theorem dX8_game_139 : decode cX8_game 139 = .ok (.ireturn, 1) := by decide +kernel
theorem dX8_spoken_0 : decode cX8_spoken 0 = .ok (.aload_n 0, 1) := by decide +kernel
theorem dX8_spoken_1 : decode cX8_spoken 1 = .ok (.getfield 35, 3) := by decide +kernel
theorem dX8_spoken_4 : decode cX8_spoken 4 = .ok (.iload_n 1, 1) := by decide +kernel
theorem dX8_spoken_5 : decode cX8_spoken 5 = .ok (.invokevirtual 114, 3) := by decide +kernel
theorem dX8_spoken_8 : decode cX8_spoken 8 = .ok (.ifCond .eq 10, 3) := by decide +kernel
theorem dX8_spoken_11 : decode cX8_spoken 11 = .ok (.iload_n 2, 1) := by decide +kernel
theorem dX8_spoken_12 : decode cX8_spoken 12 = .ok (.invokestatic 142, 3) := by decide +kernel
theorem dX8_spoken_15 : decode cX8_spoken 15 = .ok (.ifCond .ne 5, 3) := by decide +kernel
theorem dX8_spoken_18 : decode cX8_spoken 18 = .ok (.iconst (-1), 1) := by decide +kernel
theorem dX8_spoken_19 : decode cX8_spoken 19 = .ok (.ireturn, 1) := by decide +kernel
theorem dX8_spoken_20 : decode cX8_spoken 20 = .ok (.aload_n 0, 1) := by decide +kernel
theorem dX8_spoken_21 : decode cX8_spoken 21 = .ok (.getfield 35, 3) := by decide +kernel
theorem dX8_spoken_24 : decode cX8_spoken 24 = .ok (.iload_n 1, 1) := by decide +kernel
theorem dX8_spoken_25 : decode cX8_spoken 25 = .ok (.iload_n 2, 1) := by decide +kernel
theorem dX8_spoken_26 : decode cX8_spoken 26 = .ok (.invokevirtual 272, 3) := by decide +kernel
theorem dX8_spoken_29 : decode cX8_spoken 29 = .ok (.ireturn, 1) := by decide +kernel
theorem dX8_carried_0 : decode cX8_carried 0 = .ok (.iload_n 1, 1) := by decide +kernel
theorem dX8_carried_1 : decode cX8_carried 1 = .ok (.invokestatic 142, 3) := by decide +kernel
theorem dX8_carried_4 : decode cX8_carried 4 = .ok (.ifCond .eq 27, 3) := by decide +kernel
theorem dX8_carried_7 : decode cX8_carried 7 = .ok (.iload_n 2, 1) := by decide +kernel
theorem dX8_carried_8 : decode cX8_carried 8 = .ok (.ifCond .lt 23, 3) := by decide +kernel
theorem dX8_carried_11 : decode cX8_carried 11 = .ok (.iload_n 3, 1) := by decide +kernel
theorem dX8_carried_12 : decode cX8_carried 12 = .ok (.iconst 1, 1) := by decide +kernel
theorem dX8_carried_13 : decode cX8_carried 13 = .ok (.if_icmp .lt 18, 3) := by decide +kernel
theorem dX8_carried_16 : decode cX8_carried 16 = .ok (.iload_n 3, 1) := by decide +kernel
theorem dX8_carried_17 : decode cX8_carried 17 = .ok (.bipush 8, 2) := by decide +kernel
theorem dX8_carried_19 : decode cX8_carried 19 = .ok (.if_icmp .gt 12, 3) := by decide +kernel
theorem dX8_carried_22 : decode cX8_carried 22 = .ok (.aload_n 0, 1) := by decide +kernel
theorem dX8_carried_23 : decode cX8_carried 23 = .ok (.iload_n 2, 1) := by decide +kernel
theorem dX8_carried_24 : decode cX8_carried 24 = .ok (.iload_n 3, 1) := by decide +kernel
theorem dX8_carried_25 : decode cX8_carried 25 = .ok (.invokevirtual 275, 3) := by decide +kernel
theorem dX8_carried_28 : decode cX8_carried 28 = .ok (.ifCond .ne 5, 3) := by decide +kernel
theorem dX8_carried_31 : decode cX8_carried 31 = .ok (.iconst (-1), 1) := by decide +kernel
theorem dX8_carried_32 : decode cX8_carried 32 = .ok (.ireturn, 1) := by decide +kernel
theorem dX8_carried_33 : decode cX8_carried 33 = .ok (.iload_n 1, 1) := by decide +kernel
theorem dX8_carried_34 : decode cX8_carried 34 = .ok (.istore 4, 2) := by decide +kernel
theorem dX8_carried_36 : decode cX8_carried 36 = .ok (.iload_n 3, 1) := by decide +kernel
theorem dX8_carried_37 : decode cX8_carried 37 = .ok (.iconst 1, 1) := by decide +kernel
theorem dX8_carried_38 : decode cX8_carried 38 = .ok (.isub, 1) := by decide +kernel
theorem dX8_carried_39 : decode cX8_carried 39 = .ok (.istore 5, 2) := by decide +kernel
theorem dX8_carried_41 : decode cX8_carried 41 = .ok (.iload 5, 2) := by decide +kernel
theorem dX8_carried_43 : decode cX8_carried 43 = .ok (.ifCond .lt 27, 3) := by decide +kernel
theorem dX8_carried_46 : decode cX8_carried 46 = .ok (.aload_n 0, 1) := by decide +kernel
theorem dX8_carried_47 : decode cX8_carried 47 = .ok (.getfield 35, 3) := by decide +kernel
theorem dX8_carried_50 : decode cX8_carried 50 = .ok (.aload_n 0, 1) := by decide +kernel
theorem dX8_carried_51 : decode cX8_carried 51 = .ok (.getfield 76, 3) := by decide +kernel
theorem dX8_carried_54 : decode cX8_carried 54 = .ok (.iload 5, 2) := by decide +kernel
theorem dX8_carried_56 : decode cX8_carried 56 = .ok (.iaload, 1) := by decide +kernel
theorem dX8_carried_57 : decode cX8_carried 57 = .ok (.iload 4, 2) := by decide +kernel
theorem dX8_carried_59 : decode cX8_carried 59 = .ok (.invokevirtual 272, 3) := by decide +kernel
theorem dX8_carried_62 : decode cX8_carried 62 = .ok (.istore 4, 2) := by decide +kernel
theorem dX8_carried_64 : decode cX8_carried 64 = .ok (.iinc 5 (-1), 3) := by decide +kernel
theorem dX8_carried_67 : decode cX8_carried 67 = .ok (.goto (-26), 3) := by decide +kernel
theorem dX8_carried_70 : decode cX8_carried 70 = .ok (.iload 4, 2) := by decide +kernel
theorem dX8_carried_72 : decode cX8_carried 72 = .ok (.ireturn, 1) := by decide +kernel
theorem dX8_near_0 : decode cX8_near 0 = .ok (.aload_n 0, 1) := by decide +kernel
theorem dX8_near_1 : decode cX8_near 1 = .ok (.iload_n 1, 1) := by decide +kernel
theorem dX8_near_2 : decode cX8_near 2 = .ok (.iload_n 2, 1) := by decide +kernel
theorem dX8_near_3 : decode cX8_near 3 = .ok (.iload_n 3, 1) := by decide +kernel
theorem dX8_near_4 : decode cX8_near 4 = .ok (.invokevirtual 149, 3) := by decide +kernel
theorem dX8_near_7 : decode cX8_near 7 = .ok (.ifCond .ne 5, 3) := by decide +kernel
theorem dX8_near_10 : decode cX8_near 10 = .ok (.iconst (-1), 1) := by decide +kernel
theorem dX8_near_11 : decode cX8_near 11 = .ok (.ireturn, 1) := by decide +kernel
theorem dX8_near_12 : decode cX8_near 12 = .ok (.aload_n 0, 1) := by decide +kernel
theorem dX8_near_13 : decode cX8_near 13 = .ok (.iload_n 1, 1) := by decide +kernel
theorem dX8_near_14 : decode cX8_near 14 = .ok (.aload_n 0, 1) := by decide +kernel
theorem dX8_near_15 : decode cX8_near 15 = .ok (.getfield 79, 3) := by decide +kernel
theorem dX8_near_18 : decode cX8_near 18 = .ok (.iload_n 3, 1) := by decide +kernel
theorem dX8_near_19 : decode cX8_near 19 = .ok (.invokevirtual 152, 3) := by decide +kernel
theorem dX8_near_22 : decode cX8_near 22 = .ok (.aload_n 0, 1) := by decide +kernel
theorem dX8_near_23 : decode cX8_near 23 = .ok (.getfield 49, 3) := by decide +kernel
theorem dX8_near_26 : decode cX8_near 26 = .ok (.invokevirtual 168, 3) := by decide +kernel
theorem dX8_near_29 : decode cX8_near 29 = .ok (.iconst 0, 1) := by decide +kernel
theorem dX8_near_30 : decode cX8_near 30 = .ok (.istore 4, 2) := by decide +kernel
theorem dX8_near_32 : decode cX8_near 32 = .ok (.iload 4, 2) := by decide +kernel
theorem dX8_near_34 : decode cX8_near 34 = .ok (.sipush 200, 3) := by decide +kernel
theorem dX8_near_37 : decode cX8_near 37 = .ok (.if_icmp .ge 47, 3) := by decide +kernel
theorem dX8_near_40 : decode cX8_near 40 = .ok (.aload_n 0, 1) := by decide +kernel
theorem dX8_near_41 : decode cX8_near 41 = .ok (.getfield 49, 3) := by decide +kernel
theorem dX8_near_44 : decode cX8_near 44 = .ok (.iload_n 2, 1) := by decide +kernel
theorem dX8_near_45 : decode cX8_near 45 = .ok (.iload 4, 2) := by decide +kernel
theorem dX8_near_47 : decode cX8_near 47 = .ok (.isub, 1) := by decide +kernel
theorem dX8_near_48 : decode cX8_near 48 = .ok (.invokevirtual 278, 3) := by decide +kernel
theorem dX8_near_51 : decode cX8_near 51 = .ok (.ifCond .eq 8, 3) := by decide +kernel
theorem dX8_near_54 : decode cX8_near 54 = .ok (.iload_n 2, 1) := by decide +kernel
theorem dX8_near_55 : decode cX8_near 55 = .ok (.iload 4, 2) := by decide +kernel
theorem dX8_near_57 : decode cX8_near 57 = .ok (.isub, 1) := by decide +kernel
theorem dX8_near_58 : decode cX8_near 58 = .ok (.ireturn, 1) := by decide +kernel
theorem dX8_near_59 : decode cX8_near 59 = .ok (.aload_n 0, 1) := by decide +kernel
theorem dX8_near_60 : decode cX8_near 60 = .ok (.getfield 49, 3) := by decide +kernel
theorem dX8_near_63 : decode cX8_near 63 = .ok (.iload_n 2, 1) := by decide +kernel
theorem dX8_near_64 : decode cX8_near 64 = .ok (.iload 4, 2) := by decide +kernel
theorem dX8_near_66 : decode cX8_near 66 = .ok (.iadd, 1) := by decide +kernel
theorem dX8_near_67 : decode cX8_near 67 = .ok (.invokevirtual 278, 3) := by decide +kernel
theorem dX8_near_70 : decode cX8_near 70 = .ok (.ifCond .eq 8, 3) := by decide +kernel
theorem dX8_near_73 : decode cX8_near 73 = .ok (.iload_n 2, 1) := by decide +kernel
theorem dX8_near_74 : decode cX8_near 74 = .ok (.iload 4, 2) := by decide +kernel
theorem dX8_near_76 : decode cX8_near 76 = .ok (.iadd, 1) := by decide +kernel
theorem dX8_near_77 : decode cX8_near 77 = .ok (.ireturn, 1) := by decide +kernel
theorem dX8_near_78 : decode cX8_near 78 = .ok (.iinc 4 1, 3) := by decide +kernel
theorem dX8_near_81 : decode cX8_near 81 = .ok (.goto (-49), 3) := by decide +kernel
theorem dX8_near_84 : decode cX8_near 84 = .ok (.iconst (-1), 1) := by decide +kernel
theorem dX8_near_85 : decode cX8_near 85 = .ok (.ireturn, 1) := by decide +kernel
theorem dX8_joint_0 : decode cX8_joint 0 = .ok (.aload_n 0, 1) := by decide +kernel
theorem dX8_joint_1 : decode cX8_joint 1 = .ok (.iload_n 1, 1) := by decide +kernel
theorem dX8_joint_2 : decode cX8_joint 2 = .ok (.iload_n 3, 1) := by decide +kernel
theorem dX8_joint_3 : decode cX8_joint 3 = .ok (.iload 4, 2) := by decide +kernel
theorem dX8_joint_5 : decode cX8_joint 5 = .ok (.invokevirtual 149, 3) := by decide +kernel
theorem dX8_joint_8 : decode cX8_joint 8 = .ok (.ifCond .eq 19, 3) := by decide +kernel
theorem dX8_joint_11 : decode cX8_joint 11 = .ok (.aload_n 0, 1) := by decide +kernel
theorem dX8_joint_12 : decode cX8_joint 12 = .ok (.getfield 35, 3) := by decide +kernel
theorem dX8_joint_15 : decode cX8_joint 15 = .ok (.iload_n 2, 1) := by decide +kernel
theorem dX8_joint_16 : decode cX8_joint 16 = .ok (.invokevirtual 114, 3) := by decide +kernel
theorem dX8_joint_19 : decode cX8_joint 19 = .ok (.ifCond .eq 8, 3) := by decide +kernel
theorem dX8_joint_22 : decode cX8_joint 22 = .ok (.iload_n 1, 1) := by decide +kernel
theorem dX8_joint_23 : decode cX8_joint 23 = .ok (.iload_n 2, 1) := by decide +kernel
theorem dX8_joint_24 : decode cX8_joint 24 = .ok (.if_icmp .ne 5, 3) := by decide +kernel
theorem dX8_joint_27 : decode cX8_joint 27 = .ok (.iconst (-1), 1) := by decide +kernel
theorem dX8_joint_28 : decode cX8_joint 28 = .ok (.ireturn, 1) := by decide +kernel
theorem dX8_joint_29 : decode cX8_joint 29 = .ok (.aload_n 0, 1) := by decide +kernel
theorem dX8_joint_30 : decode cX8_joint 30 = .ok (.iload_n 1, 1) := by decide +kernel
theorem dX8_joint_31 : decode cX8_joint 31 = .ok (.aload_n 0, 1) := by decide +kernel
theorem dX8_joint_32 : decode cX8_joint 32 = .ok (.getfield 79, 3) := by decide +kernel
theorem dX8_joint_35 : decode cX8_joint 35 = .ok (.iload 4, 2) := by decide +kernel
theorem dX8_joint_37 : decode cX8_joint 37 = .ok (.invokevirtual 152, 3) := by decide +kernel
theorem dX8_joint_40 : decode cX8_joint 40 = .ok (.aload_n 0, 1) := by decide +kernel
theorem dX8_joint_41 : decode cX8_joint 41 = .ok (.getfield 35, 3) := by decide +kernel
theorem dX8_joint_44 : decode cX8_joint 44 = .ok (.aload_n 0, 1) := by decide +kernel
theorem dX8_joint_45 : decode cX8_joint 45 = .ok (.getfield 49, 3) := by decide +kernel
theorem dX8_joint_48 : decode cX8_joint 48 = .ok (.getfield 281, 3) := by decide +kernel
theorem dX8_joint_51 : decode cX8_joint 51 = .ok (.iload_n 2, 1) := by decide +kernel
theorem dX8_joint_52 : decode cX8_joint 52 = .ok (.invokevirtual 284, 3) := by decide +kernel
theorem dX8_joint_55 : decode cX8_joint 55 = .ok (.aload_n 0, 1) := by decide +kernel
theorem dX8_joint_56 : decode cX8_joint 56 = .ok (.getfield 49, 3) := by decide +kernel
theorem dX8_joint_59 : decode cX8_joint 59 = .ok (.iload_n 3, 1) := by decide +kernel
theorem dX8_joint_60 : decode cX8_joint 60 = .ok (.iconst (-1), 1) := by decide +kernel
theorem dX8_joint_61 : decode cX8_joint 61 = .ok (.invokevirtual 156, 3) := by decide +kernel
theorem dX8_joint_64 : decode cX8_joint 64 = .ok (.ireturn, 1) := by decide +kernel
theorem dX8_worst_0 : decode cX8_worst 0 = .ok (.aload_n 0, 1) := by decide +kernel
theorem dX8_worst_1 : decode cX8_worst 1 = .ok (.getfield 35, 3) := by decide +kernel
theorem dX8_worst_4 : decode cX8_worst 4 = .ok (.iload_n 1, 1) := by decide +kernel
theorem dX8_worst_5 : decode cX8_worst 5 = .ok (.invokevirtual 114, 3) := by decide +kernel
theorem dX8_worst_8 : decode cX8_worst 8 = .ok (.ifCond .eq 19, 3) := by decide +kernel
theorem dX8_worst_11 : decode cX8_worst 11 = .ok (.iload_n 2, 1) := by decide +kernel
theorem dX8_worst_12 : decode cX8_worst 12 = .ok (.invokestatic 165, 3) := by decide +kernel
theorem dX8_worst_15 : decode cX8_worst 15 = .ok (.ifCond .eq 12, 3) := by decide +kernel
theorem dX8_worst_18 : decode cX8_worst 18 = .ok (.iload_n 3, 1) := by decide +kernel
theorem dX8_worst_19 : decode cX8_worst 19 = .ok (.ifCond .lt 8, 3) := by decide +kernel
theorem dX8_worst_22 : decode cX8_worst 22 = .ok (.iload_n 3, 1) := by decide +kernel
theorem dX8_worst_23 : decode cX8_worst 23 = .ok (.iconst 1, 1) := by decide +kernel
theorem dX8_worst_24 : decode cX8_worst 24 = .ok (.if_icmp .le 5, 3) := by decide +kernel
theorem dX8_worst_27 : decode cX8_worst 27 = .ok (.iconst (-1), 1) := by decide +kernel
theorem dX8_worst_28 : decode cX8_worst 28 = .ok (.ireturn, 1) := by decide +kernel
theorem dX8_worst_29 : decode cX8_worst 29 = .ok (.aload_n 0, 1) := by decide +kernel
theorem dX8_worst_30 : decode cX8_worst 30 = .ok (.getfield 49, 3) := by decide +kernel
theorem dX8_worst_33 : decode cX8_worst 33 = .ok (.aload_n 0, 1) := by decide +kernel
theorem dX8_worst_34 : decode cX8_worst 34 = .ok (.getfield 79, 3) := by decide +kernel
theorem dX8_worst_37 : decode cX8_worst 37 = .ok (.iload_n 2, 1) := by decide +kernel
theorem dX8_worst_38 : decode cX8_worst 38 = .ok (.invokevirtual 288, 3) := by decide +kernel
theorem dX8_worst_41 : decode cX8_worst 41 = .ok (.iconst (-1), 1) := by decide +kernel
theorem dX8_worst_42 : decode cX8_worst 42 = .ok (.istore 4, 2) := by decide +kernel
theorem dX8_worst_44 : decode cX8_worst 44 = .ok (.iconst (-1), 1) := by decide +kernel
theorem dX8_worst_45 : decode cX8_worst 45 = .ok (.istore 5, 2) := by decide +kernel
theorem dX8_worst_47 : decode cX8_worst 47 = .ok (.iconst 1, 1) := by decide +kernel
theorem dX8_worst_48 : decode cX8_worst 48 = .ok (.istore 6, 2) := by decide +kernel
theorem dX8_worst_50 : decode cX8_worst 50 = .ok (.iload 6, 2) := by decide +kernel
theorem dX8_worst_52 : decode cX8_worst 52 = .ok (.bipush 30, 2) := by decide +kernel
theorem dX8_worst_54 : decode cX8_worst 54 = .ok (.if_icmp .gt 67, 3) := by decide +kernel
theorem dX8_worst_57 : decode cX8_worst 57 = .ok (.aload_n 0, 1) := by decide +kernel
theorem dX8_worst_58 : decode cX8_worst 58 = .ok (.getfield 35, 3) := by decide +kernel
theorem dX8_worst_61 : decode cX8_worst 61 = .ok (.aload_n 0, 1) := by decide +kernel
theorem dX8_worst_62 : decode cX8_worst 62 = .ok (.getfield 49, 3) := by decide +kernel
theorem dX8_worst_65 : decode cX8_worst 65 = .ok (.getfield 281, 3) := by decide +kernel
theorem dX8_worst_68 : decode cX8_worst 68 = .ok (.iload_n 1, 1) := by decide +kernel
theorem dX8_worst_69 : decode cX8_worst 69 = .ok (.aload_n 0, 1) := by decide +kernel
theorem dX8_worst_70 : decode cX8_worst 70 = .ok (.getfield 35, 3) := by decide +kernel
theorem dX8_worst_73 : decode cX8_worst 73 = .ok (.getfield 190, 3) := by decide +kernel
theorem dX8_worst_76 : decode cX8_worst 76 = .ok (.getfield 193, 3) := by decide +kernel
theorem dX8_worst_79 : decode cX8_worst 79 = .ok (.iload 6, 2) := by decide +kernel
theorem dX8_worst_81 : decode cX8_worst 81 = .ok (.invokevirtual 292, 3) := by decide +kernel
theorem dX8_worst_84 : decode cX8_worst 84 = .ok (.aload_n 0, 1) := by decide +kernel
theorem dX8_worst_85 : decode cX8_worst 85 = .ok (.getfield 49, 3) := by decide +kernel
theorem dX8_worst_88 : decode cX8_worst 88 = .ok (.invokevirtual 168, 3) := by decide +kernel
theorem dX8_worst_91 : decode cX8_worst 91 = .ok (.aload_n 0, 1) := by decide +kernel
theorem dX8_worst_92 : decode cX8_worst 92 = .ok (.getfield 49, 3) := by decide +kernel
theorem dX8_worst_95 : decode cX8_worst 95 = .ok (.invokevirtual 171, 3) := by decide +kernel
theorem dX8_worst_98 : decode cX8_worst 98 = .ok (.istore 7, 2) := by decide +kernel
theorem dX8_worst_100 : decode cX8_worst 100 = .ok (.iload 7, 2) := by decide +kernel
theorem dX8_worst_102 : decode cX8_worst 102 = .ok (.iload 5, 2) := by decide +kernel
theorem dX8_worst_104 : decode cX8_worst 104 = .ok (.if_icmp .le 11, 3) := by decide +kernel
theorem dX8_worst_107 : decode cX8_worst 107 = .ok (.iload 7, 2) := by decide +kernel
theorem dX8_worst_109 : decode cX8_worst 109 = .ok (.istore 5, 2) := by decide +kernel
theorem dX8_worst_111 : decode cX8_worst 111 = .ok (.iload 6, 2) := by decide +kernel
theorem dX8_worst_113 : decode cX8_worst 113 = .ok (.istore 4, 2) := by decide +kernel
theorem dX8_worst_115 : decode cX8_worst 115 = .ok (.iinc 6 1, 3) := by decide +kernel
theorem dX8_worst_118 : decode cX8_worst 118 = .ok (.goto (-68), 3) := by decide +kernel
theorem dX8_worst_121 : decode cX8_worst 121 = .ok (.iload_n 3, 1) := by decide +kernel
theorem dX8_worst_122 : decode cX8_worst 122 = .ok (.ifCond .ne 8, 3) := by decide +kernel
theorem dX8_worst_125 : decode cX8_worst 125 = .ok (.iload 4, 2) := by decide +kernel
theorem dX8_worst_127 : decode cX8_worst 127 = .ok (.goto 5, 3) := by decide +kernel
theorem dX8_worst_130 : decode cX8_worst 130 = .ok (.iload 5, 2) := by decide +kernel
theorem dX8_worst_132 : decode cX8_worst 132 = .ok (.ireturn, 1) := by decide +kernel
theorem dX8_owes_0 : decode cX8_owes 0 = .ok (.iconst 0, 1) := by decide +kernel
theorem dX8_owes_1 : decode cX8_owes 1 = .ok (.istore_n 1, 1) := by decide +kernel
theorem dX8_owes_2 : decode cX8_owes 2 = .ok (.iconst (-1), 1) := by decide +kernel
theorem dX8_owes_3 : decode cX8_owes 3 = .ok (.istore_n 2, 1) := by decide +kernel
theorem dX8_owes_4 : decode cX8_owes 4 = .ok (.iconst 0, 1) := by decide +kernel
theorem dX8_owes_5 : decode cX8_owes 5 = .ok (.istore_n 3, 1) := by decide +kernel
theorem dX8_owes_6 : decode cX8_owes 6 = .ok (.iload_n 3, 1) := by decide +kernel
theorem dX8_owes_7 : decode cX8_owes 7 = .ok (.aload_n 0, 1) := by decide +kernel
theorem dX8_owes_8 : decode cX8_owes 8 = .ok (.getfield 35, 3) := by decide +kernel
theorem dX8_owes_11 : decode cX8_owes 11 = .ok (.getfield 132, 3) := by decide +kernel
theorem dX8_owes_14 : decode cX8_owes 14 = .ok (.getfield 210, 3) := by decide +kernel
theorem dX8_owes_17 : decode cX8_owes 17 = .ok (.if_icmp .ge 30, 3) := by decide +kernel
theorem dX8_owes_20 : decode cX8_owes 20 = .ok (.aload_n 0, 1) := by decide +kernel
theorem dX8_owes_21 : decode cX8_owes 21 = .ok (.getfield 35, 3) := by decide +kernel
theorem dX8_owes_24 : decode cX8_owes 24 = .ok (.iload_n 3, 1) := by decide +kernel
theorem dX8_owes_25 : decode cX8_owes 25 = .ok (.invokevirtual 258, 3) := by decide +kernel
theorem dX8_owes_28 : decode cX8_owes 28 = .ok (.istore 4, 2) := by decide +kernel
theorem dX8_owes_30 : decode cX8_owes 30 = .ok (.iload 4, 2) := by decide +kernel
theorem dX8_owes_32 : decode cX8_owes 32 = .ok (.iload_n 1, 1) := by decide +kernel
theorem dX8_owes_33 : decode cX8_owes 33 = .ok (.if_icmp .le 8, 3) := by decide +kernel
theorem dX8_owes_36 : decode cX8_owes 36 = .ok (.iload 4, 2) := by decide +kernel
theorem dX8_owes_38 : decode cX8_owes 38 = .ok (.istore_n 1, 1) := by decide +kernel
theorem dX8_owes_39 : decode cX8_owes 39 = .ok (.iload_n 3, 1) := by decide +kernel
theorem dX8_owes_40 : decode cX8_owes 40 = .ok (.istore_n 2, 1) := by decide +kernel
theorem dX8_owes_41 : decode cX8_owes 41 = .ok (.iinc 3 1, 3) := by decide +kernel
theorem dX8_owes_44 : decode cX8_owes 44 = .ok (.goto (-38), 3) := by decide +kernel
theorem dX8_owes_47 : decode cX8_owes 47 = .ok (.iload_n 2, 1) := by decide +kernel
theorem dX8_owes_48 : decode cX8_owes 48 = .ok (.ireturn, 1) := by decide +kernel
theorem dX8_calendar_0 : decode cX8_calendar 0 = .ok (.aload_n 0, 1) := by decide +kernel
theorem dX8_calendar_1 : decode cX8_calendar 1 = .ok (.getfield 35, 3) := by decide +kernel
theorem dX8_calendar_4 : decode cX8_calendar 4 = .ok (.iload_n 1, 1) := by decide +kernel
theorem dX8_calendar_5 : decode cX8_calendar 5 = .ok (.invokevirtual 114, 3) := by decide +kernel
theorem dX8_calendar_8 : decode cX8_calendar 8 = .ok (.ifCond .eq 13, 3) := by decide +kernel
theorem dX8_calendar_11 : decode cX8_calendar 11 = .ok (.iload_n 2, 1) := by decide +kernel
theorem dX8_calendar_12 : decode cX8_calendar 12 = .ok (.ifCond .lt 9, 3) := by decide +kernel
theorem dX8_calendar_15 : decode cX8_calendar 15 = .ok (.iload_n 2, 1) := by decide +kernel
theorem dX8_calendar_16 : decode cX8_calendar 16 = .ok (.bipush 60, 2) := by decide +kernel
theorem dX8_calendar_18 : decode cX8_calendar 18 = .ok (.if_icmp .le 5, 3) := by decide +kernel
theorem dX8_calendar_21 : decode cX8_calendar 21 = .ok (.iconst (-1), 1) := by decide +kernel
theorem dX8_calendar_22 : decode cX8_calendar 22 = .ok (.ireturn, 1) := by decide +kernel
theorem dX8_calendar_23 : decode cX8_calendar 23 = .ok (.iconst 0, 1) := by decide +kernel
theorem dX8_calendar_24 : decode cX8_calendar 24 = .ok (.istore_n 3, 1) := by decide +kernel
theorem dX8_calendar_25 : decode cX8_calendar 25 = .ok (.iconst 0, 1) := by decide +kernel
theorem dX8_calendar_26 : decode cX8_calendar 26 = .ok (.istore 4, 2) := by decide +kernel
theorem dX8_calendar_28 : decode cX8_calendar 28 = .ok (.iload 4, 2) := by decide +kernel
theorem dX8_calendar_30 : decode cX8_calendar 30 = .ok (.iload_n 2, 1) := by decide +kernel
theorem dX8_calendar_31 : decode cX8_calendar 31 = .ok (.if_icmp .gt 28, 3) := by decide +kernel
theorem dX8_calendar_34 : decode cX8_calendar 34 = .ok (.aload_n 0, 1) := by decide +kernel
theorem dX8_calendar_35 : decode cX8_calendar 35 = .ok (.getfield 35, 3) := by decide +kernel
theorem dX8_calendar_38 : decode cX8_calendar 38 = .ok (.iload_n 1, 1) := by decide +kernel
theorem dX8_calendar_39 : decode cX8_calendar 39 = .ok (.iload 4, 2) := by decide +kernel
theorem dX8_calendar_41 : decode cX8_calendar 41 = .ok (.iload_n 3, 1) := by decide +kernel
theorem dX8_calendar_42 : decode cX8_calendar 42 = .ok (.invokevirtual 296, 3) := by decide +kernel
theorem dX8_calendar_45 : decode cX8_calendar 45 = .ok (.istore_n 3, 1) := by decide +kernel
theorem dX8_calendar_46 : decode cX8_calendar 46 = .ok (.iload_n 3, 1) := by decide +kernel
theorem dX8_calendar_47 : decode cX8_calendar 47 = .ok (.iconst (-1), 1) := by decide +kernel
theorem dX8_calendar_48 : decode cX8_calendar 48 = .ok (.if_icmp .ne 5, 3) := by decide +kernel
theorem dX8_calendar_51 : decode cX8_calendar 51 = .ok (.iconst (-1), 1) := by decide +kernel
theorem dX8_calendar_52 : decode cX8_calendar 52 = .ok (.ireturn, 1) := by decide +kernel
theorem dX8_calendar_53 : decode cX8_calendar 53 = .ok (.iinc 4 1, 3) := by decide +kernel
theorem dX8_calendar_56 : decode cX8_calendar 56 = .ok (.goto (-28), 3) := by decide +kernel
theorem dX8_calendar_59 : decode cX8_calendar 59 = .ok (.iload_n 3, 1) := by decide +kernel
theorem dX8_calendar_60 : decode cX8_calendar 60 = .ok (.ireturn, 1) := by decide +kernel
theorem dX8_twins_0 : decode cX8_twins 0 = .ok (.aload_n 0, 1) := by decide +kernel
theorem dX8_twins_1 : decode cX8_twins 1 = .ok (.getfield 35, 3) := by decide +kernel
theorem dX8_twins_4 : decode cX8_twins 4 = .ok (.iload_n 1, 1) := by decide +kernel
theorem dX8_twins_5 : decode cX8_twins 5 = .ok (.invokevirtual 114, 3) := by decide +kernel
theorem dX8_twins_8 : decode cX8_twins 8 = .ok (.ifCond .eq 29, 3) := by decide +kernel
theorem dX8_twins_11 : decode cX8_twins 11 = .ok (.aload_n 0, 1) := by decide +kernel
theorem dX8_twins_12 : decode cX8_twins 12 = .ok (.getfield 35, 3) := by decide +kernel
theorem dX8_twins_15 : decode cX8_twins 15 = .ok (.iload_n 2, 1) := by decide +kernel
theorem dX8_twins_16 : decode cX8_twins 16 = .ok (.invokevirtual 114, 3) := by decide +kernel
theorem dX8_twins_19 : decode cX8_twins 19 = .ok (.ifCond .eq 18, 3) := by decide +kernel
theorem dX8_twins_22 : decode cX8_twins 22 = .ok (.iload_n 1, 1) := by decide +kernel
theorem dX8_twins_23 : decode cX8_twins 23 = .ok (.iload_n 2, 1) := by decide +kernel
theorem dX8_twins_24 : decode cX8_twins 24 = .ok (.if_icmp .eq 13, 3) := by decide +kernel
theorem dX8_twins_27 : decode cX8_twins 27 = .ok (.iload_n 3, 1) := by decide +kernel
theorem dX8_twins_28 : decode cX8_twins 28 = .ok (.ifCond .lt 9, 3) := by decide +kernel
theorem dX8_twins_31 : decode cX8_twins 31 = .ok (.iload_n 3, 1) := by decide +kernel
theorem dX8_twins_32 : decode cX8_twins 32 = .ok (.bipush 60, 2) := by decide +kernel
theorem dX8_twins_34 : decode cX8_twins 34 = .ok (.if_icmp .le 5, 3) := by decide +kernel
theorem dX8_twins_37 : decode cX8_twins 37 = .ok (.iconst (-1), 1) := by decide +kernel
theorem dX8_twins_38 : decode cX8_twins 38 = .ok (.ireturn, 1) := by decide +kernel
theorem dX8_twins_39 : decode cX8_twins 39 = .ok (.iconst 0, 1) := by decide +kernel
theorem dX8_twins_40 : decode cX8_twins 40 = .ok (.istore 4, 2) := by decide +kernel
theorem dX8_twins_42 : decode cX8_twins 42 = .ok (.iconst 0, 1) := by decide +kernel
theorem dX8_twins_43 : decode cX8_twins 43 = .ok (.istore 5, 2) := by decide +kernel
theorem dX8_twins_45 : decode cX8_twins 45 = .ok (.iconst 0, 1) := by decide +kernel
theorem dX8_twins_46 : decode cX8_twins 46 = .ok (.istore 6, 2) := by decide +kernel
theorem dX8_twins_48 : decode cX8_twins 48 = .ok (.iconst 0, 1) := by decide +kernel
theorem dX8_twins_49 : decode cX8_twins 49 = .ok (.istore 7, 2) := by decide +kernel
theorem dX8_twins_51 : decode cX8_twins 51 = .ok (.iload 7, 2) := by decide +kernel
theorem dX8_twins_53 : decode cX8_twins 53 = .ok (.iload_n 3, 1) := by decide +kernel
theorem dX8_twins_54 : decode cX8_twins 54 = .ok (.if_icmp .gt 61, 3) := by decide +kernel
theorem dX8_twins_57 : decode cX8_twins 57 = .ok (.aload_n 0, 1) := by decide +kernel
theorem dX8_twins_58 : decode cX8_twins 58 = .ok (.getfield 35, 3) := by decide +kernel
theorem dX8_twins_61 : decode cX8_twins 61 = .ok (.iload_n 1, 1) := by decide +kernel
theorem dX8_twins_62 : decode cX8_twins 62 = .ok (.iload 7, 2) := by decide +kernel
theorem dX8_twins_64 : decode cX8_twins 64 = .ok (.iload 5, 2) := by decide +kernel
theorem dX8_twins_66 : decode cX8_twins 66 = .ok (.invokevirtual 296, 3) := by decide +kernel
theorem dX8_twins_69 : decode cX8_twins 69 = .ok (.istore 5, 2) := by decide +kernel
theorem dX8_twins_71 : decode cX8_twins 71 = .ok (.aload_n 0, 1) := by decide +kernel
theorem dX8_twins_72 : decode cX8_twins 72 = .ok (.getfield 35, 3) := by decide +kernel
theorem dX8_twins_75 : decode cX8_twins 75 = .ok (.iload_n 2, 1) := by decide +kernel
theorem dX8_twins_76 : decode cX8_twins 76 = .ok (.iload 7, 2) := by decide +kernel
theorem dX8_twins_78 : decode cX8_twins 78 = .ok (.iload 6, 2) := by decide +kernel
theorem dX8_twins_80 : decode cX8_twins 80 = .ok (.invokevirtual 296, 3) := by decide +kernel
theorem dX8_twins_83 : decode cX8_twins 83 = .ok (.istore 6, 2) := by decide +kernel
theorem dX8_twins_85 : decode cX8_twins 85 = .ok (.iload 5, 2) := by decide +kernel
theorem dX8_twins_87 : decode cX8_twins 87 = .ok (.iconst (-1), 1) := by decide +kernel
theorem dX8_twins_88 : decode cX8_twins 88 = .ok (.if_icmp .eq 9, 3) := by decide +kernel
theorem dX8_twins_91 : decode cX8_twins 91 = .ok (.iload 6, 2) := by decide +kernel
theorem dX8_twins_93 : decode cX8_twins 93 = .ok (.iconst (-1), 1) := by decide +kernel
theorem dX8_twins_94 : decode cX8_twins 94 = .ok (.if_icmp .ne 5, 3) := by decide +kernel
theorem dX8_twins_97 : decode cX8_twins 97 = .ok (.iconst (-1), 1) := by decide +kernel
theorem dX8_twins_98 : decode cX8_twins 98 = .ok (.ireturn, 1) := by decide +kernel
theorem dX8_twins_99 : decode cX8_twins 99 = .ok (.iload 5, 2) := by decide +kernel
theorem dX8_twins_101 : decode cX8_twins 101 = .ok (.iload 6, 2) := by decide +kernel
theorem dX8_twins_103 : decode cX8_twins 103 = .ok (.if_icmp .ne 6, 3) := by decide +kernel
theorem dX8_twins_106 : decode cX8_twins 106 = .ok (.iinc 4 1, 3) := by decide +kernel
theorem dX8_twins_109 : decode cX8_twins 109 = .ok (.iinc 7 1, 3) := by decide +kernel
theorem dX8_twins_112 : decode cX8_twins 112 = .ok (.goto (-61), 3) := by decide +kernel
theorem dX8_twins_115 : decode cX8_twins 115 = .ok (.iload 4, 2) := by decide +kernel
theorem dX8_twins_117 : decode cX8_twins 117 = .ok (.ireturn, 1) := by decide +kernel
theorem dX8_image_0 : decode cX8_image 0 = .ok (.aload_n 0, 1) := by decide +kernel
theorem dX8_image_1 : decode cX8_image 1 = .ok (.getfield 35, 3) := by decide +kernel
theorem dX8_image_4 : decode cX8_image 4 = .ok (.getfield 132, 3) := by decide +kernel
theorem dX8_image_7 : decode cX8_image 7 = .ok (.getfield 210, 3) := by decide +kernel
theorem dX8_image_10 : decode cX8_image 10 = .ok (.ifCond .ne 5, 3) := by decide +kernel
theorem dX8_image_13 : decode cX8_image 13 = .ok (.iconst (-1), 1) := by decide +kernel
theorem dX8_image_14 : decode cX8_image 14 = .ok (.ireturn, 1) := by decide +kernel
theorem dX8_image_15 : decode cX8_image 15 = .ok (.aload_n 0, 1) := by decide +kernel
theorem dX8_image_16 : decode cX8_image 16 = .ok (.getfield 42, 3) := by decide +kernel
theorem dX8_image_19 : decode cX8_image 19 = .ok (.aload_n 0, 1) := by decide +kernel
theorem dX8_image_20 : decode cX8_image 20 = .ok (.getfield 35, 3) := by decide +kernel
theorem dX8_image_23 : decode cX8_image 23 = .ok (.getfield 190, 3) := by decide +kernel
theorem dX8_image_26 : decode cX8_image 26 = .ok (.invokevirtual 299, 3) := by decide +kernel
theorem dX8_image_29 : decode cX8_image 29 = .ok (.aload_n 0, 1) := by decide +kernel
theorem dX8_image_30 : decode cX8_image 30 = .ok (.iconst 1, 1) := by decide +kernel
theorem dX8_image_31 : decode cX8_image 31 = .ok (.putfield 303, 3) := by decide +kernel
theorem dX8_image_34 : decode cX8_image 34 = .ok (.aload_n 0, 1) := by decide +kernel
theorem dX8_image_35 : decode cX8_image 35 = .ok (.getfield 42, 3) := by decide +kernel
theorem dX8_image_38 : decode cX8_image 38 = .ok (.getfield 193, 3) := by decide +kernel
theorem dX8_image_41 : decode cX8_image 41 = .ok (.ireturn, 1) := by decide +kernel
theorem dX8_back_0 : decode cX8_back 0 = .ok (.aload_n 0, 1) := by decide +kernel
theorem dX8_back_1 : decode cX8_back 1 = .ok (.getfield 303, 3) := by decide +kernel
theorem dX8_back_4 : decode cX8_back 4 = .ok (.ifCond .ne 5, 3) := by decide +kernel
theorem dX8_back_7 : decode cX8_back 7 = .ok (.iconst (-1), 1) := by decide +kernel
theorem dX8_back_8 : decode cX8_back 8 = .ok (.ireturn, 1) := by decide +kernel
theorem dX8_back_9 : decode cX8_back 9 = .ok (.aload_n 0, 1) := by decide +kernel
theorem dX8_back_10 : decode cX8_back 10 = .ok (.getfield 35, 3) := by decide +kernel
theorem dX8_back_13 : decode cX8_back 13 = .ok (.getfield 190, 3) := by decide +kernel
theorem dX8_back_16 : decode cX8_back 16 = .ok (.aload_n 0, 1) := by decide +kernel
theorem dX8_back_17 : decode cX8_back 17 = .ok (.getfield 42, 3) := by decide +kernel
theorem dX8_back_20 : decode cX8_back 20 = .ok (.invokevirtual 299, 3) := by decide +kernel
theorem dX8_back_23 : decode cX8_back 23 = .ok (.aload_n 0, 1) := by decide +kernel
theorem dX8_back_24 : decode cX8_back 24 = .ok (.getfield 42, 3) := by decide +kernel
theorem dX8_back_27 : decode cX8_back 27 = .ok (.getfield 193, 3) := by decide +kernel
theorem dX8_back_30 : decode cX8_back 30 = .ok (.ireturn, 1) := by decide +kernel
theorem dX8_count_0 : decode cX8_count 0 = .ok (.iload_n 1, 1) := by decide +kernel
theorem dX8_count_1 : decode cX8_count 1 = .ok (.tableswitch 120 0 7 #[47, 58, 66, 74, 85, 96, 107, 115], 47) := by decide +kernel
theorem dX8_count_48 : decode cX8_count 48 = .ok (.aload_n 0, 1) := by decide +kernel
theorem dX8_count_49 : decode cX8_count 49 = .ok (.getfield 35, 3) := by decide +kernel
theorem dX8_count_52 : decode cX8_count 52 = .ok (.getfield 132, 3) := by decide +kernel
theorem dX8_count_55 : decode cX8_count 55 = .ok (.getfield 210, 3) := by decide +kernel
theorem dX8_count_58 : decode cX8_count 58 = .ok (.ireturn, 1) := by decide +kernel
theorem dX8_count_59 : decode cX8_count 59 = .ok (.aload_n 0, 1) := by decide +kernel
theorem dX8_count_60 : decode cX8_count 60 = .ok (.getfield 35, 3) := by decide +kernel
theorem dX8_count_63 : decode cX8_count 63 = .ok (.getfield 108, 3) := by decide +kernel
theorem dX8_count_66 : decode cX8_count 66 = .ok (.ireturn, 1) := by decide +kernel
theorem dX8_count_67 : decode cX8_count 67 = .ok (.aload_n 0, 1) := by decide +kernel
theorem dX8_count_68 : decode cX8_count 68 = .ok (.getfield 10, 3) := by decide +kernel
theorem dX8_count_71 : decode cX8_count 71 = .ok (.getfield 87, 3) := by decide +kernel
theorem dX8_count_74 : decode cX8_count 74 = .ok (.ireturn, 1) := by decide +kernel
theorem dX8_count_75 : decode cX8_count 75 = .ok (.aload_n 0, 1) := by decide +kernel
theorem dX8_count_76 : decode cX8_count 76 = .ok (.getfield 35, 3) := by decide +kernel
theorem dX8_count_79 : decode cX8_count 79 = .ok (.getfield 190, 3) := by decide +kernel
theorem dX8_count_82 : decode cX8_count 82 = .ok (.getfield 193, 3) := by decide +kernel
theorem dX8_count_85 : decode cX8_count 85 = .ok (.ireturn, 1) := by decide +kernel
theorem dX8_count_86 : decode cX8_count 86 = .ok (.aload_n 0, 1) := by decide +kernel
theorem dX8_count_87 : decode cX8_count 87 = .ok (.getfield 35, 3) := by decide +kernel
theorem dX8_count_90 : decode cX8_count 90 = .ok (.getfield 190, 3) := by decide +kernel
theorem dX8_count_93 : decode cX8_count 93 = .ok (.getfield 242, 3) := by decide +kernel
theorem dX8_count_96 : decode cX8_count 96 = .ok (.ireturn, 1) := by decide +kernel
theorem dX8_count_97 : decode cX8_count 97 = .ok (.aload_n 0, 1) := by decide +kernel
theorem dX8_count_98 : decode cX8_count 98 = .ok (.getfield 35, 3) := by decide +kernel
theorem dX8_count_101 : decode cX8_count 101 = .ok (.getfield 190, 3) := by decide +kernel
theorem dX8_count_104 : decode cX8_count 104 = .ok (.getfield 252, 3) := by decide +kernel
theorem dX8_count_107 : decode cX8_count 107 = .ok (.ireturn, 1) := by decide +kernel
theorem dX8_count_108 : decode cX8_count 108 = .ok (.aload_n 0, 1) := by decide +kernel
theorem dX8_count_109 : decode cX8_count 109 = .ok (.getfield 58, 3) := by decide +kernel
theorem dX8_count_112 : decode cX8_count 112 = .ok (.getfield 307, 3) := by decide +kernel
theorem dX8_count_115 : decode cX8_count 115 = .ok (.ireturn, 1) := by decide +kernel
theorem dX8_count_116 : decode cX8_count 116 = .ok (.aload_n 0, 1) := by decide +kernel
theorem dX8_count_117 : decode cX8_count 117 = .ok (.getfield 79, 3) := by decide +kernel
theorem dX8_count_120 : decode cX8_count 120 = .ok (.ireturn, 1) := by decide +kernel
theorem dX8_count_121 : decode cX8_count 121 = .ok (.ldc 228, 2) := by decide +kernel
theorem dX8_count_123 : decode cX8_count 123 = .ok (.ireturn, 1) := by decide +kernel
theorem dX8_bytesIn_0 : decode cX8_bytesIn 0 = .ok (.iconst 0, 1) := by decide +kernel
theorem dX8_bytesIn_1 : decode cX8_bytesIn 1 = .ok (.istore_n 1, 1) := by decide +kernel
theorem dX8_bytesIn_2 : decode cX8_bytesIn 2 = .ok (.bipush 24, 2) := by decide +kernel
theorem dX8_bytesIn_4 : decode cX8_bytesIn 4 = .ok (.istore_n 2, 1) := by decide +kernel
theorem dX8_bytesIn_5 : decode cX8_bytesIn 5 = .ok (.iload_n 2, 1) := by decide +kernel
theorem dX8_bytesIn_6 : decode cX8_bytesIn 6 = .ok (.ifCond .lt 22, 3) := by decide +kernel
theorem dX8_bytesIn_9 : decode cX8_bytesIn 9 = .ok (.iload_n 0, 1) := by decide +kernel
theorem dX8_bytesIn_10 : decode cX8_bytesIn 10 = .ok (.iload_n 2, 1) := by decide +kernel
theorem dX8_bytesIn_11 : decode cX8_bytesIn 11 = .ok (.iushr, 1) := by decide +kernel
theorem dX8_bytesIn_12 : decode cX8_bytesIn 12 = .ok (.sipush 255, 3) := by decide +kernel
theorem dX8_bytesIn_15 : decode cX8_bytesIn 15 = .ok (.iand, 1) := by decide +kernel
theorem dX8_bytesIn_16 : decode cX8_bytesIn 16 = .ok (.ifCond .eq 6, 3) := by decide +kernel
theorem dX8_bytesIn_19 : decode cX8_bytesIn 19 = .ok (.iinc 1 1, 3) := by decide +kernel
theorem dX8_bytesIn_22 : decode cX8_bytesIn 22 = .ok (.iinc 2 (-8), 3) := by decide +kernel
theorem dX8_bytesIn_25 : decode cX8_bytesIn 25 = .ok (.goto (-20), 3) := by decide +kernel
theorem dX8_bytesIn_28 : decode cX8_bytesIn 28 = .ok (.iload_n 1, 1) := by decide +kernel
theorem dX8_bytesIn_29 : decode cX8_bytesIn 29 = .ok (.ireturn, 1) := by decide +kernel
theorem dX8_takeIsles_0 : decode cX8_takeIsles 0 = .ok (.aload_n 0, 1) := by decide +kernel
theorem dX8_takeIsles_1 : decode cX8_takeIsles 1 = .ok (.getfield 10, 3) := by decide +kernel
theorem dX8_takeIsles_4 : decode cX8_takeIsles 4 = .ok (.iconst 0, 1) := by decide +kernel
theorem dX8_takeIsles_5 : decode cX8_takeIsles 5 = .ok (.putfield 87, 3) := by decide +kernel
theorem dX8_takeIsles_8 : decode cX8_takeIsles 8 = .ok (.aload_n 0, 1) := by decide +kernel
theorem dX8_takeIsles_9 : decode cX8_takeIsles 9 = .ok (.getfield 35, 3) := by decide +kernel
theorem dX8_takeIsles_12 : decode cX8_takeIsles 12 = .ok (.aload_n 0, 1) := by decide +kernel
theorem dX8_takeIsles_13 : decode cX8_takeIsles 13 = .ok (.getfield 19, 3) := by decide +kernel
theorem dX8_takeIsles_16 : decode cX8_takeIsles 16 = .ok (.invokevirtual 310, 3) := by decide +kernel
theorem dX8_takeIsles_19 : decode cX8_takeIsles 19 = .ok (.aload_n 0, 1) := by decide +kernel
theorem dX8_takeIsles_20 : decode cX8_takeIsles 20 = .ok (.getfield 58, 3) := by decide +kernel
theorem dX8_takeIsles_23 : decode cX8_takeIsles 23 = .ok (.iconst 0, 1) := by decide +kernel
theorem dX8_takeIsles_24 : decode cX8_takeIsles 24 = .ok (.putfield 307, 3) := by decide +kernel
theorem dX8_takeIsles_27 : decode cX8_takeIsles 27 = .ok (.aload_n 0, 1) := by decide +kernel
theorem dX8_takeIsles_28 : decode cX8_takeIsles 28 = .ok (.iconst 0, 1) := by decide +kernel
theorem dX8_takeIsles_29 : decode cX8_takeIsles 29 = .ok (.putfield 303, 3) := by decide +kernel
theorem dX8_takeIsles_32 : decode cX8_takeIsles 32 = .ok (.aload_n 0, 1) := by decide +kernel
theorem dX8_takeIsles_33 : decode cX8_takeIsles 33 = .ok (.getfield 35, 3) := by decide +kernel
theorem dX8_takeIsles_36 : decode cX8_takeIsles 36 = .ok (.getfield 132, 3) := by decide +kernel
theorem dX8_takeIsles_39 : decode cX8_takeIsles 39 = .ok (.getfield 210, 3) := by decide +kernel
theorem dX8_takeIsles_42 : decode cX8_takeIsles 42 = .ok (.ireturn, 1) := by decide +kernel
theorem dX8_takeCustom_0 : decode cX8_takeCustom 0 = .ok (.aload_n 0, 1) := by decide +kernel
theorem dX8_takeCustom_1 : decode cX8_takeCustom 1 = .ok (.getfield 10, 3) := by decide +kernel
theorem dX8_takeCustom_4 : decode cX8_takeCustom 4 = .ok (.iconst 0, 1) := by decide +kernel
theorem dX8_takeCustom_5 : decode cX8_takeCustom 5 = .ok (.putfield 87, 3) := by decide +kernel
theorem dX8_takeCustom_8 : decode cX8_takeCustom 8 = .ok (.aload_n 0, 1) := by decide +kernel
theorem dX8_takeCustom_9 : decode cX8_takeCustom 9 = .ok (.getfield 35, 3) := by decide +kernel
theorem dX8_takeCustom_12 : decode cX8_takeCustom 12 = .ok (.aload_n 0, 1) := by decide +kernel
theorem dX8_takeCustom_13 : decode cX8_takeCustom 13 = .ok (.getfield 28, 3) := by decide +kernel
theorem dX8_takeCustom_16 : decode cX8_takeCustom 16 = .ok (.invokevirtual 314, 3) := by decide +kernel
theorem dX8_takeCustom_19 : decode cX8_takeCustom 19 = .ok (.invokevirtual 318, 3) := by decide +kernel
theorem dX8_takeCustom_22 : decode cX8_takeCustom 22 = .ok (.ireturn, 1) := by decide +kernel
theorem dX8_isDay_0 : decode cX8_isDay 0 = .ok (.iload_n 0, 1) := by decide +kernel
theorem dX8_isDay_1 : decode cX8_isDay 1 = .ok (.ifCond .lt 13, 3) := by decide +kernel
theorem dX8_isDay_4 : decode cX8_isDay 4 = .ok (.iload_n 0, 1) := by decide +kernel
theorem dX8_isDay_5 : decode cX8_isDay 5 = .ok (.bipush 99, 2) := by decide +kernel
theorem dX8_isDay_7 : decode cX8_isDay 7 = .ok (.if_icmp .gt 7, 3) := by decide +kernel
theorem dX8_isDay_10 : decode cX8_isDay 10 = .ok (.iconst 1, 1) := by decide +kernel
theorem dX8_isDay_11 : decode cX8_isDay 11 = .ok (.goto 4, 3) := by decide +kernel
theorem dX8_isDay_14 : decode cX8_isDay 14 = .ok (.iconst 0, 1) := by decide +kernel
theorem dX8_isDay_15 : decode cX8_isDay 15 = .ok (.ireturn, 1) := by decide +kernel
theorem dX8_isNumber_0 : decode cX8_isNumber 0 = .ok (.iload_n 0, 1) := by decide +kernel
theorem dX8_isNumber_1 : decode cX8_isNumber 1 = .ok (.ifCond .lt 14, 3) := by decide +kernel
theorem dX8_isNumber_4 : decode cX8_isNumber 4 = .ok (.iload_n 0, 1) := by decide +kernel
theorem dX8_isNumber_5 : decode cX8_isNumber 5 = .ok (.sipush 999, 3) := by decide +kernel
theorem dX8_isNumber_8 : decode cX8_isNumber 8 = .ok (.if_icmp .gt 7, 3) := by decide +kernel
theorem dX8_isNumber_11 : decode cX8_isNumber 11 = .ok (.iconst 1, 1) := by decide +kernel
theorem dX8_isNumber_12 : decode cX8_isNumber 12 = .ok (.goto 4, 3) := by decide +kernel
theorem dX8_isNumber_15 : decode cX8_isNumber 15 = .ok (.iconst 0, 1) := by decide +kernel
theorem dX8_isNumber_16 : decode cX8_isNumber 16 = .ok (.ireturn, 1) := by decide +kernel
theorem dX8_isRules_0 : decode cX8_isRules 0 = .ok (.iload_n 0, 1) := by decide +kernel
theorem dX8_isRules_1 : decode cX8_isRules 1 = .ok (.ifCond .lt 13, 3) := by decide +kernel
theorem dX8_isRules_4 : decode cX8_isRules 4 = .ok (.iload_n 0, 1) := by decide +kernel
theorem dX8_isRules_5 : decode cX8_isRules 5 = .ok (.bipush 7, 2) := by decide +kernel
theorem dX8_isRules_7 : decode cX8_isRules 7 = .ok (.if_icmp .gt 7, 3) := by decide +kernel
theorem dX8_isRules_10 : decode cX8_isRules 10 = .ok (.iconst 1, 1) := by decide +kernel
theorem dX8_isRules_11 : decode cX8_isRules 11 = .ok (.goto 4, 3) := by decide +kernel
theorem dX8_isRules_14 : decode cX8_isRules 14 = .ok (.iconst 0, 1) := by decide +kernel
theorem dX8_isRules_15 : decode cX8_isRules 15 = .ok (.ireturn, 1) := by decide +kernel
theorem dX8_isPayment_0 : decode cX8_isPayment 0 = .ok (.aload_n 0, 1) := by decide +kernel
theorem dX8_isPayment_1 : decode cX8_isPayment 1 = .ok (.getfield 35, 3) := by decide +kernel
theorem dX8_isPayment_4 : decode cX8_isPayment 4 = .ok (.iload_n 1, 1) := by decide +kernel
theorem dX8_isPayment_5 : decode cX8_isPayment 5 = .ok (.invokevirtual 114, 3) := by decide +kernel
theorem dX8_isPayment_8 : decode cX8_isPayment 8 = .ok (.ifCond .eq 26, 3) := by decide +kernel
theorem dX8_isPayment_11 : decode cX8_isPayment 11 = .ok (.iload_n 2, 1) := by decide +kernel
theorem dX8_isPayment_12 : decode cX8_isPayment 12 = .ok (.iconst 1, 1) := by decide +kernel
theorem dX8_isPayment_13 : decode cX8_isPayment 13 = .ok (.if_icmp .lt 21, 3) := by decide +kernel
theorem dX8_isPayment_16 : decode cX8_isPayment 16 = .ok (.iload_n 2, 1) := by decide +kernel
theorem dX8_isPayment_17 : decode cX8_isPayment 17 = .ok (.sipush 200, 3) := by decide +kernel
theorem dX8_isPayment_20 : decode cX8_isPayment 20 = .ok (.if_icmp .gt 14, 3) := by decide +kernel
theorem dX8_isPayment_23 : decode cX8_isPayment 23 = .ok (.iload_n 3, 1) := by decide +kernel
theorem dX8_isPayment_24 : decode cX8_isPayment 24 = .ok (.invokestatic 165, 3) := by decide +kernel
theorem dX8_isPayment_27 : decode cX8_isPayment 27 = .ok (.ifCond .eq 7, 3) := by decide +kernel
theorem dX8_isPayment_30 : decode cX8_isPayment 30 = .ok (.iconst 1, 1) := by decide +kernel
theorem dX8_isPayment_31 : decode cX8_isPayment 31 = .ok (.goto 4, 3) := by decide +kernel
theorem dX8_isPayment_34 : decode cX8_isPayment 34 = .ok (.iconst 0, 1) := by decide +kernel
theorem dX8_isPayment_35 : decode cX8_isPayment 35 = .ok (.ireturn, 1) := by decide +kernel
theorem dX8_isFamily_0 : decode cX8_isFamily 0 = .ok (.aload_n 0, 1) := by decide +kernel
theorem dX8_isFamily_1 : decode cX8_isFamily 1 = .ok (.getfield 35, 3) := by decide +kernel
theorem dX8_isFamily_4 : decode cX8_isFamily 4 = .ok (.iload_n 1, 1) := by decide +kernel
theorem dX8_isFamily_5 : decode cX8_isFamily 5 = .ok (.invokevirtual 114, 3) := by decide +kernel
theorem dX8_isFamily_8 : decode cX8_isFamily 8 = .ok (.ifCond .eq 18, 3) := by decide +kernel
theorem dX8_isFamily_11 : decode cX8_isFamily 11 = .ok (.iload_n 2, 1) := by decide +kernel
theorem dX8_isFamily_12 : decode cX8_isFamily 12 = .ok (.iconst 1, 1) := by decide +kernel
theorem dX8_isFamily_13 : decode cX8_isFamily 13 = .ok (.if_icmp .lt 13, 3) := by decide +kernel
theorem dX8_isFamily_16 : decode cX8_isFamily 16 = .ok (.iload_n 2, 1) := by decide +kernel
theorem dX8_isFamily_17 : decode cX8_isFamily 17 = .ok (.bipush 30, 2) := by decide +kernel
theorem dX8_isFamily_19 : decode cX8_isFamily 19 = .ok (.if_icmp .gt 7, 3) := by decide +kernel
theorem dX8_isFamily_22 : decode cX8_isFamily 22 = .ok (.iconst 1, 1) := by decide +kernel
theorem dX8_isFamily_23 : decode cX8_isFamily 23 = .ok (.goto 4, 3) := by decide +kernel
theorem dX8_isFamily_26 : decode cX8_isFamily 26 = .ok (.iconst 0, 1) := by decide +kernel
theorem dX8_isFamily_27 : decode cX8_isFamily 27 = .ok (.ireturn, 1) := by decide +kernel
theorem dX8_isBitBase_0 : decode cX8_isBitBase 0 = .ok (.aload_n 0, 1) := by decide +kernel
theorem dX8_isBitBase_1 : decode cX8_isBitBase 1 = .ok (.getfield 35, 3) := by decide +kernel
theorem dX8_isBitBase_4 : decode cX8_isBitBase 4 = .ok (.iload_n 1, 1) := by decide +kernel
theorem dX8_isBitBase_5 : decode cX8_isBitBase 5 = .ok (.invokevirtual 114, 3) := by decide +kernel
theorem dX8_isBitBase_8 : decode cX8_isBitBase 8 = .ok (.ifCond .eq 30, 3) := by decide +kernel
theorem dX8_isBitBase_11 : decode cX8_isBitBase 11 = .ok (.iload_n 2, 1) := by decide +kernel
theorem dX8_isBitBase_12 : decode cX8_isBitBase 12 = .ok (.ifCond .lt 26, 3) := by decide +kernel
theorem dX8_isBitBase_15 : decode cX8_isBitBase 15 = .ok (.iload_n 2, 1) := by decide +kernel
theorem dX8_isBitBase_16 : decode cX8_isBitBase 16 = .ok (.sipush 200, 3) := by decide +kernel
theorem dX8_isBitBase_19 : decode cX8_isBitBase 19 = .ok (.if_icmp .gt 19, 3) := by decide +kernel
theorem dX8_isBitBase_22 : decode cX8_isBitBase 22 = .ok (.aload_n 0, 1) := by decide +kernel
theorem dX8_isBitBase_23 : decode cX8_isBitBase 23 = .ok (.getfield 35, 3) := by decide +kernel
theorem dX8_isBitBase_26 : decode cX8_isBitBase 26 = .ok (.iload_n 1, 1) := by decide +kernel
theorem dX8_isBitBase_27 : decode cX8_isBitBase 27 = .ok (.iload_n 2, 1) := by decide +kernel
theorem dX8_isBitBase_28 : decode cX8_isBitBase 28 = .ok (.invokevirtual 187, 3) := by decide +kernel
theorem dX8_isBitBase_31 : decode cX8_isBitBase 31 = .ok (.ifCond .ne 7, 3) := by decide +kernel
theorem dX8_isBitBase_34 : decode cX8_isBitBase 34 = .ok (.iconst 1, 1) := by decide +kernel
theorem dX8_isBitBase_35 : decode cX8_isBitBase 35 = .ok (.goto 4, 3) := by decide +kernel
theorem dX8_isBitBase_38 : decode cX8_isBitBase 38 = .ok (.iconst 0, 1) := by decide +kernel
theorem dX8_isBitBase_39 : decode cX8_isBitBase 39 = .ok (.ireturn, 1) := by decide +kernel
theorem dX8_openPurse_0 : decode cX8_openPurse 0 = .ok (.aload_n 0, 1) := by decide +kernel
theorem dX8_openPurse_1 : decode cX8_openPurse 1 = .ok (.getfield 49, 3) := by decide +kernel
theorem dX8_openPurse_4 : decode cX8_openPurse 4 = .ok (.iload_n 2, 1) := by decide +kernel
theorem dX8_openPurse_5 : decode cX8_openPurse 5 = .ok (.iload_n 3, 1) := by decide +kernel
theorem dX8_openPurse_6 : decode cX8_openPurse 6 = .ok (.invokevirtual 288, 3) := by decide +kernel
theorem dX8_openPurse_9 : decode cX8_openPurse 9 = .ok (.aload_n 0, 1) := by decide +kernel
theorem dX8_openPurse_10 : decode cX8_openPurse 10 = .ok (.getfield 35, 3) := by decide +kernel
theorem dX8_openPurse_13 : decode cX8_openPurse 13 = .ok (.aload_n 0, 1) := by decide +kernel
theorem dX8_openPurse_14 : decode cX8_openPurse 14 = .ok (.getfield 49, 3) := by decide +kernel
theorem dX8_openPurse_17 : decode cX8_openPurse 17 = .ok (.getfield 281, 3) := by decide +kernel
theorem dX8_openPurse_20 : decode cX8_openPurse 20 = .ok (.iload_n 1, 1) := by decide +kernel
theorem dX8_openPurse_21 : decode cX8_openPurse 21 = .ok (.aload_n 0, 1) := by decide +kernel
theorem dX8_openPurse_22 : decode cX8_openPurse 22 = .ok (.getfield 35, 3) := by decide +kernel
theorem dX8_openPurse_25 : decode cX8_openPurse 25 = .ok (.getfield 190, 3) := by decide +kernel
theorem dX8_openPurse_28 : decode cX8_openPurse 28 = .ok (.getfield 193, 3) := by decide +kernel
theorem dX8_openPurse_31 : decode cX8_openPurse 31 = .ok (.aload_n 0, 1) := by decide +kernel
theorem dX8_openPurse_32 : decode cX8_openPurse 32 = .ok (.getfield 35, 3) := by decide +kernel
theorem dX8_openPurse_35 : decode cX8_openPurse 35 = .ok (.iload_n 1, 1) := by decide +kernel
theorem dX8_openPurse_36 : decode cX8_openPurse 36 = .ok (.aload_n 0, 1) := by decide +kernel
theorem dX8_openPurse_37 : decode cX8_openPurse 37 = .ok (.getfield 35, 3) := by decide +kernel
theorem dX8_openPurse_40 : decode cX8_openPurse 40 = .ok (.getfield 190, 3) := by decide +kernel
theorem dX8_openPurse_43 : decode cX8_openPurse 43 = .ok (.getfield 193, 3) := by decide +kernel
theorem dX8_openPurse_46 : decode cX8_openPurse 46 = .ok (.invokevirtual 128, 3) := by decide +kernel
theorem dX8_openPurse_49 : decode cX8_openPurse 49 = .ok (.invokevirtual 292, 3) := by decide +kernel
theorem dX8_openPurse_52 : decode cX8_openPurse 52 = .ok (.return_, 1) := by decide +kernel
theorem dX8_openFamily_0 : decode cX8_openFamily 0 = .ok (.aload_n 0, 1) := by decide +kernel
theorem dX8_openFamily_1 : decode cX8_openFamily 1 = .ok (.iload_n 1, 1) := by decide +kernel
theorem dX8_openFamily_2 : decode cX8_openFamily 2 = .ok (.bipush 30, 2) := by decide +kernel
theorem dX8_openFamily_4 : decode cX8_openFamily 4 = .ok (.iconst 5, 1) := by decide +kernel
theorem dX8_openFamily_5 : decode cX8_openFamily 5 = .ok (.invokevirtual 152, 3) := by decide +kernel
theorem dX8_openFamily_8 : decode cX8_openFamily 8 = .ok (.return_, 1) := by decide +kernel
theorem dX8_forbiddenBehind_0 : decode cX8_forbiddenBehind 0 = .ok (.iconst 0, 1) := by decide +kernel
theorem dX8_forbiddenBehind_1 : decode cX8_forbiddenBehind 1 = .ok (.istore_n 3, 1) := by decide +kernel
theorem dX8_forbiddenBehind_2 : decode cX8_forbiddenBehind 2 = .ok (.iload_n 2, 1) := by decide +kernel
theorem dX8_forbiddenBehind_3 : decode cX8_forbiddenBehind 3 = .ok (.iconst 1, 1) := by decide +kernel
theorem dX8_forbiddenBehind_4 : decode cX8_forbiddenBehind 4 = .ok (.iadd, 1) := by decide +kernel
theorem dX8_forbiddenBehind_5 : decode cX8_forbiddenBehind 5 = .ok (.istore 4, 2) := by decide +kernel
theorem dX8_forbiddenBehind_7 : decode cX8_forbiddenBehind 7 = .ok (.iload 4, 2) := by decide +kernel
theorem dX8_forbiddenBehind_9 : decode cX8_forbiddenBehind 9 = .ok (.sipush 999, 3) := by decide +kernel
theorem dX8_forbiddenBehind_12 : decode cX8_forbiddenBehind 12 = .ok (.if_icmp .gt 27, 3) := by decide +kernel
theorem dX8_forbiddenBehind_15 : decode cX8_forbiddenBehind 15 = .ok (.aload_n 0, 1) := by decide +kernel
theorem dX8_forbiddenBehind_16 : decode cX8_forbiddenBehind 16 = .ok (.getfield 35, 3) := by decide +kernel
theorem dX8_forbiddenBehind_19 : decode cX8_forbiddenBehind 19 = .ok (.iload_n 1, 1) := by decide +kernel
theorem dX8_forbiddenBehind_20 : decode cX8_forbiddenBehind 20 = .ok (.iload 4, 2) := by decide +kernel
theorem dX8_forbiddenBehind_22 : decode cX8_forbiddenBehind 22 = .ok (.invokevirtual 187, 3) := by decide +kernel
theorem dX8_forbiddenBehind_25 : decode cX8_forbiddenBehind 25 = .ok (.ifCond .ne 5, 3) := by decide +kernel
theorem dX8_forbiddenBehind_28 : decode cX8_forbiddenBehind 28 = .ok (.iload_n 3, 1) := by decide +kernel
theorem dX8_forbiddenBehind_29 : decode cX8_forbiddenBehind 29 = .ok (.ireturn, 1) := by decide +kernel
theorem dX8_forbiddenBehind_30 : decode cX8_forbiddenBehind 30 = .ok (.iinc 3 1, 3) := by decide +kernel
theorem dX8_forbiddenBehind_33 : decode cX8_forbiddenBehind 33 = .ok (.iinc 4 1, 3) := by decide +kernel
theorem dX8_forbiddenBehind_36 : decode cX8_forbiddenBehind 36 = .ok (.goto (-29), 3) := by decide +kernel
theorem dX8_forbiddenBehind_39 : decode cX8_forbiddenBehind 39 = .ok (.iload_n 3, 1) := by decide +kernel
theorem dX8_forbiddenBehind_40 : decode cX8_forbiddenBehind 40 = .ok (.ireturn, 1) := by decide +kernel
theorem dX8_weightOf_0 : decode cX8_weightOf 0 = .ok (.iload_n 1, 1) := by decide +kernel
theorem dX8_weightOf_1 : decode cX8_weightOf 1 = .ok (.iconst 1, 1) := by decide +kernel
theorem dX8_weightOf_2 : decode cX8_weightOf 2 = .ok (.if_icmp .lt 18, 3) := by decide +kernel
theorem dX8_weightOf_5 : decode cX8_weightOf 5 = .ok (.iload_n 1, 1) := by decide +kernel
theorem dX8_weightOf_6 : decode cX8_weightOf 6 = .ok (.bipush 99, 2) := by decide +kernel
theorem dX8_weightOf_8 : decode cX8_weightOf 8 = .ok (.if_icmp .gt 12, 3) := by decide +kernel
theorem dX8_weightOf_11 : decode cX8_weightOf 11 = .ok (.aload_n 0, 1) := by decide +kernel
theorem dX8_weightOf_12 : decode cX8_weightOf 12 = .ok (.getfield 62, 3) := by decide +kernel
theorem dX8_weightOf_15 : decode cX8_weightOf 15 = .ok (.iload_n 1, 1) := by decide +kernel
theorem dX8_weightOf_16 : decode cX8_weightOf 16 = .ok (.iaload, 1) := by decide +kernel
theorem dX8_weightOf_17 : decode cX8_weightOf 17 = .ok (.goto 4, 3) := by decide +kernel
theorem dX8_weightOf_20 : decode cX8_weightOf 20 = .ok (.iconst 1, 1) := by decide +kernel
theorem dX8_weightOf_21 : decode cX8_weightOf 21 = .ok (.ireturn, 1) := by decide +kernel
theorem dX8_winningMove_0 : decode cX8_winningMove 0 = .ok (.iload 4, 2) := by decide +kernel
theorem dX8_winningMove_2 : decode cX8_winningMove 2 = .ok (.iconst 1, 1) := by decide +kernel
theorem dX8_winningMove_3 : decode cX8_winningMove 3 = .ok (.iadd, 1) := by decide +kernel
theorem dX8_winningMove_4 : decode cX8_winningMove 4 = .ok (.istore 5, 2) := by decide +kernel
theorem dX8_winningMove_6 : decode cX8_winningMove 6 = .ok (.iload 5, 2) := by decide +kernel
theorem dX8_winningMove_8 : decode cX8_winningMove 8 = .ok (.iload 4, 2) := by decide +kernel
theorem dX8_winningMove_10 : decode cX8_winningMove 10 = .ok (.iload_n 2, 1) := by decide +kernel
theorem dX8_winningMove_11 : decode cX8_winningMove 11 = .ok (.iadd, 1) := by decide +kernel
theorem dX8_winningMove_12 : decode cX8_winningMove 12 = .ok (.if_icmp .gt 41, 3) := by decide +kernel
theorem dX8_winningMove_15 : decode cX8_winningMove 15 = .ok (.iload 5, 2) := by decide +kernel
theorem dX8_winningMove_17 : decode cX8_winningMove 17 = .ok (.iload_n 3, 1) := by decide +kernel
theorem dX8_winningMove_18 : decode cX8_winningMove 18 = .ok (.if_icmp .gt 35, 3) := by decide +kernel
theorem dX8_winningMove_21 : decode cX8_winningMove 21 = .ok (.aload_n 0, 1) := by decide +kernel
theorem dX8_winningMove_22 : decode cX8_winningMove 22 = .ok (.getfield 72, 3) := by decide +kernel
theorem dX8_winningMove_25 : decode cX8_winningMove 25 = .ok (.iload 5, 2) := by decide +kernel
theorem dX8_winningMove_27 : decode cX8_winningMove 27 = .ok (.baload, 1) := by decide +kernel
theorem dX8_winningMove_28 : decode cX8_winningMove 28 = .ok (.ifCond .ne 19, 3) := by decide +kernel
theorem dX8_winningMove_31 : decode cX8_winningMove 31 = .ok (.aload_n 0, 1) := by decide +kernel
theorem dX8_winningMove_32 : decode cX8_winningMove 32 = .ok (.getfield 35, 3) := by decide +kernel
theorem dX8_winningMove_35 : decode cX8_winningMove 35 = .ok (.iload_n 1, 1) := by decide +kernel
theorem dX8_winningMove_36 : decode cX8_winningMove 36 = .ok (.iload 5, 2) := by decide +kernel
theorem dX8_winningMove_38 : decode cX8_winningMove 38 = .ok (.invokevirtual 187, 3) := by decide +kernel
theorem dX8_winningMove_41 : decode cX8_winningMove 41 = .ok (.ifCond .ne 6, 3) := by decide +kernel
theorem dX8_winningMove_44 : decode cX8_winningMove 44 = .ok (.iload 5, 2) := by decide +kernel
theorem dX8_winningMove_46 : decode cX8_winningMove 46 = .ok (.ireturn, 1) := by decide +kernel
theorem dX8_winningMove_47 : decode cX8_winningMove 47 = .ok (.iinc 5 1, 3) := by decide +kernel
theorem dX8_winningMove_50 : decode cX8_winningMove 50 = .ok (.goto (-44), 3) := by decide +kernel
theorem dX8_winningMove_53 : decode cX8_winningMove 53 = .ok (.iconst (-1), 1) := by decide +kernel
theorem dX8_winningMove_54 : decode cX8_winningMove 54 = .ok (.ireturn, 1) := by decide +kernel
theorem dX8_splitRow_0 : decode cX8_splitRow 0 = .ok (.iload_n 1, 1) := by decide +kernel
theorem dX8_splitRow_1 : decode cX8_splitRow 1 = .ok (.istore_n 3, 1) := by decide +kernel
theorem dX8_splitRow_2 : decode cX8_splitRow 2 = .ok (.iconst 0, 1) := by decide +kernel
theorem dX8_splitRow_3 : decode cX8_splitRow 3 = .ok (.istore 4, 2) := by decide +kernel
theorem dX8_splitRow_5 : decode cX8_splitRow 5 = .ok (.iload 4, 2) := by decide +kernel
theorem dX8_splitRow_7 : decode cX8_splitRow 7 = .ok (.iload_n 2, 1) := by decide +kernel
theorem dX8_splitRow_8 : decode cX8_splitRow 8 = .ok (.if_icmp .ge 51, 3) := by decide +kernel
theorem dX8_splitRow_11 : decode cX8_splitRow 11 = .ok (.iload 4, 2) := by decide +kernel
theorem dX8_splitRow_13 : decode cX8_splitRow 13 = .ok (.bipush 8, 2) := by decide +kernel
theorem dX8_splitRow_15 : decode cX8_splitRow 15 = .ok (.if_icmp .ge 44, 3) := by decide +kernel
theorem dX8_splitRow_18 : decode cX8_splitRow 18 = .ok (.aload_n 0, 1) := by decide +kernel
theorem dX8_splitRow_19 : decode cX8_splitRow 19 = .ok (.getfield 76, 3) := by decide +kernel
theorem dX8_splitRow_22 : decode cX8_splitRow 22 = .ok (.iload 4, 2) := by decide +kernel
theorem dX8_splitRow_24 : decode cX8_splitRow 24 = .ok (.iload_n 3, 1) := by decide +kernel
theorem dX8_splitRow_25 : decode cX8_splitRow 25 = .ok (.bipush 10, 2) := by decide +kernel
theorem dX8_splitRow_27 : decode cX8_splitRow 27 = .ok (.irem, 1) := by decide +kernel
theorem dX8_splitRow_28 : decode cX8_splitRow 28 = .ok (.iastore, 1) := by decide +kernel
theorem dX8_splitRow_29 : decode cX8_splitRow 29 = .ok (.iload_n 3, 1) := by decide +kernel
theorem dX8_splitRow_30 : decode cX8_splitRow 30 = .ok (.bipush 10, 2) := by decide +kernel
theorem dX8_splitRow_32 : decode cX8_splitRow 32 = .ok (.idiv, 1) := by decide +kernel
theorem dX8_splitRow_33 : decode cX8_splitRow 33 = .ok (.istore_n 3, 1) := by decide +kernel
theorem dX8_splitRow_34 : decode cX8_splitRow 34 = .ok (.aload_n 0, 1) := by decide +kernel
theorem dX8_splitRow_35 : decode cX8_splitRow 35 = .ok (.getfield 35, 3) := by decide +kernel
theorem dX8_splitRow_38 : decode cX8_splitRow 38 = .ok (.aload_n 0, 1) := by decide +kernel
theorem dX8_splitRow_39 : decode cX8_splitRow 39 = .ok (.getfield 76, 3) := by decide +kernel
theorem dX8_splitRow_42 : decode cX8_splitRow 42 = .ok (.iload 4, 2) := by decide +kernel
theorem dX8_splitRow_44 : decode cX8_splitRow 44 = .ok (.iaload, 1) := by decide +kernel
theorem dX8_splitRow_45 : decode cX8_splitRow 45 = .ok (.invokevirtual 114, 3) := by decide +kernel
theorem dX8_splitRow_48 : decode cX8_splitRow 48 = .ok (.ifCond .ne 5, 3) := by decide +kernel
theorem dX8_splitRow_51 : decode cX8_splitRow 51 = .ok (.iconst 0, 1) := by decide +kernel
theorem dX8_splitRow_52 : decode cX8_splitRow 52 = .ok (.ireturn, 1) := by decide +kernel
theorem dX8_splitRow_53 : decode cX8_splitRow 53 = .ok (.iinc 4 1, 3) := by decide +kernel
theorem dX8_splitRow_56 : decode cX8_splitRow 56 = .ok (.goto (-51), 3) := by decide +kernel
theorem dX8_splitRow_59 : decode cX8_splitRow 59 = .ok (.iload_n 3, 1) := by decide +kernel
theorem dX8_splitRow_60 : decode cX8_splitRow 60 = .ok (.ifCond .ne 7, 3) := by decide +kernel
theorem dX8_splitRow_63 : decode cX8_splitRow 63 = .ok (.iconst 1, 1) := by decide +kernel
theorem dX8_splitRow_64 : decode cX8_splitRow 64 = .ok (.goto 4, 3) := by decide +kernel
theorem dX8_splitRow_67 : decode cX8_splitRow 67 = .ok (.iconst 0, 1) := by decide +kernel
theorem dX8_splitRow_68 : decode cX8_splitRow 68 = .ok (.ireturn, 1) := by decide +kernel
