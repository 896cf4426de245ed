theorem dX0_init_0 : decode cX0_init 0 = .ok (.aload_n 0, 1) := by decide +kernel
theorem dX0_init_1 : decode cX0_init 1 = .ok (.invokespecial 3, 3) := by decide +kernel
theorem dX0_init_4 : decode cX0_init 4 = .ok (.aload_n 0, 1) := by decide +kernel
theorem dX0_init_5 : decode cX0_init 5 = .ok (.bipush 6, 2) := by decide +kernel
theorem dX0_init_7 : decode cX0_init 7 = .ok (.newarray .int, 2) := by decide +kernel
theorem dX0_init_9 : decode cX0_init 9 = .ok (.putfield 9, 3) := by decide +kernel
theorem dX0_init_12 : decode cX0_init 12 = .ok (.aload_n 0, 1) := by decide +kernel
theorem dX0_init_13 : decode cX0_init 13 = .ok (.bipush 6, 2) := by decide +kernel
theorem dX0_init_15 : decode cX0_init 15 = .ok (.bipush 6, 2) := by decide +kernel
theorem dX0_init_17 : decode cX0_init 17 = .ok (.multianewarray 15 2, 4) := by decide +kernel
theorem dX0_init_21 : decode cX0_init 21 = .ok (.putfield 17, 3) := by decide +kernel
theorem dX0_init_24 : decode cX0_init 24 = .ok (.return_, 1) := by decide +kernel
theorem dX0_read_0 : decode cX0_read 0 = .ok (.aload_n 0, 1) := by decide +kernel
theorem dX0_read_1 : decode cX0_read 1 = .ok (.invokevirtual 20, 3) := by decide +kernel
theorem dX0_read_4 : decode cX0_read 4 = .ok (.aload_n 1, 1) := by decide +kernel
theorem dX0_read_5 : decode cX0_read 5 = .ok (.invokevirtual 23, 3) := by decide +kernel
theorem dX0_read_8 : decode cX0_read 8 = .ok (.aload_n 0, 1) := by decide +kernel
theorem dX0_read_9 : decode cX0_read 9 = .ok (.aload_n 1, 1) := by decide +kernel
theorem dX0_read_10 : decode cX0_read 10 = .ok (.invokevirtual 28, 3) := by decide +kernel
theorem dX0_read_13 : decode cX0_read 13 = .ok (.ifCond .eq 15, 3) := by decide +kernel
theorem dX0_read_16 : decode cX0_read 16 = .ok (.aload_n 0, 1) := by decide +kernel
theorem dX0_read_17 : decode cX0_read 17 = .ok (.aload_n 1, 1) := by decide +kernel
theorem dX0_read_18 : decode cX0_read 18 = .ok (.invokevirtual 32, 3) := by decide +kernel
theorem dX0_read_21 : decode cX0_read 21 = .ok (.ifCond .eq 7, 3) := by decide +kernel
theorem dX0_read_24 : decode cX0_read 24 = .ok (.iconst 1, 1) := by decide +kernel
theorem dX0_read_25 : decode cX0_read 25 = .ok (.goto 4, 3) := by decide +kernel
theorem dX0_read_28 : decode cX0_read 28 = .ok (.iconst 0, 1) := by decide +kernel
theorem dX0_read_29 : decode cX0_read 29 = .ok (.ireturn, 1) := by decide +kernel
theorem dX0_copy_0 : decode cX0_copy 0 = .ok (.aload_n 0, 1) := by decide +kernel
theorem dX0_copy_1 : decode cX0_copy 1 = .ok (.aload_n 1, 1) := by decide +kernel
theorem dX0_copy_2 : decode cX0_copy 2 = .ok (.getfield 35, 3) := by decide +kernel
theorem dX0_copy_5 : decode cX0_copy 5 = .ok (.putfield 35, 3) := by decide +kernel
theorem dX0_copy_8 : decode cX0_copy 8 = .ok (.iconst 0, 1) := by decide +kernel
theorem dX0_copy_9 : decode cX0_copy 9 = .ok (.istore_n 2, 1) := by decide +kernel
theorem dX0_copy_10 : decode cX0_copy 10 = .ok (.iload_n 2, 1) := by decide +kernel
theorem dX0_copy_11 : decode cX0_copy 11 = .ok (.bipush 6, 2) := by decide +kernel
theorem dX0_copy_13 : decode cX0_copy 13 = .ok (.if_icmp .ge 40, 3) := by decide +kernel
theorem dX0_copy_16 : decode cX0_copy 16 = .ok (.aload_n 0, 1) := by decide +kernel
theorem dX0_copy_17 : decode cX0_copy 17 = .ok (.getfield 9, 3) := by decide +kernel
theorem dX0_copy_20 : decode cX0_copy 20 = .ok (.iload_n 2, 1) := by decide +kernel
theorem dX0_copy_21 : decode cX0_copy 21 = .ok (.aload_n 1, 1) := by decide +kernel
theorem dX0_copy_22 : decode cX0_copy 22 = .ok (.getfield 9, 3) := by decide +kernel
theorem dX0_copy_25 : decode cX0_copy 25 = .ok (.iload_n 2, 1) := by decide +kernel
theorem dX0_copy_26 : decode cX0_copy 26 = .ok (.iaload, 1) := by decide +kernel
theorem dX0_copy_27 : decode cX0_copy 27 = .ok (.iastore, 1) := by decide +kernel
theorem dX0_copy_28 : decode cX0_copy 28 = .ok (.aload_n 1, 1) := by decide +kernel
theorem dX0_copy_29 : decode cX0_copy 29 = .ok (.getfield 17, 3) := by decide +kernel
theorem dX0_copy_32 : decode cX0_copy 32 = .ok (.iload_n 2, 1) := by decide +kernel
theorem dX0_copy_33 : decode cX0_copy 33 = .ok (.aaload, 1) := by decide +kernel
theorem dX0_copy_34 : decode cX0_copy 34 = .ok (.iconst 0, 1) := by decide +kernel
theorem dX0_copy_35 : decode cX0_copy 35 = .ok (.aload_n 0, 1) := by decide +kernel
theorem dX0_copy_36 : decode cX0_copy 36 = .ok (.getfield 17, 3) := by decide +kernel
theorem dX0_copy_39 : decode cX0_copy 39 = .ok (.iload_n 2, 1) := by decide +kernel
theorem dX0_copy_40 : decode cX0_copy 40 = .ok (.aaload, 1) := by decide +kernel
theorem dX0_copy_41 : decode cX0_copy 41 = .ok (.iconst 0, 1) := by decide +kernel
theorem dX0_copy_42 : decode cX0_copy 42 = .ok (.bipush 6, 2) := by decide +kernel
theorem dX0_copy_44 : decode cX0_copy 44 = .ok (.invokestatic 39, 3) := by decide +kernel
theorem dX0_copy_47 : decode cX0_copy 47 = .ok (.iinc 2 1, 3) := by decide +kernel
theorem dX0_copy_50 : decode cX0_copy 50 = .ok (.goto (-40), 3) := by decide +kernel
theorem dX0_copy_53 : decode cX0_copy 53 = .ok (.return_, 1) := by decide +kernel
theorem dX0_clear_0 : decode cX0_clear 0 = .ok (.aload_n 0, 1) := by decide +kernel
theorem dX0_clear_1 : decode cX0_clear 1 = .ok (.iconst 0, 1) := by decide +kernel
theorem dX0_clear_2 : decode cX0_clear 2 = .ok (.putfield 35, 3) := by decide +kernel
theorem dX0_clear_5 : decode cX0_clear 5 = .ok (.iconst 0, 1) := by decide +kernel
theorem dX0_clear_6 : decode cX0_clear 6 = .ok (.istore_n 1, 1) := by decide +kernel
theorem dX0_clear_7 : decode cX0_clear 7 = .ok (.iload_n 1, 1) := by decide +kernel
theorem dX0_clear_8 : decode cX0_clear 8 = .ok (.bipush 6, 2) := by decide +kernel
theorem dX0_clear_10 : decode cX0_clear 10 = .ok (.if_icmp .ge 26, 3) := by decide +kernel
theorem dX0_clear_13 : decode cX0_clear 13 = .ok (.aload_n 0, 1) := by decide +kernel
theorem dX0_clear_14 : decode cX0_clear 14 = .ok (.getfield 9, 3) := by decide +kernel
theorem dX0_clear_17 : decode cX0_clear 17 = .ok (.iload_n 1, 1) := by decide +kernel
theorem dX0_clear_18 : decode cX0_clear 18 = .ok (.iconst 0, 1) := by decide +kernel
theorem dX0_clear_19 : decode cX0_clear 19 = .ok (.iastore, 1) := by decide +kernel
theorem dX0_clear_20 : decode cX0_clear 20 = .ok (.aload_n 0, 1) := by decide +kernel
theorem dX0_clear_21 : decode cX0_clear 21 = .ok (.getfield 17, 3) := by decide +kernel
theorem dX0_clear_24 : decode cX0_clear 24 = .ok (.iload_n 1, 1) := by decide +kernel
theorem dX0_clear_25 : decode cX0_clear 25 = .ok (.aaload, 1) := by decide +kernel
theorem dX0_clear_26 : decode cX0_clear 26 = .ok (.iconst 0, 1) := by decide +kernel
theorem dX0_clear_27 : decode cX0_clear 27 = .ok (.invokestatic 45, 3) := by decide +kernel
theorem dX0_clear_30 : decode cX0_clear 30 = .ok (.iinc 1 1, 3) := by decide +kernel
theorem dX0_clear_33 : decode cX0_clear 33 = .ok (.goto (-26), 3) := by decide +kernel
theorem dX0_clear_36 : decode cX0_clear 36 = .ok (.return_, 1) := by decide +kernel
theorem dX0_readTaboos_0 : decode cX0_readTaboos 0 = .ok (.iconst 0, 1) := by decide +kernel
theorem dX0_readTaboos_1 : decode cX0_readTaboos 1 = .ok (.istore_n 2, 1) := by decide +kernel
theorem dX0_readTaboos_2 : decode cX0_readTaboos 2 = .ok (.iload_n 2, 1) := by decide +kernel
theorem dX0_readTaboos_3 : decode cX0_readTaboos 3 = .ok (.bipush 6, 2) := by decide +kernel
theorem dX0_readTaboos_5 : decode cX0_readTaboos 5 = .ok (.if_icmp .ge 75, 3) := by decide +kernel
theorem dX0_readTaboos_8 : decode cX0_readTaboos 8 = .ok (.aload_n 1, 1) := by decide +kernel
theorem dX0_readTaboos_9 : decode cX0_readTaboos 9 = .ok (.iconst 2, 1) := by decide +kernel
theorem dX0_readTaboos_10 : decode cX0_readTaboos 10 = .ok (.invokevirtual 51, 3) := by decide +kernel
theorem dX0_readTaboos_13 : decode cX0_readTaboos 13 = .ok (.istore_n 3, 1) := by decide +kernel
theorem dX0_readTaboos_14 : decode cX0_readTaboos 14 = .ok (.iload_n 3, 1) := by decide +kernel
theorem dX0_readTaboos_15 : decode cX0_readTaboos 15 = .ok (.iconst (-1), 1) := by decide +kernel
theorem dX0_readTaboos_16 : decode cX0_readTaboos 16 = .ok (.if_icmp .ne 5, 3) := by decide +kernel
theorem dX0_readTaboos_19 : decode cX0_readTaboos 19 = .ok (.iconst 0, 1) := by decide +kernel
theorem dX0_readTaboos_20 : decode cX0_readTaboos 20 = .ok (.ireturn, 1) := by decide +kernel
theorem dX0_readTaboos_21 : decode cX0_readTaboos 21 = .ok (.aload_n 0, 1) := by decide +kernel
theorem dX0_readTaboos_22 : decode cX0_readTaboos 22 = .ok (.getfield 9, 3) := by decide +kernel
theorem dX0_readTaboos_25 : decode cX0_readTaboos 25 = .ok (.iload_n 2, 1) := by decide +kernel
theorem dX0_readTaboos_26 : decode cX0_readTaboos 26 = .ok (.iload_n 3, 1) := by decide +kernel
theorem dX0_readTaboos_27 : decode cX0_readTaboos 27 = .ok (.iastore, 1) := by decide +kernel
theorem dX0_readTaboos_28 : decode cX0_readTaboos 28 = .ok (.aload_n 0, 1) := by decide +kernel
theorem dX0_readTaboos_29 : decode cX0_readTaboos 29 = .ok (.iload_n 2, 1) := by decide +kernel
theorem dX0_readTaboos_30 : decode cX0_readTaboos 30 = .ok (.iconst 1, 1) := by decide +kernel
theorem dX0_readTaboos_31 : decode cX0_readTaboos 31 = .ok (.iadd, 1) := by decide +kernel
theorem dX0_readTaboos_32 : decode cX0_readTaboos 32 = .ok (.putfield 35, 3) := by decide +kernel
theorem dX0_readTaboos_35 : decode cX0_readTaboos 35 = .ok (.aload_n 0, 1) := by decide +kernel
theorem dX0_readTaboos_36 : decode cX0_readTaboos 36 = .ok (.getfield 35, 3) := by decide +kernel
theorem dX0_readTaboos_39 : decode cX0_readTaboos 39 = .ok (.iconst 2, 1) := by decide +kernel
theorem dX0_readTaboos_40 : decode cX0_readTaboos 40 = .ok (.if_icmp .lt 14, 3) := by decide +kernel
theorem dX0_readTaboos_43 : decode cX0_readTaboos 43 = .ok (.aload_n 1, 1) := by decide +kernel
theorem dX0_readTaboos_44 : decode cX0_readTaboos 44 = .ok (.bipush 59, 2) := by decide +kernel
theorem dX0_readTaboos_46 : decode cX0_readTaboos 46 = .ok (.invokevirtual 55, 3) := by decide +kernel
theorem dX0_readTaboos_49 : decode cX0_readTaboos 49 = .ok (.ifCond .eq 5, 3) := by decide +kernel
theorem dX0_readTaboos_52 : decode cX0_readTaboos 52 = .ok (.iconst 1, 1) := by decide +kernel
theorem dX0_readTaboos_53 : decode cX0_readTaboos 53 = .ok (.ireturn, 1) := by decide +kernel
theorem dX0_readTaboos_54 : decode cX0_readTaboos 54 = .ok (.aload_n 0, 1) := by decide +kernel
theorem dX0_readTaboos_55 : decode cX0_readTaboos 55 = .ok (.getfield 35, 3) := by decide +kernel
theorem dX0_readTaboos_58 : decode cX0_readTaboos 58 = .ok (.bipush 6, 2) := by decide +kernel
theorem dX0_readTaboos_60 : decode cX0_readTaboos 60 = .ok (.if_icmp .eq 12, 3) := by decide +kernel
theorem dX0_readTaboos_63 : decode cX0_readTaboos 63 = .ok (.aload_n 1, 1) := by decide +kernel
theorem dX0_readTaboos_64 : decode cX0_readTaboos 64 = .ok (.bipush 44, 2) := by decide +kernel
theorem dX0_readTaboos_66 : decode cX0_readTaboos 66 = .ok (.invokevirtual 55, 3) := by decide +kernel
theorem dX0_readTaboos_69 : decode cX0_readTaboos 69 = .ok (.ifCond .ne 5, 3) := by decide +kernel
theorem dX0_readTaboos_72 : decode cX0_readTaboos 72 = .ok (.iconst 0, 1) := by decide +kernel
theorem dX0_readTaboos_73 : decode cX0_readTaboos 73 = .ok (.ireturn, 1) := by decide +kernel
theorem dX0_readTaboos_74 : decode cX0_readTaboos 74 = .ok (.iinc 2 1, 3) := by decide +kernel
theorem dX0_readTaboos_77 : decode cX0_readTaboos 77 = .ok (.goto (-75), 3) := by decide +kernel
theorem dX0_readTaboos_80 : decode cX0_readTaboos 80 = .ok (.iconst 0, 1) := by decide +kernel
theorem dX0_readTaboos_81 : decode cX0_readTaboos 81 = .ok (.ireturn, 1) := by decide +kernel
theorem dX0_readWays_0 : decode cX0_readWays 0 = .ok (.iconst 0, 1) := by decide +kernel
theorem dX0_readWays_1 : decode cX0_readWays 1 = .ok (.istore_n 2, 1) := by decide +kernel
theorem dX0_readWays_2 : decode cX0_readWays 2 = .ok (.iload_n 2, 1) := by decide +kernel
theorem dX0_readWays_3 : decode cX0_readWays 3 = .ok (.bipush 15, 2) := by decide +kernel
theorem dX0_readWays_5 : decode cX0_readWays 5 = .ok (.if_icmp .gt 39, 3) := by decide +kernel
theorem dX0_readWays_8 : decode cX0_readWays 8 = .ok (.aload_n 0, 1) := by decide +kernel
theorem dX0_readWays_9 : decode cX0_readWays 9 = .ok (.aload_n 1, 1) := by decide +kernel
theorem dX0_readWays_10 : decode cX0_readWays 10 = .ok (.invokevirtual 59, 3) := by decide +kernel
theorem dX0_readWays_13 : decode cX0_readWays 13 = .ok (.ifCond .ne 5, 3) := by decide +kernel
theorem dX0_readWays_16 : decode cX0_readWays 16 = .ok (.iconst 0, 1) := by decide +kernel
theorem dX0_readWays_17 : decode cX0_readWays 17 = .ok (.ireturn, 1) := by decide +kernel
theorem dX0_readWays_18 : decode cX0_readWays 18 = .ok (.aload_n 1, 1) := by decide +kernel
theorem dX0_readWays_19 : decode cX0_readWays 19 = .ok (.invokevirtual 62, 3) := by decide +kernel
theorem dX0_readWays_22 : decode cX0_readWays 22 = .ok (.ifCond .eq 5, 3) := by decide +kernel
theorem dX0_readWays_25 : decode cX0_readWays 25 = .ok (.iconst 1, 1) := by decide +kernel
theorem dX0_readWays_26 : decode cX0_readWays 26 = .ok (.ireturn, 1) := by decide +kernel
theorem dX0_readWays_27 : decode cX0_readWays 27 = .ok (.aload_n 1, 1) := by decide +kernel
theorem dX0_readWays_28 : decode cX0_readWays 28 = .ok (.bipush 44, 2) := by decide +kernel
theorem dX0_readWays_30 : decode cX0_readWays 30 = .ok (.invokevirtual 55, 3) := by decide +kernel
theorem dX0_readWays_33 : decode cX0_readWays 33 = .ok (.ifCond .ne 5, 3) := by decide +kernel
theorem dX0_readWays_36 : decode cX0_readWays 36 = .ok (.iconst 0, 1) := by decide +kernel
theorem dX0_readWays_37 : decode cX0_readWays 37 = .ok (.ireturn, 1) := by decide +kernel
theorem dX0_readWays_38 : decode cX0_readWays 38 = .ok (.iinc 2 1, 3) := by decide +kernel
theorem dX0_readWays_41 : decode cX0_readWays 41 = .ok (.goto (-39), 3) := by decide +kernel
theorem dX0_readWays_44 : decode cX0_readWays 44 = .ok (.iconst 0, 1) := by decide +kernel
theorem dX0_readWays_45 : decode cX0_readWays 45 = .ok (.ireturn, 1) := by decide +kernel
theorem dX0_readWay_0 : decode cX0_readWay 0 = .ok (.aload_n 1, 1) := by decide +kernel
theorem dX0_readWay_1 : decode cX0_readWay 1 = .ok (.invokevirtual 66, 3) := by decide +kernel
theorem dX0_readWay_4 : decode cX0_readWay 4 = .ok (.bipush 97, 2) := by decide +kernel
theorem dX0_readWay_6 : decode cX0_readWay 6 = .ok (.isub, 1) := by decide +kernel
theorem dX0_readWay_7 : decode cX0_readWay 7 = .ok (.istore_n 2, 1) := by decide +kernel
theorem dX0_readWay_8 : decode cX0_readWay 8 = .ok (.iload_n 2, 1) := by decide +kernel
theorem dX0_readWay_9 : decode cX0_readWay 9 = .ok (.ifCond .lt 22, 3) := by decide +kernel
theorem dX0_readWay_12 : decode cX0_readWay 12 = .ok (.iload_n 2, 1) := by decide +kernel
theorem dX0_readWay_13 : decode cX0_readWay 13 = .ok (.aload_n 0, 1) := by decide +kernel
theorem dX0_readWay_14 : decode cX0_readWay 14 = .ok (.getfield 35, 3) := by decide +kernel
theorem dX0_readWay_17 : decode cX0_readWay 17 = .ok (.if_icmp .ge 14, 3) := by decide +kernel
theorem dX0_readWay_20 : decode cX0_readWay 20 = .ok (.aload_n 1, 1) := by decide +kernel
theorem dX0_readWay_21 : decode cX0_readWay 21 = .ok (.bipush 97, 2) := by decide +kernel
theorem dX0_readWay_23 : decode cX0_readWay 23 = .ok (.iload_n 2, 1) := by decide +kernel
theorem dX0_readWay_24 : decode cX0_readWay 24 = .ok (.iadd, 1) := by decide +kernel
theorem dX0_readWay_25 : decode cX0_readWay 25 = .ok (.invokevirtual 55, 3) := by decide +kernel
theorem dX0_readWay_28 : decode cX0_readWay 28 = .ok (.ifCond .ne 5, 3) := by decide +kernel
theorem dX0_readWay_31 : decode cX0_readWay 31 = .ok (.iconst 0, 1) := by decide +kernel
theorem dX0_readWay_32 : decode cX0_readWay 32 = .ok (.ireturn, 1) := by decide +kernel
theorem dX0_readWay_33 : decode cX0_readWay 33 = .ok (.aload_n 1, 1) := by decide +kernel
theorem dX0_readWay_34 : decode cX0_readWay 34 = .ok (.invokevirtual 66, 3) := by decide +kernel
theorem dX0_readWay_37 : decode cX0_readWay 37 = .ok (.bipush 97, 2) := by decide +kernel
theorem dX0_readWay_39 : decode cX0_readWay 39 = .ok (.isub, 1) := by decide +kernel
theorem dX0_readWay_40 : decode cX0_readWay 40 = .ok (.istore_n 3, 1) := by decide +kernel
theorem dX0_readWay_41 : decode cX0_readWay 41 = .ok (.iload_n 3, 1) := by decide +kernel
theorem dX0_readWay_42 : decode cX0_readWay 42 = .ok (.ifCond .lt 27, 3) := by decide +kernel
theorem dX0_readWay_45 : decode cX0_readWay 45 = .ok (.iload_n 3, 1) := by decide +kernel
theorem dX0_readWay_46 : decode cX0_readWay 46 = .ok (.aload_n 0, 1) := by decide +kernel
theorem dX0_readWay_47 : decode cX0_readWay 47 = .ok (.getfield 35, 3) := by decide +kernel
theorem dX0_readWay_50 : decode cX0_readWay 50 = .ok (.if_icmp .ge 19, 3) := by decide +kernel
theorem dX0_readWay_53 : decode cX0_readWay 53 = .ok (.iload_n 3, 1) := by decide +kernel
theorem dX0_readWay_54 : decode cX0_readWay 54 = .ok (.iload_n 2, 1) := by decide +kernel
theorem dX0_readWay_55 : decode cX0_readWay 55 = .ok (.if_icmp .eq 14, 3) := by decide +kernel
theorem dX0_readWay_58 : decode cX0_readWay 58 = .ok (.aload_n 0, 1) := by decide +kernel
theorem dX0_readWay_59 : decode cX0_readWay 59 = .ok (.getfield 17, 3) := by decide +kernel
theorem dX0_readWay_62 : decode cX0_readWay 62 = .ok (.iload_n 2, 1) := by decide +kernel
theorem dX0_readWay_63 : decode cX0_readWay 63 = .ok (.aaload, 1) := by decide +kernel
theorem dX0_readWay_64 : decode cX0_readWay 64 = .ok (.iload_n 3, 1) := by decide +kernel
theorem dX0_readWay_65 : decode cX0_readWay 65 = .ok (.iaload, 1) := by decide +kernel
theorem dX0_readWay_66 : decode cX0_readWay 66 = .ok (.ifCond .le 5, 3) := by decide +kernel
theorem dX0_readWay_69 : decode cX0_readWay 69 = .ok (.iconst 0, 1) := by decide +kernel
theorem dX0_readWay_70 : decode cX0_readWay 70 = .ok (.ireturn, 1) := by decide +kernel
theorem dX0_readWay_71 : decode cX0_readWay 71 = .ok (.aload_n 1, 1) := by decide +kernel
theorem dX0_readWay_72 : decode cX0_readWay 72 = .ok (.bipush 97, 2) := by decide +kernel
theorem dX0_readWay_74 : decode cX0_readWay 74 = .ok (.iload_n 3, 1) := by decide +kernel
theorem dX0_readWay_75 : decode cX0_readWay 75 = .ok (.iadd, 1) := by decide +kernel
theorem dX0_readWay_76 : decode cX0_readWay 76 = .ok (.invokevirtual 55, 3) := by decide +kernel
theorem dX0_readWay_79 : decode cX0_readWay 79 = .ok (.ifCond .ne 5, 3) := by decide +kernel
theorem dX0_readWay_82 : decode cX0_readWay 82 = .ok (.iconst 0, 1) := by decide +kernel
theorem dX0_readWay_83 : decode cX0_readWay 83 = .ok (.ireturn, 1) := by decide +kernel
theorem dX0_readWay_84 : decode cX0_readWay 84 = .ok (.aload_n 1, 1) := by decide +kernel
theorem dX0_readWay_85 : decode cX0_readWay 85 = .ok (.invokevirtual 66, 3) := by decide +kernel
theorem dX0_readWay_88 : decode cX0_readWay 88 = .ok (.bipush 48, 2) := by decide +kernel
theorem dX0_readWay_90 : decode cX0_readWay 90 = .ok (.if_icmp .ne 5, 3) := by decide +kernel
theorem dX0_readWay_93 : decode cX0_readWay 93 = .ok (.iconst 0, 1) := by decide +kernel
theorem dX0_readWay_94 : decode cX0_readWay 94 = .ok (.ireturn, 1) := by decide +kernel
theorem dX0_readWay_95 : decode cX0_readWay 95 = .ok (.aload_n 1, 1) := by decide +kernel
theorem dX0_readWay_96 : decode cX0_readWay 96 = .ok (.iconst 1, 1) := by decide +kernel
theorem dX0_readWay_97 : decode cX0_readWay 97 = .ok (.invokevirtual 51, 3) := by decide +kernel
theorem dX0_readWay_100 : decode cX0_readWay 100 = .ok (.istore 4, 2) := by decide +kernel
theorem dX0_readWay_102 : decode cX0_readWay 102 = .ok (.iload 4, 2) := by decide +kernel
theorem dX0_readWay_104 : decode cX0_readWay 104 = .ok (.iconst (-1), 1) := by decide +kernel
theorem dX0_readWay_105 : decode cX0_readWay 105 = .ok (.if_icmp .ne 5, 3) := by decide +kernel
theorem dX0_readWay_108 : decode cX0_readWay 108 = .ok (.iconst 0, 1) := by decide +kernel
theorem dX0_readWay_109 : decode cX0_readWay 109 = .ok (.ireturn, 1) := by decide +kernel
theorem dX0_readWay_110 : decode cX0_readWay 110 = .ok (.aload_n 0, 1) := by decide +kernel
theorem dX0_readWay_111 : decode cX0_readWay 111 = .ok (.getfield 17, 3) := by decide +kernel
theorem dX0_readWay_114 : decode cX0_readWay 114 = .ok (.iload_n 2, 1) := by decide +kernel
theorem dX0_readWay_115 : decode cX0_readWay 115 = .ok (.aaload, 1) := by decide +kernel
theorem dX0_readWay_116 : decode cX0_readWay 116 = .ok (.iload_n 3, 1) := by decide +kernel
theorem dX0_readWay_117 : decode cX0_readWay 117 = .ok (.iload 4, 2) := by decide +kernel
theorem dX0_readWay_119 : decode cX0_readWay 119 = .ok (.iastore, 1) := by decide +kernel
theorem dX0_readWay_120 : decode cX0_readWay 120 = .ok (.aload_n 0, 1) := by decide +kernel
theorem dX0_readWay_121 : decode cX0_readWay 121 = .ok (.getfield 17, 3) := by decide +kernel
theorem dX0_readWay_124 : decode cX0_readWay 124 = .ok (.iload_n 3, 1) := by decide +kernel
theorem dX0_readWay_125 : decode cX0_readWay 125 = .ok (.aaload, 1) := by decide +kernel
theorem dX0_readWay_126 : decode cX0_readWay 126 = .ok (.iload_n 2, 1) := by decide +kernel
theorem dX0_readWay_127 : decode cX0_readWay 127 = .ok (.iload 4, 2) := by decide +kernel
theorem dX0_readWay_129 : decode cX0_readWay 129 = .ok (.iastore, 1) := by decide +kernel
theorem dX0_readWay_130 : decode cX0_readWay 130 = .ok (.iconst 1, 1) := by decide +kernel
theorem dX0_readWay_131 : decode cX0_readWay 131 = .ok (.ireturn, 1) := by decide +kernel
