theorem dX0_init_0 : decode cX0_init 0 = .ok (.aload_n 0, 1) := by decide +kernel
theorem dX0_init_1 : decode cX0_init 1 = .ok (.invokespecial 3, 3) := by decide +kernel
theorem dX0_init_4 : decode cX0_init 4 = .ok (.aload_n 0, 1) := by decide +kernel
theorem dX0_init_5 : decode cX0_init 5 = .ok (.sipush 144, 3) := by decide +kernel
theorem dX0_init_8 : decode cX0_init 8 = .ok (.newarray .int, 2) := by decide +kernel
theorem dX0_init_10 : decode cX0_init 10 = .ok (.putfield 9, 3) := by decide +kernel
theorem dX0_init_13 : decode cX0_init 13 = .ok (.return_, 1) := by decide +kernel
theorem dX0_begin_0 : decode cX0_begin 0 = .ok (.aload_n 0, 1) := by decide +kernel
theorem dX0_begin_1 : decode cX0_begin 1 = .ok (.iconst 0, 1) := by decide +kernel
theorem dX0_begin_2 : decode cX0_begin 2 = .ok (.putfield 15, 3) := by decide +kernel
theorem dX0_begin_5 : decode cX0_begin 5 = .ok (.aload_n 0, 1) := by decide +kernel
theorem dX0_begin_6 : decode cX0_begin 6 = .ok (.iload_n 1, 1) := by decide +kernel
theorem dX0_begin_7 : decode cX0_begin 7 = .ok (.putfield 19, 3) := by decide +kernel
theorem dX0_begin_10 : decode cX0_begin 10 = .ok (.return_, 1) := by decide +kernel
theorem dX0_add_0 : decode cX0_add 0 = .ok (.aload_n 0, 1) := by decide +kernel
theorem dX0_add_1 : decode cX0_add 1 = .ok (.getfield 15, 3) := by decide +kernel
theorem dX0_add_4 : decode cX0_add 4 = .ok (.aload_n 0, 1) := by decide +kernel
theorem dX0_add_5 : decode cX0_add 5 = .ok (.getfield 9, 3) := by decide +kernel
theorem dX0_add_8 : decode cX0_add 8 = .ok (.arraylength, 1) := by decide +kernel
theorem dX0_add_9 : decode cX0_add 9 = .ok (.if_icmp .ge 23, 3) := by decide +kernel
theorem dX0_add_12 : decode cX0_add 12 = .ok (.aload_n 0, 1) := by decide +kernel
theorem dX0_add_13 : decode cX0_add 13 = .ok (.getfield 9, 3) := by decide +kernel
theorem dX0_add_16 : decode cX0_add 16 = .ok (.aload_n 0, 1) := by decide +kernel
theorem dX0_add_17 : decode cX0_add 17 = .ok (.getfield 15, 3) := by decide +kernel
theorem dX0_add_20 : decode cX0_add 20 = .ok (.iload_n 1, 1) := by decide +kernel
theorem dX0_add_21 : decode cX0_add 21 = .ok (.iastore, 1) := by decide +kernel
theorem dX0_add_22 : decode cX0_add 22 = .ok (.aload_n 0, 1) := by decide +kernel
theorem dX0_add_23 : decode cX0_add 23 = .ok (.dup, 1) := by decide +kernel
theorem dX0_add_24 : decode cX0_add 24 = .ok (.getfield 15, 3) := by decide +kernel
theorem dX0_add_27 : decode cX0_add 27 = .ok (.iconst 1, 1) := by decide +kernel
theorem dX0_add_28 : decode cX0_add 28 = .ok (.iadd, 1) := by decide +kernel
theorem dX0_add_29 : decode cX0_add 29 = .ok (.putfield 15, 3) := by decide +kernel
theorem dX0_add_32 : decode cX0_add 32 = .ok (.return_, 1) := by decide +kernel
theorem dX0_colourAt_0 : decode cX0_colourAt 0 = .ok (.iload_n 1, 1) := by decide +kernel
theorem dX0_colourAt_1 : decode cX0_colourAt 1 = .ok (.ifCond .lt 20, 3) := by decide +kernel
theorem dX0_colourAt_4 : decode cX0_colourAt 4 = .ok (.iload_n 1, 1) := by decide +kernel
theorem dX0_colourAt_5 : decode cX0_colourAt 5 = .ok (.aload_n 0, 1) := by decide +kernel
theorem dX0_colourAt_6 : decode cX0_colourAt 6 = .ok (.getfield 15, 3) := by decide +kernel
theorem dX0_colourAt_9 : decode cX0_colourAt 9 = .ok (.if_icmp .ge 12, 3) := by decide +kernel
theorem dX0_colourAt_12 : decode cX0_colourAt 12 = .ok (.aload_n 0, 1) := by decide +kernel
theorem dX0_colourAt_13 : decode cX0_colourAt 13 = .ok (.getfield 9, 3) := by decide +kernel
theorem dX0_colourAt_16 : decode cX0_colourAt 16 = .ok (.iload_n 1, 1) := by decide +kernel
theorem dX0_colourAt_17 : decode cX0_colourAt 17 = .ok (.iaload, 1) := by decide +kernel
theorem dX0_colourAt_18 : decode cX0_colourAt 18 = .ok (.goto 4, 3) := by decide +kernel
theorem dX0_colourAt_21 : decode cX0_colourAt 21 = .ok (.iconst 0, 1) := by decide +kernel
theorem dX0_colourAt_22 : decode cX0_colourAt 22 = .ok (.ireturn, 1) := by decide +kernel
theorem dX0_changesInRows_0 : decode cX0_changesInRows 0 = .ok (.aload_n 0, 1) := by decide +kernel
theorem dX0_changesInRows_1 : decode cX0_changesInRows 1 = .ok (.getfield 19, 3) := by decide +kernel
theorem dX0_changesInRows_4 : decode cX0_changesInRows 4 = .ok (.ifCond .ne 5, 3) := by decide +kernel
theorem dX0_changesInRows_7 : decode cX0_changesInRows 7 = .ok (.iconst 0, 1) := by decide +kernel
theorem dX0_changesInRows_8 : decode cX0_changesInRows 8 = .ok (.ireturn, 1) := by decide +kernel
theorem dX0_changesInRows_9 : decode cX0_changesInRows 9 = .ok (.iconst 0, 1) := by decide +kernel
theorem dX0_changesInRows_10 : decode cX0_changesInRows 10 = .ok (.istore_n 1, 1) := by decide +kernel
theorem dX0_changesInRows_11 : decode cX0_changesInRows 11 = .ok (.iconst 1, 1) := by decide +kernel
theorem dX0_changesInRows_12 : decode cX0_changesInRows 12 = .ok (.istore_n 2, 1) := by decide +kernel
theorem dX0_changesInRows_13 : decode cX0_changesInRows 13 = .ok (.iload_n 2, 1) := by decide +kernel
theorem dX0_changesInRows_14 : decode cX0_changesInRows 14 = .ok (.aload_n 0, 1) := by decide +kernel
theorem dX0_changesInRows_15 : decode cX0_changesInRows 15 = .ok (.getfield 15, 3) := by decide +kernel
theorem dX0_changesInRows_18 : decode cX0_changesInRows 18 = .ok (.if_icmp .ge 38, 3) := by decide +kernel
theorem dX0_changesInRows_21 : decode cX0_changesInRows 21 = .ok (.iload_n 2, 1) := by decide +kernel
theorem dX0_changesInRows_22 : decode cX0_changesInRows 22 = .ok (.aload_n 0, 1) := by decide +kernel
theorem dX0_changesInRows_23 : decode cX0_changesInRows 23 = .ok (.getfield 19, 3) := by decide +kernel
theorem dX0_changesInRows_26 : decode cX0_changesInRows 26 = .ok (.irem, 1) := by decide +kernel
theorem dX0_changesInRows_27 : decode cX0_changesInRows 27 = .ok (.ifCond .eq 23, 3) := by decide +kernel
theorem dX0_changesInRows_30 : decode cX0_changesInRows 30 = .ok (.aload_n 0, 1) := by decide +kernel
theorem dX0_changesInRows_31 : decode cX0_changesInRows 31 = .ok (.getfield 9, 3) := by decide +kernel
theorem dX0_changesInRows_34 : decode cX0_changesInRows 34 = .ok (.iload_n 2, 1) := by decide +kernel
theorem dX0_changesInRows_35 : decode cX0_changesInRows 35 = .ok (.iaload, 1) := by decide +kernel
theorem dX0_changesInRows_36 : decode cX0_changesInRows 36 = .ok (.aload_n 0, 1) := by decide +kernel
theorem dX0_changesInRows_37 : decode cX0_changesInRows 37 = .ok (.getfield 9, 3) := by decide +kernel
theorem dX0_changesInRows_40 : decode cX0_changesInRows 40 = .ok (.iload_n 2, 1) := by decide +kernel
theorem dX0_changesInRows_41 : decode cX0_changesInRows 41 = .ok (.iconst 1, 1) := by decide +kernel
theorem dX0_changesInRows_42 : decode cX0_changesInRows 42 = .ok (.isub, 1) := by decide +kernel
theorem dX0_changesInRows_43 : decode cX0_changesInRows 43 = .ok (.iaload, 1) := by decide +kernel
theorem dX0_changesInRows_44 : decode cX0_changesInRows 44 = .ok (.if_icmp .eq 6, 3) := by decide +kernel
theorem dX0_changesInRows_47 : decode cX0_changesInRows 47 = .ok (.iinc 1 1, 3) := by decide +kernel
theorem dX0_changesInRows_50 : decode cX0_changesInRows 50 = .ok (.iinc 2 1, 3) := by decide +kernel
theorem dX0_changesInRows_53 : decode cX0_changesInRows 53 = .ok (.goto (-40), 3) := by decide +kernel
theorem dX0_changesInRows_56 : decode cX0_changesInRows 56 = .ok (.iload_n 1, 1) := by decide +kernel
theorem dX0_changesInRows_57 : decode cX0_changesInRows 57 = .ok (.ireturn, 1) := by decide +kernel
theorem dX0_mostOften_0 : decode cX0_mostOften 0 = .ok (.iconst 0, 1) := by decide +kernel
theorem dX0_mostOften_1 : decode cX0_mostOften 1 = .ok (.istore_n 1, 1) := by decide +kernel
theorem dX0_mostOften_2 : decode cX0_mostOften 2 = .ok (.iconst 0, 1) := by decide +kernel
theorem dX0_mostOften_3 : decode cX0_mostOften 3 = .ok (.istore_n 2, 1) := by decide +kernel
theorem dX0_mostOften_4 : decode cX0_mostOften 4 = .ok (.iconst 0, 1) := by decide +kernel
theorem dX0_mostOften_5 : decode cX0_mostOften 5 = .ok (.istore_n 3, 1) := by decide +kernel
theorem dX0_mostOften_6 : decode cX0_mostOften 6 = .ok (.iload_n 3, 1) := by decide +kernel
theorem dX0_mostOften_7 : decode cX0_mostOften 7 = .ok (.aload_n 0, 1) := by decide +kernel
theorem dX0_mostOften_8 : decode cX0_mostOften 8 = .ok (.getfield 15, 3) := by decide +kernel
theorem dX0_mostOften_11 : decode cX0_mostOften 11 = .ok (.if_icmp .ge 32, 3) := by decide +kernel
theorem dX0_mostOften_14 : decode cX0_mostOften 14 = .ok (.aload_n 0, 1) := by decide +kernel
theorem dX0_mostOften_15 : decode cX0_mostOften 15 = .ok (.iload_n 3, 1) := by decide +kernel
theorem dX0_mostOften_16 : decode cX0_mostOften 16 = .ok (.invokevirtual 22, 3) := by decide +kernel
theorem dX0_mostOften_19 : decode cX0_mostOften 19 = .ok (.istore 4, 2) := by decide +kernel
theorem dX0_mostOften_21 : decode cX0_mostOften 21 = .ok (.iload 4, 2) := by decide +kernel
theorem dX0_mostOften_23 : decode cX0_mostOften 23 = .ok (.iload_n 2, 1) := by decide +kernel
theorem dX0_mostOften_24 : decode cX0_mostOften 24 = .ok (.if_icmp .le 13, 3) := by decide +kernel
theorem dX0_mostOften_27 : decode cX0_mostOften 27 = .ok (.aload_n 0, 1) := by decide +kernel
theorem dX0_mostOften_28 : decode cX0_mostOften 28 = .ok (.getfield 9, 3) := by decide +kernel
theorem dX0_mostOften_31 : decode cX0_mostOften 31 = .ok (.iload_n 3, 1) := by decide +kernel
theorem dX0_mostOften_32 : decode cX0_mostOften 32 = .ok (.iaload, 1) := by decide +kernel
theorem dX0_mostOften_33 : decode cX0_mostOften 33 = .ok (.istore_n 1, 1) := by decide +kernel
theorem dX0_mostOften_34 : decode cX0_mostOften 34 = .ok (.iload 4, 2) := by decide +kernel
theorem dX0_mostOften_36 : decode cX0_mostOften 36 = .ok (.istore_n 2, 1) := by decide +kernel
theorem dX0_mostOften_37 : decode cX0_mostOften 37 = .ok (.iinc 3 1, 3) := by decide +kernel
theorem dX0_mostOften_40 : decode cX0_mostOften 40 = .ok (.goto (-34), 3) := by decide +kernel
theorem dX0_mostOften_43 : decode cX0_mostOften 43 = .ok (.iload_n 1, 1) := by decide +kernel
theorem dX0_mostOften_44 : decode cX0_mostOften 44 = .ok (.ireturn, 1) := by decide +kernel
theorem dX0_timesFrom_0 : decode cX0_timesFrom 0 = .ok (.iconst 0, 1) := by decide +kernel
theorem dX0_timesFrom_1 : decode cX0_timesFrom 1 = .ok (.istore_n 2, 1) := by decide +kernel
theorem dX0_timesFrom_2 : decode cX0_timesFrom 2 = .ok (.iload_n 1, 1) := by decide +kernel
theorem dX0_timesFrom_3 : decode cX0_timesFrom 3 = .ok (.istore_n 3, 1) := by decide +kernel
theorem dX0_timesFrom_4 : decode cX0_timesFrom 4 = .ok (.iload_n 3, 1) := by decide +kernel
theorem dX0_timesFrom_5 : decode cX0_timesFrom 5 = .ok (.aload_n 0, 1) := by decide +kernel
theorem dX0_timesFrom_6 : decode cX0_timesFrom 6 = .ok (.getfield 15, 3) := by decide +kernel
theorem dX0_timesFrom_9 : decode cX0_timesFrom 9 = .ok (.if_icmp .ge 27, 3) := by decide +kernel
theorem dX0_timesFrom_12 : decode cX0_timesFrom 12 = .ok (.aload_n 0, 1) := by decide +kernel
theorem dX0_timesFrom_13 : decode cX0_timesFrom 13 = .ok (.getfield 9, 3) := by decide +kernel
theorem dX0_timesFrom_16 : decode cX0_timesFrom 16 = .ok (.iload_n 3, 1) := by decide +kernel
theorem dX0_timesFrom_17 : decode cX0_timesFrom 17 = .ok (.iaload, 1) := by decide +kernel
theorem dX0_timesFrom_18 : decode cX0_timesFrom 18 = .ok (.aload_n 0, 1) := by decide +kernel
theorem dX0_timesFrom_19 : decode cX0_timesFrom 19 = .ok (.getfield 9, 3) := by decide +kernel
theorem dX0_timesFrom_22 : decode cX0_timesFrom 22 = .ok (.iload_n 1, 1) := by decide +kernel
theorem dX0_timesFrom_23 : decode cX0_timesFrom 23 = .ok (.iaload, 1) := by decide +kernel
theorem dX0_timesFrom_24 : decode cX0_timesFrom 24 = .ok (.if_icmp .ne 6, 3) := by decide +kernel
theorem dX0_timesFrom_27 : decode cX0_timesFrom 27 = .ok (.iinc 2 1, 3) := by decide +kernel
theorem dX0_timesFrom_30 : decode cX0_timesFrom 30 = .ok (.iinc 3 1, 3) := by decide +kernel
theorem dX0_timesFrom_33 : decode cX0_timesFrom 33 = .ok (.goto (-29), 3) := by decide +kernel
theorem dX0_timesFrom_36 : decode cX0_timesFrom 36 = .ok (.iload_n 2, 1) := by decide +kernel
theorem dX0_timesFrom_37 : decode cX0_timesFrom 37 = .ok (.ireturn, 1) := by decide +kernel
theorem dX1_init_0 : decode cX1_init 0 = .ok (.aload_n 0, 1) := by decide +kernel
theorem dX1_init_1 : decode cX1_init 1 = .ok (.invokespecial 1, 3) := by decide +kernel
theorem dX1_init_4 : decode cX1_init 4 = .ok (.aload_n 0, 1) := by decide +kernel
theorem dX1_init_5 : decode cX1_init 5 = .ok (.iload_n 1, 1) := by decide +kernel
theorem dX1_init_6 : decode cX1_init 6 = .ok (.putfield 7, 3) := by decide +kernel
theorem dX1_init_9 : decode cX1_init 9 = .ok (.aload_n 0, 1) := by decide +kernel
theorem dX1_init_10 : decode cX1_init 10 = .ok (.iload_n 2, 1) := by decide +kernel
theorem dX1_init_11 : decode cX1_init 11 = .ok (.putfield 13, 3) := by decide +kernel
theorem dX1_init_14 : decode cX1_init 14 = .ok (.aload_n 0, 1) := by decide +kernel
theorem dX1_init_15 : decode cX1_init 15 = .ok (.iload_n 3, 1) := by decide +kernel
theorem dX1_init_16 : decode cX1_init 16 = .ok (.putfield 16, 3) := by decide +kernel
theorem dX1_init_19 : decode cX1_init 19 = .ok (.aload_n 0, 1) := by decide +kernel
theorem dX1_init_20 : decode cX1_init 20 = .ok (.iload 4, 2) := by decide +kernel
theorem dX1_init_22 : decode cX1_init 22 = .ok (.putfield 19, 3) := by decide +kernel
theorem dX1_init_25 : decode cX1_init 25 = .ok (.aload_n 0, 1) := by decide +kernel
theorem dX1_init_26 : decode cX1_init 26 = .ok (.aload 5, 2) := by decide +kernel
theorem dX1_init_28 : decode cX1_init 28 = .ok (.putfield 22, 3) := by decide +kernel
theorem dX1_init_31 : decode cX1_init 31 = .ok (.aload_n 0, 1) := by decide +kernel
theorem dX1_init_32 : decode cX1_init 32 = .ok (.aload 6, 2) := by decide +kernel
theorem dX1_init_34 : decode cX1_init 34 = .ok (.putfield 26, 3) := by decide +kernel
theorem dX1_init_37 : decode cX1_init 37 = .ok (.return_, 1) := by decide +kernel
theorem dX2_init_0 : decode cX2_init 0 = .ok (.aload_n 0, 1) := by decide +kernel
theorem dX2_init_1 : decode cX2_init 1 = .ok (.invokespecial 1, 3) := by decide +kernel
theorem dX2_init_4 : decode cX2_init 4 = .ok (.aload_n 0, 1) := by decide +kernel
theorem dX2_init_5 : decode cX2_init 5 = .ok (.iconst 4, 1) := by decide +kernel
theorem dX2_init_6 : decode cX2_init 6 = .ok (.bipush 8, 2) := by decide +kernel
theorem dX2_init_8 : decode cX2_init 8 = .ok (.multianewarray 9 2, 4) := by decide +kernel
theorem dX2_init_12 : decode cX2_init 12 = .ok (.putfield 11, 3) := by decide +kernel
theorem dX2_init_15 : decode cX2_init 15 = .ok (.aload_n 0, 1) := by decide +kernel
theorem dX2_init_16 : decode cX2_init 16 = .ok (.bipush 6, 2) := by decide +kernel
theorem dX2_init_18 : decode cX2_init 18 = .ok (.anewarray 14, 3) := by decide +kernel
theorem dX2_init_21 : decode cX2_init 21 = .ok (.putfield 16, 3) := by decide +kernel
theorem dX2_init_24 : decode cX2_init 24 = .ok (.aload_n 0, 1) := by decide +kernel
theorem dX2_init_25 : decode cX2_init 25 = .ok (.bipush 60, 2) := by decide +kernel
theorem dX2_init_27 : decode cX2_init 27 = .ok (.anewarray 14, 3) := by decide +kernel
theorem dX2_init_30 : decode cX2_init 30 = .ok (.putfield 20, 3) := by decide +kernel
theorem dX2_init_33 : decode cX2_init 33 = .ok (.aload_n 0, 1) := by decide +kernel
theorem dX2_init_34 : decode cX2_init 34 = .ok (.new 23, 3) := by decide +kernel
theorem dX2_init_37 : decode cX2_init 37 = .ok (.dup, 1) := by decide +kernel
theorem dX2_init_38 : decode cX2_init 38 = .ok (.invokespecial 25, 3) := by decide +kernel
theorem dX2_init_41 : decode cX2_init 41 = .ok (.putfield 26, 3) := by decide +kernel
theorem dX2_init_44 : decode cX2_init 44 = .ok (.iconst 0, 1) := by decide +kernel
theorem dX2_init_45 : decode cX2_init 45 = .ok (.istore_n 1, 1) := by decide +kernel
theorem dX2_init_46 : decode cX2_init 46 = .ok (.iload_n 1, 1) := by decide +kernel
theorem dX2_init_47 : decode cX2_init 47 = .ok (.iconst 4, 1) := by decide +kernel
theorem dX2_init_48 : decode cX2_init 48 = .ok (.if_icmp .ge 32, 3) := by decide +kernel
theorem dX2_init_51 : decode cX2_init 51 = .ok (.iconst 0, 1) := by decide +kernel
theorem dX2_init_52 : decode cX2_init 52 = .ok (.istore_n 2, 1) := by decide +kernel
theorem dX2_init_53 : decode cX2_init 53 = .ok (.iload_n 2, 1) := by decide +kernel
theorem dX2_init_54 : decode cX2_init 54 = .ok (.bipush 8, 2) := by decide +kernel
theorem dX2_init_56 : decode cX2_init 56 = .ok (.if_icmp .ge 18, 3) := by decide +kernel
theorem dX2_init_59 : decode cX2_init 59 = .ok (.aload_n 0, 1) := by decide +kernel
theorem dX2_init_60 : decode cX2_init 60 = .ok (.getfield 11, 3) := by decide +kernel
theorem dX2_init_63 : decode cX2_init 63 = .ok (.iload_n 1, 1) := by decide +kernel
theorem dX2_init_64 : decode cX2_init 64 = .ok (.aaload, 1) := by decide +kernel
theorem dX2_init_65 : decode cX2_init 65 = .ok (.iload_n 2, 1) := by decide +kernel
theorem dX2_init_66 : decode cX2_init 66 = .ok (.iload_n 2, 1) := by decide +kernel
theorem dX2_init_67 : decode cX2_init 67 = .ok (.iastore, 1) := by decide +kernel
theorem dX2_init_68 : decode cX2_init 68 = .ok (.iinc 2 1, 3) := by decide +kernel
theorem dX2_init_71 : decode cX2_init 71 = .ok (.goto (-18), 3) := by decide +kernel
theorem dX2_init_74 : decode cX2_init 74 = .ok (.iinc 1 1, 3) := by decide +kernel
theorem dX2_init_77 : decode cX2_init 77 = .ok (.goto (-31), 3) := by decide +kernel
theorem dX2_init_80 : decode cX2_init 80 = .ok (.aload_n 0, 1) := by decide +kernel
theorem dX2_init_81 : decode cX2_init 81 = .ok (.getfield 16, 3) := by decide +kernel
theorem dX2_init_84 : decode cX2_init 84 = .ok (.iconst 0, 1) := by decide +kernel
theorem dX2_init_85 : decode cX2_init 85 = .ok (.new 14, 3) := by decide +kernel
theorem dX2_init_88 : decode cX2_init 88 = .ok (.dup, 1) := by decide +kernel
theorem dX2_init_89 : decode cX2_init 89 = .ok (.bipush 14, 2) := by decide +kernel
theorem dX2_init_91 : decode cX2_init 91 = .ok (.iconst 0, 1) := by decide +kernel
theorem dX2_init_92 : decode cX2_init 92 = .ok (.iconst 0, 1) := by decide +kernel
theorem dX2_init_93 : decode cX2_init 93 = .ok (.iconst 0, 1) := by decide +kernel
theorem dX2_init_94 : decode cX2_init 94 = .ok (.aconst_null, 1) := by decide +kernel
theorem dX2_init_95 : decode cX2_init 95 = .ok (.aconst_null, 1) := by decide +kernel
theorem dX2_init_96 : decode cX2_init 96 = .ok (.invokespecial 30, 3) := by decide +kernel
theorem dX2_init_99 : decode cX2_init 99 = .ok (.aastore, 1) := by decide +kernel
theorem dX2_init_100 : decode cX2_init 100 = .ok (.aload_n 0, 1) := by decide +kernel
theorem dX2_init_101 : decode cX2_init 101 = .ok (.getfield 16, 3) := by decide +kernel
theorem dX2_init_104 : decode cX2_init 104 = .ok (.iconst 1, 1) := by decide +kernel
theorem dX2_init_105 : decode cX2_init 105 = .ok (.new 14, 3) := by decide +kernel
theorem dX2_init_108 : decode cX2_init 108 = .ok (.dup, 1) := by decide +kernel
theorem dX2_init_109 : decode cX2_init 109 = .ok (.bipush 15, 2) := by decide +kernel
theorem dX2_init_111 : decode cX2_init 111 = .ok (.iconst 0, 1) := by decide +kernel
theorem dX2_init_112 : decode cX2_init 112 = .ok (.iconst 0, 1) := by decide +kernel
theorem dX2_init_113 : decode cX2_init 113 = .ok (.iconst 0, 1) := by decide +kernel
theorem dX2_init_114 : decode cX2_init 114 = .ok (.aconst_null, 1) := by decide +kernel
theorem dX2_init_115 : decode cX2_init 115 = .ok (.aconst_null, 1) := by decide +kernel
theorem dX2_init_116 : decode cX2_init 116 = .ok (.invokespecial 30, 3) := by decide +kernel
theorem dX2_init_119 : decode cX2_init 119 = .ok (.aastore, 1) := by decide +kernel
theorem dX2_init_120 : decode cX2_init 120 = .ok (.return_, 1) := by decide +kernel
theorem dX2_dye_0 : decode cX2_dye 0 = .ok (.iload_n 1, 1) := by decide +kernel
theorem dX2_dye_1 : decode cX2_dye 1 = .ok (.invokestatic 33, 3) := by decide +kernel
theorem dX2_dye_4 : decode cX2_dye 4 = .ok (.ifCond .eq 13, 3) := by decide +kernel
theorem dX2_dye_7 : decode cX2_dye 7 = .ok (.iload_n 2, 1) := by decide +kernel
theorem dX2_dye_8 : decode cX2_dye 8 = .ok (.ifCond .lt 9, 3) := by decide +kernel
theorem dX2_dye_11 : decode cX2_dye 11 = .ok (.iload_n 2, 1) := by decide +kernel
theorem dX2_dye_12 : decode cX2_dye 12 = .ok (.bipush 8, 2) := by decide +kernel
theorem dX2_dye_14 : decode cX2_dye 14 = .ok (.if_icmp .lt 11, 3) := by decide +kernel
theorem dX2_dye_17 : decode cX2_dye 17 = .ok (.aload_n 0, 1) := by decide +kernel
theorem dX2_dye_18 : decode cX2_dye 18 = .ok (.bipush (-3), 2) := by decide +kernel
theorem dX2_dye_20 : decode cX2_dye 20 = .ok (.putfield 37, 3) := by decide +kernel
theorem dX2_dye_23 : decode cX2_dye 23 = .ok (.iconst 0, 1) := by decide +kernel
theorem dX2_dye_24 : decode cX2_dye 24 = .ok (.ireturn, 1) := by decide +kernel
theorem dX2_dye_25 : decode cX2_dye 25 = .ok (.aload_n 0, 1) := by decide +kernel
theorem dX2_dye_26 : decode cX2_dye 26 = .ok (.getfield 11, 3) := by decide +kernel
theorem dX2_dye_29 : decode cX2_dye 29 = .ok (.iload_n 1, 1) := by decide +kernel
theorem dX2_dye_30 : decode cX2_dye 30 = .ok (.aaload, 1) := by decide +kernel
theorem dX2_dye_31 : decode cX2_dye 31 = .ok (.iload_n 2, 1) := by decide +kernel
theorem dX2_dye_32 : decode cX2_dye 32 = .ok (.iaload, 1) := by decide +kernel
theorem dX2_dye_33 : decode cX2_dye 33 = .ok (.istore 4, 2) := by decide +kernel
theorem dX2_dye_35 : decode cX2_dye 35 = .ok (.aload_n 0, 1) := by decide +kernel
theorem dX2_dye_36 : decode cX2_dye 36 = .ok (.getfield 11, 3) := by decide +kernel
theorem dX2_dye_39 : decode cX2_dye 39 = .ok (.iload_n 1, 1) := by decide +kernel
theorem dX2_dye_40 : decode cX2_dye 40 = .ok (.aaload, 1) := by decide +kernel
theorem dX2_dye_41 : decode cX2_dye 41 = .ok (.iload_n 2, 1) := by decide +kernel
theorem dX2_dye_42 : decode cX2_dye 42 = .ok (.iload_n 3, 1) := by decide +kernel
theorem dX2_dye_43 : decode cX2_dye 43 = .ok (.iastore, 1) := by decide +kernel
theorem dX2_dye_44 : decode cX2_dye 44 = .ok (.aload_n 0, 1) := by decide +kernel
theorem dX2_dye_45 : decode cX2_dye 45 = .ok (.iconst 0, 1) := by decide +kernel
theorem dX2_dye_46 : decode cX2_dye 46 = .ok (.putfield 37, 3) := by decide +kernel
theorem dX2_dye_49 : decode cX2_dye 49 = .ok (.iload 4, 2) := by decide +kernel
theorem dX2_dye_51 : decode cX2_dye 51 = .ok (.ireturn, 1) := by decide +kernel
theorem dX2_pattern_0 : decode cX2_pattern 0 = .ok (.iload_n 1, 1) := by decide +kernel
theorem dX2_pattern_1 : decode cX2_pattern 1 = .ok (.ifCond .lt 9, 3) := by decide +kernel
theorem dX2_pattern_4 : decode cX2_pattern 4 = .ok (.iload_n 1, 1) := by decide +kernel
theorem dX2_pattern_5 : decode cX2_pattern 5 = .ok (.bipush 13, 2) := by decide +kernel
theorem dX2_pattern_7 : decode cX2_pattern 7 = .ok (.if_icmp .le 6, 3) := by decide +kernel
theorem dX2_pattern_10 : decode cX2_pattern 10 = .ok (.bipush (-2), 2) := by decide +kernel
theorem dX2_pattern_12 : decode cX2_pattern 12 = .ok (.ireturn, 1) := by decide +kernel
theorem dX2_pattern_13 : decode cX2_pattern 13 = .ok (.aload_n 0, 1) := by decide +kernel
theorem dX2_pattern_14 : decode cX2_pattern 14 = .ok (.iload_n 1, 1) := by decide +kernel
theorem dX2_pattern_15 : decode cX2_pattern 15 = .ok (.iload_n 2, 1) := by decide +kernel
theorem dX2_pattern_16 : decode cX2_pattern 16 = .ok (.iload_n 3, 1) := by decide +kernel
theorem dX2_pattern_17 : decode cX2_pattern 17 = .ok (.iload 4, 2) := by decide +kernel
theorem dX2_pattern_19 : decode cX2_pattern 19 = .ok (.invokevirtual 41, 3) := by decide +kernel
theorem dX2_pattern_22 : decode cX2_pattern 22 = .ok (.ifCond .ne 6, 3) := by decide +kernel
theorem dX2_pattern_25 : decode cX2_pattern 25 = .ok (.bipush (-3), 2) := by decide +kernel
theorem dX2_pattern_27 : decode cX2_pattern 27 = .ok (.ireturn, 1) := by decide +kernel
theorem dX2_pattern_28 : decode cX2_pattern 28 = .ok (.iload_n 1, 1) := by decide +kernel
theorem dX2_pattern_29 : decode cX2_pattern 29 = .ok (.iload_n 3, 1) := by decide +kernel
theorem dX2_pattern_30 : decode cX2_pattern 30 = .ok (.invokestatic 45, 3) := by decide +kernel
theorem dX2_pattern_33 : decode cX2_pattern 33 = .ok (.ifCond .ne 6, 3) := by decide +kernel
theorem dX2_pattern_36 : decode cX2_pattern 36 = .ok (.bipush (-2), 2) := by decide +kernel
theorem dX2_pattern_38 : decode cX2_pattern 38 = .ok (.ireturn, 1) := by decide +kernel
theorem dX2_pattern_39 : decode cX2_pattern 39 = .ok (.aload_n 0, 1) := by decide +kernel
theorem dX2_pattern_40 : decode cX2_pattern 40 = .ok (.getfield 49, 3) := by decide +kernel
theorem dX2_pattern_43 : decode cX2_pattern 43 = .ok (.bipush 60, 2) := by decide +kernel
theorem dX2_pattern_45 : decode cX2_pattern 45 = .ok (.if_icmp .lt 6, 3) := by decide +kernel
theorem dX2_pattern_48 : decode cX2_pattern 48 = .ok (.bipush (-4), 2) := by decide +kernel
theorem dX2_pattern_50 : decode cX2_pattern 50 = .ok (.ireturn, 1) := by decide +kernel
theorem dX2_pattern_51 : decode cX2_pattern 51 = .ok (.iload_n 1, 1) := by decide +kernel
theorem dX2_pattern_52 : decode cX2_pattern 52 = .ok (.bipush 8, 2) := by decide +kernel
theorem dX2_pattern_54 : decode cX2_pattern 54 = .ok (.if_icmp .ne 25, 3) := by decide +kernel
theorem dX2_pattern_57 : decode cX2_pattern 57 = .ok (.iload_n 3, 1) := by decide +kernel
theorem dX2_pattern_58 : decode cX2_pattern 58 = .ok (.invokestatic 33, 3) := by decide +kernel
theorem dX2_pattern_61 : decode cX2_pattern 61 = .ok (.ifCond .eq 18, 3) := by decide +kernel
theorem dX2_pattern_64 : decode cX2_pattern 64 = .ok (.aload_n 0, 1) := by decide +kernel
theorem dX2_pattern_65 : decode cX2_pattern 65 = .ok (.getfield 11, 3) := by decide +kernel
theorem dX2_pattern_68 : decode cX2_pattern 68 = .ok (.iload_n 3, 1) := by decide +kernel
theorem dX2_pattern_69 : decode cX2_pattern 69 = .ok (.aaload, 1) := by decide +kernel
theorem dX2_pattern_70 : decode cX2_pattern 70 = .ok (.invokevirtual 52, 3) := by decide +kernel
theorem dX2_pattern_73 : decode cX2_pattern 73 = .ok (.checkcast 53, 3) := by decide +kernel
theorem dX2_pattern_76 : decode cX2_pattern 76 = .ok (.goto 4, 3) := by decide +kernel
theorem dX2_pattern_79 : decode cX2_pattern 79 = .ok (.aconst_null, 1) := by decide +kernel
theorem dX2_pattern_80 : decode cX2_pattern 80 = .ok (.astore 5, 2) := by decide +kernel
theorem dX2_pattern_82 : decode cX2_pattern 82 = .ok (.iload_n 1, 1) := by decide +kernel
theorem dX2_pattern_83 : decode cX2_pattern 83 = .ok (.bipush 13, 2) := by decide +kernel
theorem dX2_pattern_85 : decode cX2_pattern 85 = .ok (.if_icmp .ne 11, 3) := by decide +kernel
theorem dX2_pattern_88 : decode cX2_pattern 88 = .ok (.aload_n 0, 1) := by decide +kernel
theorem dX2_pattern_89 : decode cX2_pattern 89 = .ok (.iload_n 2, 1) := by decide +kernel
theorem dX2_pattern_90 : decode cX2_pattern 90 = .ok (.invokevirtual 58, 3) := by decide +kernel
theorem dX2_pattern_93 : decode cX2_pattern 93 = .ok (.goto 4, 3) := by decide +kernel
theorem dX2_pattern_96 : decode cX2_pattern 96 = .ok (.aconst_null, 1) := by decide +kernel
theorem dX2_pattern_97 : decode cX2_pattern 97 = .ok (.astore 6, 2) := by decide +kernel
theorem dX2_pattern_99 : decode cX2_pattern 99 = .ok (.aload_n 0, 1) := by decide +kernel
theorem dX2_pattern_100 : decode cX2_pattern 100 = .ok (.getfield 20, 3) := by decide +kernel
theorem dX2_pattern_103 : decode cX2_pattern 103 = .ok (.aload_n 0, 1) := by decide +kernel
theorem dX2_pattern_104 : decode cX2_pattern 104 = .ok (.getfield 49, 3) := by decide +kernel
theorem dX2_pattern_107 : decode cX2_pattern 107 = .ok (.new 14, 3) := by decide +kernel
theorem dX2_pattern_110 : decode cX2_pattern 110 = .ok (.dup, 1) := by decide +kernel
theorem dX2_pattern_111 : decode cX2_pattern 111 = .ok (.iload_n 1, 1) := by decide +kernel
theorem dX2_pattern_112 : decode cX2_pattern 112 = .ok (.iload_n 2, 1) := by decide +kernel
theorem dX2_pattern_113 : decode cX2_pattern 113 = .ok (.iload_n 3, 1) := by decide +kernel
theorem dX2_pattern_114 : decode cX2_pattern 114 = .ok (.iload 4, 2) := by decide +kernel
theorem dX2_pattern_116 : decode cX2_pattern 116 = .ok (.aload 5, 2) := by decide +kernel
theorem dX2_pattern_118 : decode cX2_pattern 118 = .ok (.aload 6, 2) := by decide +kernel
theorem dX2_pattern_120 : decode cX2_pattern 120 = .ok (.invokespecial 30, 3) := by decide +kernel
theorem dX2_pattern_123 : decode cX2_pattern 123 = .ok (.aastore, 1) := by decide +kernel
theorem dX2_pattern_124 : decode cX2_pattern 124 = .ok (.aload_n 0, 1) := by decide +kernel
theorem dX2_pattern_125 : decode cX2_pattern 125 = .ok (.dup, 1) := by decide +kernel
theorem dX2_pattern_126 : decode cX2_pattern 126 = .ok (.getfield 49, 3) := by decide +kernel
theorem dX2_pattern_129 : decode cX2_pattern 129 = .ok (.iconst 1, 1) := by decide +kernel
theorem dX2_pattern_130 : decode cX2_pattern 130 = .ok (.iadd, 1) := by decide +kernel
theorem dX2_pattern_131 : decode cX2_pattern 131 = .ok (.putfield 49, 3) := by decide +kernel
theorem dX2_pattern_134 : decode cX2_pattern 134 = .ok (.aload_n 0, 1) := by decide +kernel
theorem dX2_pattern_135 : decode cX2_pattern 135 = .ok (.getfield 49, 3) := by decide +kernel
theorem dX2_pattern_138 : decode cX2_pattern 138 = .ok (.iconst 1, 1) := by decide +kernel
theorem dX2_pattern_139 : decode cX2_pattern 139 = .ok (.isub, 1) := by decide +kernel
theorem dX2_pattern_140 : decode cX2_pattern 140 = .ok (.ireturn, 1) := by decide +kernel
theorem dX2_name_0 : decode cX2_name 0 = .ok (.iload_n 1, 1) := by decide +kernel
theorem dX2_name_1 : decode cX2_name 1 = .ok (.invokestatic 62, 3) := by decide +kernel
theorem dX2_name_4 : decode cX2_name 4 = .ok (.ifCond .eq 16, 3) := by decide +kernel
theorem dX2_name_7 : decode cX2_name 7 = .ok (.iload_n 2, 1) := by decide +kernel
theorem dX2_name_8 : decode cX2_name 8 = .ok (.iconst (-1), 1) := by decide +kernel
theorem dX2_name_9 : decode cX2_name 9 = .ok (.if_icmp .eq 14, 3) := by decide +kernel
theorem dX2_name_12 : decode cX2_name 12 = .ok (.aload_n 0, 1) := by decide +kernel
theorem dX2_name_13 : decode cX2_name 13 = .ok (.iload_n 2, 1) := by decide +kernel
theorem dX2_name_14 : decode cX2_name 14 = .ok (.invokevirtual 65, 3) := by decide +kernel
theorem dX2_name_17 : decode cX2_name 17 = .ok (.ifCond .ne 6, 3) := by decide +kernel
theorem dX2_name_20 : decode cX2_name 20 = .ok (.bipush (-3), 2) := by decide +kernel
theorem dX2_name_22 : decode cX2_name 22 = .ok (.ireturn, 1) := by decide +kernel
theorem dX2_name_23 : decode cX2_name 23 = .ok (.aload_n 0, 1) := by decide +kernel
theorem dX2_name_24 : decode cX2_name 24 = .ok (.getfield 16, 3) := by decide +kernel
theorem dX2_name_27 : decode cX2_name 27 = .ok (.iload_n 1, 1) := by decide +kernel
theorem dX2_name_28 : decode cX2_name 28 = .ok (.aaload, 1) := by decide +kernel
theorem dX2_name_29 : decode cX2_name 29 = .ok (.ifnull 7, 3) := by decide +kernel
theorem dX2_name_32 : decode cX2_name 32 = .ok (.iconst 1, 1) := by decide +kernel
theorem dX2_name_33 : decode cX2_name 33 = .ok (.goto 4, 3) := by decide +kernel
theorem dX2_name_36 : decode cX2_name 36 = .ok (.iconst 0, 1) := by decide +kernel
theorem dX2_name_37 : decode cX2_name 37 = .ok (.istore_n 3, 1) := by decide +kernel
theorem dX2_name_38 : decode cX2_name 38 = .ok (.aload_n 0, 1) := by decide +kernel
theorem dX2_name_39 : decode cX2_name 39 = .ok (.getfield 16, 3) := by decide +kernel
theorem dX2_name_42 : decode cX2_name 42 = .ok (.iload_n 1, 1) := by decide +kernel
theorem dX2_name_43 : decode cX2_name 43 = .ok (.aload_n 0, 1) := by decide +kernel
theorem dX2_name_44 : decode cX2_name 44 = .ok (.iload_n 2, 1) := by decide +kernel
theorem dX2_name_45 : decode cX2_name 45 = .ok (.invokevirtual 68, 3) := by decide +kernel
theorem dX2_name_48 : decode cX2_name 48 = .ok (.aastore, 1) := by decide +kernel
theorem dX2_name_49 : decode cX2_name 49 = .ok (.iload_n 3, 1) := by decide +kernel
theorem dX2_name_50 : decode cX2_name 50 = .ok (.ireturn, 1) := by decide +kernel
theorem dX2_ask_0 : decode cX2_ask 0 = .ok (.aload_n 0, 1) := by decide +kernel
theorem dX2_ask_1 : decode cX2_ask 1 = .ok (.iload_n 1, 1) := by decide +kernel
theorem dX2_ask_2 : decode cX2_ask 2 = .ok (.invokevirtual 65, 3) := by decide +kernel
theorem dX2_ask_5 : decode cX2_ask 5 = .ok (.ifCond .ne 11, 3) := by decide +kernel
theorem dX2_ask_8 : decode cX2_ask 8 = .ok (.aload_n 0, 1) := by decide +kernel
theorem dX2_ask_9 : decode cX2_ask 9 = .ok (.bipush (-3), 2) := by decide +kernel
theorem dX2_ask_11 : decode cX2_ask 11 = .ok (.putfield 37, 3) := by decide +kernel
theorem dX2_ask_14 : decode cX2_ask 14 = .ok (.iconst 0, 1) := by decide +kernel
theorem dX2_ask_15 : decode cX2_ask 15 = .ok (.ireturn, 1) := by decide +kernel
theorem dX2_ask_16 : decode cX2_ask 16 = .ok (.aload_n 0, 1) := by decide +kernel
theorem dX2_ask_17 : decode cX2_ask 17 = .ok (.iconst 0, 1) := by decide +kernel
theorem dX2_ask_18 : decode cX2_ask 18 = .ok (.putfield 71, 3) := by decide +kernel
theorem dX2_ask_21 : decode cX2_ask 21 = .ok (.aload_n 0, 1) := by decide +kernel
theorem dX2_ask_22 : decode cX2_ask 22 = .ok (.aload_n 0, 1) := by decide +kernel
theorem dX2_ask_23 : decode cX2_ask 23 = .ok (.iload_n 1, 1) := by decide +kernel
theorem dX2_ask_24 : decode cX2_ask 24 = .ok (.invokevirtual 68, 3) := by decide +kernel
theorem dX2_ask_27 : decode cX2_ask 27 = .ok (.iload_n 2, 1) := by decide +kernel
theorem dX2_ask_28 : decode cX2_ask 28 = .ok (.iload_n 3, 1) := by decide +kernel
theorem dX2_ask_29 : decode cX2_ask 29 = .ok (.invokevirtual 74, 3) := by decide +kernel
theorem dX2_ask_32 : decode cX2_ask 32 = .ok (.istore 4, 2) := by decide +kernel
theorem dX2_ask_34 : decode cX2_ask 34 = .ok (.aload_n 0, 1) := by decide +kernel
theorem dX2_ask_35 : decode cX2_ask 35 = .ok (.aload_n 0, 1) := by decide +kernel
theorem dX2_ask_36 : decode cX2_ask 36 = .ok (.getfield 78, 3) := by decide +kernel
theorem dX2_ask_39 : decode cX2_ask 39 = .ok (.ifCond .eq 13, 3) := by decide +kernel
theorem dX2_ask_42 : decode cX2_ask 42 = .ok (.bipush (-10), 2) := by decide +kernel
theorem dX2_ask_44 : decode cX2_ask 44 = .ok (.aload_n 0, 1) := by decide +kernel
theorem dX2_ask_45 : decode cX2_ask 45 = .ok (.getfield 78, 3) := by decide +kernel
theorem dX2_ask_48 : decode cX2_ask 48 = .ok (.isub, 1) := by decide +kernel
theorem dX2_ask_49 : decode cX2_ask 49 = .ok (.goto 4, 3) := by decide +kernel
theorem dX2_ask_52 : decode cX2_ask 52 = .ok (.iconst 0, 1) := by decide +kernel
theorem dX2_ask_53 : decode cX2_ask 53 = .ok (.putfield 37, 3) := by decide +kernel
theorem dX2_ask_56 : decode cX2_ask 56 = .ok (.aload_n 0, 1) := by decide +kernel
theorem dX2_ask_57 : decode cX2_ask 57 = .ok (.getfield 78, 3) := by decide +kernel
theorem dX2_ask_60 : decode cX2_ask 60 = .ok (.ifCond .eq 7, 3) := by decide +kernel
theorem dX2_ask_63 : decode cX2_ask 63 = .ok (.iconst 0, 1) := by decide +kernel
theorem dX2_ask_64 : decode cX2_ask 64 = .ok (.goto 5, 3) := by decide +kernel
theorem dX2_ask_67 : decode cX2_ask 67 = .ok (.iload 4, 2) := by decide +kernel
theorem dX2_ask_69 : decode cX2_ask 69 = .ok (.ireturn, 1) := by decide +kernel
theorem dX2_weave_0 : decode cX2_weave 0 = .ok (.aload_n 0, 1) := by decide +kernel
theorem dX2_weave_1 : decode cX2_weave 1 = .ok (.iload_n 1, 1) := by decide +kernel
theorem dX2_weave_2 : decode cX2_weave 2 = .ok (.invokevirtual 65, 3) := by decide +kernel
theorem dX2_weave_5 : decode cX2_weave 5 = .ok (.ifCond .ne 6, 3) := by decide +kernel
theorem dX2_weave_8 : decode cX2_weave 8 = .ok (.bipush (-3), 2) := by decide +kernel
theorem dX2_weave_10 : decode cX2_weave 10 = .ok (.ireturn, 1) := by decide +kernel
theorem dX2_weave_11 : decode cX2_weave 11 = .ok (.iload 4, 2) := by decide +kernel
theorem dX2_weave_13 : decode cX2_weave 13 = .ok (.invokestatic 81, 3) := by decide +kernel
theorem dX2_weave_16 : decode cX2_weave 16 = .ok (.ifCond .eq 11, 3) := by decide +kernel
theorem dX2_weave_19 : decode cX2_weave 19 = .ok (.iload 5, 2) := by decide +kernel
theorem dX2_weave_21 : decode cX2_weave 21 = .ok (.invokestatic 81, 3) := by decide +kernel
theorem dX2_weave_24 : decode cX2_weave 24 = .ok (.ifCond .ne 6, 3) := by decide +kernel
theorem dX2_weave_27 : decode cX2_weave 27 = .ok (.bipush (-2), 2) := by decide +kernel
theorem dX2_weave_29 : decode cX2_weave 29 = .ok (.ireturn, 1) := by decide +kernel
theorem dX2_weave_30 : decode cX2_weave 30 = .ok (.aload_n 0, 1) := by decide +kernel
theorem dX2_weave_31 : decode cX2_weave 31 = .ok (.iconst 0, 1) := by decide +kernel
theorem dX2_weave_32 : decode cX2_weave 32 = .ok (.putfield 71, 3) := by decide +kernel
theorem dX2_weave_35 : decode cX2_weave 35 = .ok (.aload_n 0, 1) := by decide +kernel
theorem dX2_weave_36 : decode cX2_weave 36 = .ok (.getfield 26, 3) := by decide +kernel
theorem dX2_weave_39 : decode cX2_weave 39 = .ok (.iload 4, 2) := by decide +kernel
theorem dX2_weave_41 : decode cX2_weave 41 = .ok (.invokevirtual 84, 3) := by decide +kernel
theorem dX2_weave_44 : decode cX2_weave 44 = .ok (.aload_n 0, 1) := by decide +kernel
theorem dX2_weave_45 : decode cX2_weave 45 = .ok (.iload_n 1, 1) := by decide +kernel
theorem dX2_weave_46 : decode cX2_weave 46 = .ok (.invokevirtual 68, 3) := by decide +kernel
theorem dX2_weave_49 : decode cX2_weave 49 = .ok (.astore 6, 2) := by decide +kernel
theorem dX2_weave_51 : decode cX2_weave 51 = .ok (.iconst 0, 1) := by decide +kernel
theorem dX2_weave_52 : decode cX2_weave 52 = .ok (.istore 7, 2) := by decide +kernel
theorem dX2_weave_54 : decode cX2_weave 54 = .ok (.iload 7, 2) := by decide +kernel
theorem dX2_weave_56 : decode cX2_weave 56 = .ok (.iload 5, 2) := by decide +kernel
theorem dX2_weave_58 : decode cX2_weave 58 = .ok (.if_icmp .ge 65, 3) := by decide +kernel
theorem dX2_weave_61 : decode cX2_weave 61 = .ok (.iconst 0, 1) := by decide +kernel
theorem dX2_weave_62 : decode cX2_weave 62 = .ok (.istore 8, 2) := by decide +kernel
theorem dX2_weave_64 : decode cX2_weave 64 = .ok (.iload 8, 2) := by decide +kernel
theorem dX2_weave_66 : decode cX2_weave 66 = .ok (.iload 4, 2) := by decide +kernel
theorem dX2_weave_68 : decode cX2_weave 68 = .ok (.if_icmp .ge 49, 3) := by decide +kernel
theorem dX2_weave_71 : decode cX2_weave 71 = .ok (.aload_n 0, 1) := by decide +kernel
theorem dX2_weave_72 : decode cX2_weave 72 = .ok (.aload 6, 2) := by decide +kernel
theorem dX2_weave_74 : decode cX2_weave 74 = .ok (.iload_n 2, 1) := by decide +kernel
theorem dX2_weave_75 : decode cX2_weave 75 = .ok (.iload 8, 2) := by decide +kernel
theorem dX2_weave_77 : decode cX2_weave 77 = .ok (.iadd, 1) := by decide +kernel
theorem dX2_weave_78 : decode cX2_weave 78 = .ok (.iload_n 3, 1) := by decide +kernel
theorem dX2_weave_79 : decode cX2_weave 79 = .ok (.iload 7, 2) := by decide +kernel
theorem dX2_weave_81 : decode cX2_weave 81 = .ok (.iadd, 1) := by decide +kernel
theorem dX2_weave_82 : decode cX2_weave 82 = .ok (.invokevirtual 74, 3) := by decide +kernel
theorem dX2_weave_85 : decode cX2_weave 85 = .ok (.istore 9, 2) := by decide +kernel
theorem dX2_weave_87 : decode cX2_weave 87 = .ok (.aload_n 0, 1) := by decide +kernel
theorem dX2_weave_88 : decode cX2_weave 88 = .ok (.getfield 78, 3) := by decide +kernel
theorem dX2_weave_91 : decode cX2_weave 91 = .ok (.ifCond .eq 11, 3) := by decide +kernel
theorem dX2_weave_94 : decode cX2_weave 94 = .ok (.bipush (-10), 2) := by decide +kernel
theorem dX2_weave_96 : decode cX2_weave 96 = .ok (.aload_n 0, 1) := by decide +kernel
theorem dX2_weave_97 : decode cX2_weave 97 = .ok (.getfield 78, 3) := by decide +kernel
theorem dX2_weave_100 : decode cX2_weave 100 = .ok (.isub, 1) := by decide +kernel
theorem dX2_weave_101 : decode cX2_weave 101 = .ok (.ireturn, 1) := by decide +kernel
theorem dX2_weave_102 : decode cX2_weave 102 = .ok (.aload_n 0, 1) := by decide +kernel
theorem dX2_weave_103 : decode cX2_weave 103 = .ok (.getfield 26, 3) := by decide +kernel
theorem dX2_weave_106 : decode cX2_weave 106 = .ok (.iload 9, 2) := by decide +kernel
theorem dX2_weave_108 : decode cX2_weave 108 = .ok (.invokevirtual 88, 3) := by decide +kernel
theorem dX2_weave_111 : decode cX2_weave 111 = .ok (.iinc 8 1, 3) := by decide +kernel
theorem dX2_weave_114 : decode cX2_weave 114 = .ok (.goto (-50), 3) := by decide +kernel
theorem dX2_weave_117 : decode cX2_weave 117 = .ok (.iinc 7 1, 3) := by decide +kernel
theorem dX2_weave_120 : decode cX2_weave 120 = .ok (.goto (-66), 3) := by decide +kernel
theorem dX2_weave_123 : decode cX2_weave 123 = .ok (.iload 4, 2) := by decide +kernel
theorem dX2_weave_125 : decode cX2_weave 125 = .ok (.iload 5, 2) := by decide +kernel
theorem dX2_weave_127 : decode cX2_weave 127 = .ok (.imul, 1) := by decide +kernel
theorem dX2_weave_128 : decode cX2_weave 128 = .ok (.ireturn, 1) := by decide +kernel
theorem dX2_cloth_0 : decode cX2_cloth 0 = .ok (.aload_n 0, 1) := by decide +kernel
theorem dX2_cloth_1 : decode cX2_cloth 1 = .ok (.getfield 26, 3) := by decide +kernel
theorem dX2_cloth_4 : decode cX2_cloth 4 = .ok (.iload_n 1, 1) := by decide +kernel
theorem dX2_cloth_5 : decode cX2_cloth 5 = .ok (.invokevirtual 91, 3) := by decide +kernel
theorem dX2_cloth_8 : decode cX2_cloth 8 = .ok (.ireturn, 1) := by decide +kernel
theorem dX2_changes_0 : decode cX2_changes 0 = .ok (.aload_n 0, 1) := by decide +kernel
theorem dX2_changes_1 : decode cX2_changes 1 = .ok (.getfield 26, 3) := by decide +kernel
theorem dX2_changes_4 : decode cX2_changes 4 = .ok (.invokevirtual 95, 3) := by decide +kernel
theorem dX2_changes_7 : decode cX2_changes 7 = .ok (.ireturn, 1) := by decide +kernel
theorem dX2_most_0 : decode cX2_most 0 = .ok (.aload_n 0, 1) := by decide +kernel
theorem dX2_most_1 : decode cX2_most 1 = .ok (.getfield 26, 3) := by decide +kernel
theorem dX2_most_4 : decode cX2_most 4 = .ok (.invokevirtual 99, 3) := by decide +kernel
theorem dX2_most_7 : decode cX2_most 7 = .ok (.ireturn, 1) := by decide +kernel
theorem dX2_why_0 : decode cX2_why 0 = .ok (.aload_n 0, 1) := by decide +kernel
theorem dX2_why_1 : decode cX2_why 1 = .ok (.getfield 37, 3) := by decide +kernel
theorem dX2_why_4 : decode cX2_why 4 = .ok (.ireturn, 1) := by decide +kernel
theorem dX2_count_0 : decode cX2_count 0 = .ok (.iload_n 1, 1) := by decide +kernel
theorem dX2_count_1 : decode cX2_count 1 = .ok (.tableswitch 66 0 4 #[35, 40, 48, 56, 61], 35) := by decide +kernel
theorem dX2_count_36 : decode cX2_count 36 = .ok (.aload_n 0, 1) := by decide +kernel
theorem dX2_count_37 : decode cX2_count 37 = .ok (.getfield 49, 3) := by decide +kernel
theorem dX2_count_40 : decode cX2_count 40 = .ok (.ireturn, 1) := by decide +kernel
theorem dX2_count_41 : decode cX2_count 41 = .ok (.aload_n 0, 1) := by decide +kernel
theorem dX2_count_42 : decode cX2_count 42 = .ok (.getfield 26, 3) := by decide +kernel
theorem dX2_count_45 : decode cX2_count 45 = .ok (.getfield 102, 3) := by decide +kernel
theorem dX2_count_48 : decode cX2_count 48 = .ok (.ireturn, 1) := by decide +kernel
theorem dX2_count_49 : decode cX2_count 49 = .ok (.aload_n 0, 1) := by decide +kernel
theorem dX2_count_50 : decode cX2_count 50 = .ok (.getfield 26, 3) := by decide +kernel
theorem dX2_count_53 : decode cX2_count 53 = .ok (.getfield 105, 3) := by decide +kernel
theorem dX2_count_56 : decode cX2_count 56 = .ok (.ireturn, 1) := by decide +kernel
theorem dX2_count_57 : decode cX2_count 57 = .ok (.aload_n 0, 1) := by decide +kernel
theorem dX2_count_58 : decode cX2_count 58 = .ok (.getfield 108, 3) := by decide +kernel
theorem dX2_count_61 : decode cX2_count 61 = .ok (.ireturn, 1) := by decide +kernel
theorem dX2_count_62 : decode cX2_count 62 = .ok (.aload_n 0, 1) := by decide +kernel
theorem dX2_count_63 : decode cX2_count 63 = .ok (.getfield 111, 3) := by decide +kernel
theorem dX2_count_66 : decode cX2_count 66 = .ok (.ireturn, 1) := by decide +kernel
theorem dX2_count_67 : decode cX2_count 67 = .ok (.bipush (-2), 2) := by decide +kernel
theorem dX2_count_69 : decode cX2_count 69 = .ok (.ireturn, 1) := by decide +kernel
theorem dX2_isDye_0 : decode cX2_isDye 0 = .ok (.iload_n 0, 1) := by decide +kernel
theorem dX2_isDye_1 : decode cX2_isDye 1 = .ok (.ifCond .lt 12, 3) := by decide +kernel
theorem dX2_isDye_4 : decode cX2_isDye 4 = .ok (.iload_n 0, 1) := by decide +kernel
theorem dX2_isDye_5 : decode cX2_isDye 5 = .ok (.iconst 4, 1) := by decide +kernel
theorem dX2_isDye_6 : decode cX2_isDye 6 = .ok (.if_icmp .ge 7, 3) := by decide +kernel
theorem dX2_isDye_9 : decode cX2_isDye 9 = .ok (.iconst 1, 1) := by decide +kernel
theorem dX2_isDye_10 : decode cX2_isDye 10 = .ok (.goto 4, 3) := by decide +kernel
theorem dX2_isDye_13 : decode cX2_isDye 13 = .ok (.iconst 0, 1) := by decide +kernel
theorem dX2_isDye_14 : decode cX2_isDye 14 = .ok (.ireturn, 1) := by decide +kernel
theorem dX2_isName_0 : decode cX2_isName 0 = .ok (.iload_n 0, 1) := by decide +kernel
theorem dX2_isName_1 : decode cX2_isName 1 = .ok (.ifCond .lt 13, 3) := by decide +kernel
theorem dX2_isName_4 : decode cX2_isName 4 = .ok (.iload_n 0, 1) := by decide +kernel
theorem dX2_isName_5 : decode cX2_isName 5 = .ok (.bipush 6, 2) := by decide +kernel
theorem dX2_isName_7 : decode cX2_isName 7 = .ok (.if_icmp .ge 7, 3) := by decide +kernel
theorem dX2_isName_10 : decode cX2_isName 10 = .ok (.iconst 1, 1) := by decide +kernel
theorem dX2_isName_11 : decode cX2_isName 11 = .ok (.goto 4, 3) := by decide +kernel
theorem dX2_isName_14 : decode cX2_isName 14 = .ok (.iconst 0, 1) := by decide +kernel
theorem dX2_isName_15 : decode cX2_isName 15 = .ok (.ireturn, 1) := by decide +kernel
theorem dX2_isSide_0 : decode cX2_isSide 0 = .ok (.iload_n 0, 1) := by decide +kernel
theorem dX2_isSide_1 : decode cX2_isSide 1 = .ok (.iconst 1, 1) := by decide +kernel
theorem dX2_isSide_2 : decode cX2_isSide 2 = .ok (.if_icmp .lt 13, 3) := by decide +kernel
theorem dX2_isSide_5 : decode cX2_isSide 5 = .ok (.iload_n 0, 1) := by decide +kernel
theorem dX2_isSide_6 : decode cX2_isSide 6 = .ok (.bipush 12, 2) := by decide +kernel
theorem dX2_isSide_8 : decode cX2_isSide 8 = .ok (.if_icmp .gt 7, 3) := by decide +kernel
theorem dX2_isSide_11 : decode cX2_isSide 11 = .ok (.iconst 1, 1) := by decide +kernel
theorem dX2_isSide_12 : decode cX2_isSide 12 = .ok (.goto 4, 3) := by decide +kernel
theorem dX2_isSide_15 : decode cX2_isSide 15 = .ok (.iconst 0, 1) := by decide +kernel
theorem dX2_isSide_16 : decode cX2_isSide 16 = .ok (.ireturn, 1) := by decide +kernel
theorem dX2_isPattern_0 : decode cX2_isPattern 0 = .ok (.iload_n 1, 1) := by decide +kernel
theorem dX2_isPattern_1 : decode cX2_isPattern 1 = .ok (.ifCond .lt 15, 3) := by decide +kernel
theorem dX2_isPattern_4 : decode cX2_isPattern 4 = .ok (.iload_n 1, 1) := by decide +kernel
theorem dX2_isPattern_5 : decode cX2_isPattern 5 = .ok (.aload_n 0, 1) := by decide +kernel
theorem dX2_isPattern_6 : decode cX2_isPattern 6 = .ok (.getfield 49, 3) := by decide +kernel
theorem dX2_isPattern_9 : decode cX2_isPattern 9 = .ok (.if_icmp .ge 7, 3) := by decide +kernel
theorem dX2_isPattern_12 : decode cX2_isPattern 12 = .ok (.iconst 1, 1) := by decide +kernel
theorem dX2_isPattern_13 : decode cX2_isPattern 13 = .ok (.goto 4, 3) := by decide +kernel
theorem dX2_isPattern_16 : decode cX2_isPattern 16 = .ok (.iconst 0, 1) := by decide +kernel
theorem dX2_isPattern_17 : decode cX2_isPattern 17 = .ok (.ireturn, 1) := by decide +kernel
theorem dX2_numbered_0 : decode cX2_numbered 0 = .ok (.aload_n 0, 1) := by decide +kernel
theorem dX2_numbered_1 : decode cX2_numbered 1 = .ok (.iload_n 1, 1) := by decide +kernel
theorem dX2_numbered_2 : decode cX2_numbered 2 = .ok (.invokevirtual 65, 3) := by decide +kernel
theorem dX2_numbered_5 : decode cX2_numbered 5 = .ok (.ifCond .eq 12, 3) := by decide +kernel
theorem dX2_numbered_8 : decode cX2_numbered 8 = .ok (.aload_n 0, 1) := by decide +kernel
theorem dX2_numbered_9 : decode cX2_numbered 9 = .ok (.getfield 20, 3) := by decide +kernel
theorem dX2_numbered_12 : decode cX2_numbered 12 = .ok (.iload_n 1, 1) := by decide +kernel
theorem dX2_numbered_13 : decode cX2_numbered 13 = .ok (.aaload, 1) := by decide +kernel
theorem dX2_numbered_14 : decode cX2_numbered 14 = .ok (.goto 4, 3) := by decide +kernel
theorem dX2_numbered_17 : decode cX2_numbered 17 = .ok (.aconst_null, 1) := by decide +kernel
theorem dX2_numbered_18 : decode cX2_numbered 18 = .ok (.areturn, 1) := by decide +kernel
theorem dX2_named_0 : decode cX2_named 0 = .ok (.iload_n 1, 1) := by decide +kernel
theorem dX2_named_1 : decode cX2_named 1 = .ok (.invokestatic 62, 3) := by decide +kernel
theorem dX2_named_4 : decode cX2_named 4 = .ok (.ifCond .eq 12, 3) := by decide +kernel
theorem dX2_named_7 : decode cX2_named 7 = .ok (.aload_n 0, 1) := by decide +kernel
theorem dX2_named_8 : decode cX2_named 8 = .ok (.getfield 16, 3) := by decide +kernel
theorem dX2_named_11 : decode cX2_named 11 = .ok (.iload_n 1, 1) := by decide +kernel
theorem dX2_named_12 : decode cX2_named 12 = .ok (.aaload, 1) := by decide +kernel
theorem dX2_named_13 : decode cX2_named 13 = .ok (.goto 4, 3) := by decide +kernel
theorem dX2_named_16 : decode cX2_named 16 = .ok (.aconst_null, 1) := by decide +kernel
theorem dX2_named_17 : decode cX2_named 17 = .ok (.areturn, 1) := by decide +kernel
theorem dX2_knowsAll_0 : decode cX2_knowsAll 0 = .ok (.iload_n 1, 1) := by decide +kernel
theorem dX2_knowsAll_1 : decode cX2_knowsAll 1 = .ok (.tableswitch 144 3 13 #[59, 59, 65, 87, 118, 118, 139, 59, 65, 59, 139], 59) := by decide +kernel
theorem dX2_knowsAll_60 : decode cX2_knowsAll 60 = .ok (.aload_n 0, 1) := by decide +kernel
theorem dX2_knowsAll_61 : decode cX2_knowsAll 61 = .ok (.iload_n 2, 1) := by decide +kernel
theorem dX2_knowsAll_62 : decode cX2_knowsAll 62 = .ok (.invokevirtual 65, 3) := by decide +kernel
theorem dX2_knowsAll_65 : decode cX2_knowsAll 65 = .ok (.ireturn, 1) := by decide +kernel
theorem dX2_knowsAll_66 : decode cX2_knowsAll 66 = .ok (.aload_n 0, 1) := by decide +kernel
theorem dX2_knowsAll_67 : decode cX2_knowsAll 67 = .ok (.iload_n 2, 1) := by decide +kernel
theorem dX2_knowsAll_68 : decode cX2_knowsAll 68 = .ok (.invokevirtual 65, 3) := by decide +kernel
theorem dX2_knowsAll_71 : decode cX2_knowsAll 71 = .ok (.ifCond .eq 15, 3) := by decide +kernel
theorem dX2_knowsAll_74 : decode cX2_knowsAll 74 = .ok (.aload_n 0, 1) := by decide +kernel
theorem dX2_knowsAll_75 : decode cX2_knowsAll 75 = .ok (.iload_n 3, 1) := by decide +kernel
theorem dX2_knowsAll_76 : decode cX2_knowsAll 76 = .ok (.invokevirtual 65, 3) := by decide +kernel
theorem dX2_knowsAll_79 : decode cX2_knowsAll 79 = .ok (.ifCond .eq 7, 3) := by decide +kernel
theorem dX2_knowsAll_82 : decode cX2_knowsAll 82 = .ok (.iconst 1, 1) := by decide +kernel
theorem dX2_knowsAll_83 : decode cX2_knowsAll 83 = .ok (.goto 4, 3) := by decide +kernel
theorem dX2_knowsAll_86 : decode cX2_knowsAll 86 = .ok (.iconst 0, 1) := by decide +kernel
theorem dX2_knowsAll_87 : decode cX2_knowsAll 87 = .ok (.ireturn, 1) := by decide +kernel
theorem dX2_knowsAll_88 : decode cX2_knowsAll 88 = .ok (.aload_n 0, 1) := by decide +kernel
theorem dX2_knowsAll_89 : decode cX2_knowsAll 89 = .ok (.iload_n 2, 1) := by decide +kernel
theorem dX2_knowsAll_90 : decode cX2_knowsAll 90 = .ok (.invokevirtual 65, 3) := by decide +kernel
theorem dX2_knowsAll_93 : decode cX2_knowsAll 93 = .ok (.ifCond .eq 24, 3) := by decide +kernel
theorem dX2_knowsAll_96 : decode cX2_knowsAll 96 = .ok (.aload_n 0, 1) := by decide +kernel
theorem dX2_knowsAll_97 : decode cX2_knowsAll 97 = .ok (.iload_n 3, 1) := by decide +kernel
theorem dX2_knowsAll_98 : decode cX2_knowsAll 98 = .ok (.invokevirtual 65, 3) := by decide +kernel
theorem dX2_knowsAll_101 : decode cX2_knowsAll 101 = .ok (.ifCond .eq 16, 3) := by decide +kernel
theorem dX2_knowsAll_104 : decode cX2_knowsAll 104 = .ok (.aload_n 0, 1) := by decide +kernel
theorem dX2_knowsAll_105 : decode cX2_knowsAll 105 = .ok (.iload 4, 2) := by decide +kernel
theorem dX2_knowsAll_107 : decode cX2_knowsAll 107 = .ok (.invokevirtual 65, 3) := by decide +kernel
theorem dX2_knowsAll_110 : decode cX2_knowsAll 110 = .ok (.ifCond .eq 7, 3) := by decide +kernel
theorem dX2_knowsAll_113 : decode cX2_knowsAll 113 = .ok (.iconst 1, 1) := by decide +kernel
theorem dX2_knowsAll_114 : decode cX2_knowsAll 114 = .ok (.goto 4, 3) := by decide +kernel
theorem dX2_knowsAll_117 : decode cX2_knowsAll 117 = .ok (.iconst 0, 1) := by decide +kernel
theorem dX2_knowsAll_118 : decode cX2_knowsAll 118 = .ok (.ireturn, 1) := by decide +kernel
theorem dX2_knowsAll_119 : decode cX2_knowsAll 119 = .ok (.aload_n 0, 1) := by decide +kernel
theorem dX2_knowsAll_120 : decode cX2_knowsAll 120 = .ok (.iload_n 2, 1) := by decide +kernel
theorem dX2_knowsAll_121 : decode cX2_knowsAll 121 = .ok (.invokevirtual 65, 3) := by decide +kernel
theorem dX2_knowsAll_124 : decode cX2_knowsAll 124 = .ok (.ifCond .eq 14, 3) := by decide +kernel
theorem dX2_knowsAll_127 : decode cX2_knowsAll 127 = .ok (.iload_n 3, 1) := by decide +kernel
theorem dX2_knowsAll_128 : decode cX2_knowsAll 128 = .ok (.invokestatic 33, 3) := by decide +kernel
theorem dX2_knowsAll_131 : decode cX2_knowsAll 131 = .ok (.ifCond .eq 7, 3) := by decide +kernel
theorem dX2_knowsAll_134 : decode cX2_knowsAll 134 = .ok (.iconst 1, 1) := by decide +kernel
theorem dX2_knowsAll_135 : decode cX2_knowsAll 135 = .ok (.goto 4, 3) := by decide +kernel
theorem dX2_knowsAll_138 : decode cX2_knowsAll 138 = .ok (.iconst 0, 1) := by decide +kernel
theorem dX2_knowsAll_139 : decode cX2_knowsAll 139 = .ok (.ireturn, 1) := by decide +kernel
theorem dX2_knowsAll_140 : decode cX2_knowsAll 140 = .ok (.iload_n 2, 1) := by decide +kernel
theorem dX2_knowsAll_141 : decode cX2_knowsAll 141 = .ok (.invokestatic 62, 3) := by decide +kernel
theorem dX2_knowsAll_144 : decode cX2_knowsAll 144 = .ok (.ireturn, 1) := by decide +kernel
theorem dX2_knowsAll_145 : decode cX2_knowsAll 145 = .ok (.iconst 1, 1) := by decide +kernel
theorem dX2_knowsAll_146 : decode cX2_knowsAll 146 = .ok (.ireturn, 1) := by decide +kernel
theorem dX2_fits_0 : decode cX2_fits 0 = .ok (.iload_n 0, 1) := by decide +kernel
theorem dX2_fits_1 : decode cX2_fits 1 = .ok (.lookupswitch 82 #[(4, 35), (10, 50), (12, 67)], 35) := by decide +kernel
theorem dX2_fits_36 : decode cX2_fits 36 = .ok (.iload_n 1, 1) := by decide +kernel
theorem dX2_fits_37 : decode cX2_fits 37 = .ok (.ifCond .lt 12, 3) := by decide +kernel
theorem dX2_fits_40 : decode cX2_fits 40 = .ok (.iload_n 1, 1) := by decide +kernel
theorem dX2_fits_41 : decode cX2_fits 41 = .ok (.iconst 3, 1) := by decide +kernel
theorem dX2_fits_42 : decode cX2_fits 42 = .ok (.if_icmp .gt 7, 3) := by decide +kernel
theorem dX2_fits_45 : decode cX2_fits 45 = .ok (.iconst 1, 1) := by decide +kernel
theorem dX2_fits_46 : decode cX2_fits 46 = .ok (.goto 4, 3) := by decide +kernel
theorem dX2_fits_49 : decode cX2_fits 49 = .ok (.iconst 0, 1) := by decide +kernel
theorem dX2_fits_50 : decode cX2_fits 50 = .ok (.ireturn, 1) := by decide +kernel
theorem dX2_fits_51 : decode cX2_fits 51 = .ok (.iload_n 1, 1) := by decide +kernel
theorem dX2_fits_52 : decode cX2_fits 52 = .ok (.iconst 1, 1) := by decide +kernel
theorem dX2_fits_53 : decode cX2_fits 53 = .ok (.if_icmp .lt 13, 3) := by decide +kernel
theorem dX2_fits_56 : decode cX2_fits 56 = .ok (.iload_n 1, 1) := by decide +kernel
theorem dX2_fits_57 : decode cX2_fits 57 = .ok (.bipush 50, 2) := by decide +kernel
theorem dX2_fits_59 : decode cX2_fits 59 = .ok (.if_icmp .gt 7, 3) := by decide +kernel
theorem dX2_fits_62 : decode cX2_fits 62 = .ok (.iconst 1, 1) := by decide +kernel
theorem dX2_fits_63 : decode cX2_fits 63 = .ok (.goto 4, 3) := by decide +kernel
theorem dX2_fits_66 : decode cX2_fits 66 = .ok (.iconst 0, 1) := by decide +kernel
theorem dX2_fits_67 : decode cX2_fits 67 = .ok (.ireturn, 1) := by decide +kernel
theorem dX2_fits_68 : decode cX2_fits 68 = .ok (.iload_n 1, 1) := by decide +kernel
theorem dX2_fits_69 : decode cX2_fits 69 = .ok (.ifCond .lt 12, 3) := by decide +kernel
theorem dX2_fits_72 : decode cX2_fits 72 = .ok (.iload_n 1, 1) := by decide +kernel
theorem dX2_fits_73 : decode cX2_fits 73 = .ok (.iconst 4, 1) := by decide +kernel
theorem dX2_fits_74 : decode cX2_fits 74 = .ok (.if_icmp .ge 7, 3) := by decide +kernel
theorem dX2_fits_77 : decode cX2_fits 77 = .ok (.iconst 1, 1) := by decide +kernel
theorem dX2_fits_78 : decode cX2_fits 78 = .ok (.goto 4, 3) := by decide +kernel
theorem dX2_fits_81 : decode cX2_fits 81 = .ok (.iconst 0, 1) := by decide +kernel
theorem dX2_fits_82 : decode cX2_fits 82 = .ok (.ireturn, 1) := by decide +kernel
theorem dX2_fits_83 : decode cX2_fits 83 = .ok (.iconst 1, 1) := by decide +kernel
theorem dX2_fits_84 : decode cX2_fits 84 = .ok (.ireturn, 1) := by decide +kernel
theorem dX2_tellPlace_0 : decode cX2_tellPlace 0 = .ok (.aload_n 0, 1) := by decide +kernel
theorem dX2_tellPlace_1 : decode cX2_tellPlace 1 = .ok (.iconst 0, 1) := by decide +kernel
theorem dX2_tellPlace_2 : decode cX2_tellPlace 2 = .ok (.putfield 108, 3) := by decide +kernel
theorem dX2_tellPlace_5 : decode cX2_tellPlace 5 = .ok (.aload_n 0, 1) := by decide +kernel
theorem dX2_tellPlace_6 : decode cX2_tellPlace 6 = .ok (.iconst 0, 1) := by decide +kernel
theorem dX2_tellPlace_7 : decode cX2_tellPlace 7 = .ok (.putfield 78, 3) := by decide +kernel
theorem dX2_tellPlace_10 : decode cX2_tellPlace 10 = .ok (.aload_n 0, 1) := by decide +kernel
theorem dX2_tellPlace_11 : decode cX2_tellPlace 11 = .ok (.aload_n 1, 1) := by decide +kernel
theorem dX2_tellPlace_12 : decode cX2_tellPlace 12 = .ok (.iload_n 2, 1) := by decide +kernel
theorem dX2_tellPlace_13 : decode cX2_tellPlace 13 = .ok (.iload_n 3, 1) := by decide +kernel
theorem dX2_tellPlace_14 : decode cX2_tellPlace 14 = .ok (.invokevirtual 114, 3) := by decide +kernel
theorem dX2_tellPlace_17 : decode cX2_tellPlace 17 = .ok (.ireturn, 1) := by decide +kernel
theorem dX2_fail_0 : decode cX2_fail 0 = .ok (.aload_n 0, 1) := by decide +kernel
theorem dX2_fail_1 : decode cX2_fail 1 = .ok (.iload_n 1, 1) := by decide +kernel
theorem dX2_fail_2 : decode cX2_fail 2 = .ok (.putfield 78, 3) := by decide +kernel
theorem dX2_fail_5 : decode cX2_fail 5 = .ok (.iconst 0, 1) := by decide +kernel
theorem dX2_fail_6 : decode cX2_fail 6 = .ok (.ireturn, 1) := by decide +kernel
theorem dX2_tell_0 : decode cX2_tell 0 = .ok (.aload_n 0, 1) := by decide +kernel
theorem dX2_tell_1 : decode cX2_tell 1 = .ok (.getfield 108, 3) := by decide +kernel
theorem dX2_tell_4 : decode cX2_tell 4 = .ok (.bipush 100, 2) := by decide +kernel
theorem dX2_tell_6 : decode cX2_tell 6 = .ok (.if_icmp .lt 9, 3) := by decide +kernel
theorem dX2_tell_9 : decode cX2_tell 9 = .ok (.aload_n 0, 1) := by decide +kernel
theorem dX2_tell_10 : decode cX2_tell 10 = .ok (.iconst 4, 1) := by decide +kernel
theorem dX2_tell_11 : decode cX2_tell 11 = .ok (.invokevirtual 117, 3) := by decide +kernel
theorem dX2_tell_14 : decode cX2_tell 14 = .ok (.ireturn, 1) := by decide +kernel
theorem dX2_tell_15 : decode cX2_tell 15 = .ok (.aload_n 0, 1) := by decide +kernel
theorem dX2_tell_16 : decode cX2_tell 16 = .ok (.dup, 1) := by decide +kernel
theorem dX2_tell_17 : decode cX2_tell 17 = .ok (.getfield 108, 3) := by decide +kernel
theorem dX2_tell_20 : decode cX2_tell 20 = .ok (.iconst 1, 1) := by decide +kernel
theorem dX2_tell_21 : decode cX2_tell 21 = .ok (.iadd, 1) := by decide +kernel
theorem dX2_tell_22 : decode cX2_tell 22 = .ok (.putfield 108, 3) := by decide +kernel
theorem dX2_tell_25 : decode cX2_tell 25 = .ok (.aload_n 1, 1) := by decide +kernel
theorem dX2_tell_26 : decode cX2_tell 26 = .ok (.ifnonnull 9, 3) := by decide +kernel
theorem dX2_tell_29 : decode cX2_tell 29 = .ok (.aload_n 0, 1) := by decide +kernel
theorem dX2_tell_30 : decode cX2_tell 30 = .ok (.iconst 3, 1) := by decide +kernel
theorem dX2_tell_31 : decode cX2_tell 31 = .ok (.invokevirtual 117, 3) := by decide +kernel
theorem dX2_tell_34 : decode cX2_tell 34 = .ok (.ireturn, 1) := by decide +kernel
theorem dX2_tell_35 : decode cX2_tell 35 = .ok (.aload_n 1, 1) := by decide +kernel
theorem dX2_tell_36 : decode cX2_tell 36 = .ok (.getfield 120, 3) := by decide +kernel
theorem dX2_tell_39 : decode cX2_tell 39 = .ok (.tableswitch 228 0 15 #[77, 82, 89, 97, 122, 130, 138, 146, 146, 154, 174, 182, 190, 198, 209, 215], 77) := by decide +kernel
theorem dX2_tell_116 : decode cX2_tell 116 = .ok (.aload_n 1, 1) := by decide +kernel
theorem dX2_tell_117 : decode cX2_tell 117 = .ok (.getfield 123, 3) := by decide +kernel
theorem dX2_tell_120 : decode cX2_tell 120 = .ok (.ireturn, 1) := by decide +kernel
theorem dX2_tell_121 : decode cX2_tell 121 = .ok (.aload_n 0, 1) := by decide +kernel
theorem dX2_tell_122 : decode cX2_tell 122 = .ok (.aload_n 1, 1) := by decide +kernel
theorem dX2_tell_123 : decode cX2_tell 123 = .ok (.iload_n 2, 1) := by decide +kernel
theorem dX2_tell_124 : decode cX2_tell 124 = .ok (.invokevirtual 126, 3) := by decide +kernel
theorem dX2_tell_127 : decode cX2_tell 127 = .ok (.ireturn, 1) := by decide +kernel
theorem dX2_tell_128 : decode cX2_tell 128 = .ok (.aload_n 0, 1) := by decide +kernel
theorem dX2_tell_129 : decode cX2_tell 129 = .ok (.aload_n 1, 1) := by decide +kernel
theorem dX2_tell_130 : decode cX2_tell 130 = .ok (.iload_n 2, 1) := by decide +kernel
theorem dX2_tell_131 : decode cX2_tell 131 = .ok (.iload_n 3, 1) := by decide +kernel
theorem dX2_tell_132 : decode cX2_tell 132 = .ok (.invokevirtual 130, 3) := by decide +kernel
theorem dX2_tell_135 : decode cX2_tell 135 = .ok (.ireturn, 1) := by decide +kernel
theorem dX2_tell_136 : decode cX2_tell 136 = .ok (.aload_n 0, 1) := by decide +kernel
theorem dX2_tell_137 : decode cX2_tell 137 = .ok (.aload_n 0, 1) := by decide +kernel
theorem dX2_tell_138 : decode cX2_tell 138 = .ok (.aload_n 1, 1) := by decide +kernel
theorem dX2_tell_139 : decode cX2_tell 139 = .ok (.getfield 123, 3) := by decide +kernel
theorem dX2_tell_142 : decode cX2_tell 142 = .ok (.invokevirtual 68, 3) := by decide +kernel
theorem dX2_tell_145 : decode cX2_tell 145 = .ok (.iload_n 2, 1) := by decide +kernel
theorem dX2_tell_146 : decode cX2_tell 146 = .ok (.aload_n 1, 1) := by decide +kernel
theorem dX2_tell_147 : decode cX2_tell 147 = .ok (.getfield 133, 3) := by decide +kernel
theorem dX2_tell_150 : decode cX2_tell 150 = .ok (.isub, 1) := by decide +kernel
theorem dX2_tell_151 : decode cX2_tell 151 = .ok (.iload_n 3, 1) := by decide +kernel
theorem dX2_tell_152 : decode cX2_tell 152 = .ok (.aload_n 1, 1) := by decide +kernel
theorem dX2_tell_153 : decode cX2_tell 153 = .ok (.getfield 136, 3) := by decide +kernel
theorem dX2_tell_156 : decode cX2_tell 156 = .ok (.isub, 1) := by decide +kernel
theorem dX2_tell_157 : decode cX2_tell 157 = .ok (.invokevirtual 114, 3) := by decide +kernel
theorem dX2_tell_160 : decode cX2_tell 160 = .ok (.ireturn, 1) := by decide +kernel
theorem dX2_tell_161 : decode cX2_tell 161 = .ok (.aload_n 0, 1) := by decide +kernel
theorem dX2_tell_162 : decode cX2_tell 162 = .ok (.aload_n 1, 1) := by decide +kernel
theorem dX2_tell_163 : decode cX2_tell 163 = .ok (.iload_n 2, 1) := by decide +kernel
theorem dX2_tell_164 : decode cX2_tell 164 = .ok (.iload_n 3, 1) := by decide +kernel
theorem dX2_tell_165 : decode cX2_tell 165 = .ok (.invokevirtual 139, 3) := by decide +kernel
theorem dX2_tell_168 : decode cX2_tell 168 = .ok (.ireturn, 1) := by decide +kernel
theorem dX2_tell_169 : decode cX2_tell 169 = .ok (.aload_n 0, 1) := by decide +kernel
theorem dX2_tell_170 : decode cX2_tell 170 = .ok (.aload_n 1, 1) := by decide +kernel
theorem dX2_tell_171 : decode cX2_tell 171 = .ok (.iload_n 2, 1) := by decide +kernel
theorem dX2_tell_172 : decode cX2_tell 172 = .ok (.iload_n 3, 1) := by decide +kernel
theorem dX2_tell_173 : decode cX2_tell 173 = .ok (.invokevirtual 142, 3) := by decide +kernel
theorem dX2_tell_176 : decode cX2_tell 176 = .ok (.ireturn, 1) := by decide +kernel
theorem dX2_tell_177 : decode cX2_tell 177 = .ok (.aload_n 0, 1) := by decide +kernel
theorem dX2_tell_178 : decode cX2_tell 178 = .ok (.aload_n 1, 1) := by decide +kernel
theorem dX2_tell_179 : decode cX2_tell 179 = .ok (.iload_n 2, 1) := by decide +kernel
theorem dX2_tell_180 : decode cX2_tell 180 = .ok (.iload_n 3, 1) := by decide +kernel
theorem dX2_tell_181 : decode cX2_tell 181 = .ok (.invokevirtual 145, 3) := by decide +kernel
theorem dX2_tell_184 : decode cX2_tell 184 = .ok (.ireturn, 1) := by decide +kernel
theorem dX2_tell_185 : decode cX2_tell 185 = .ok (.aload_n 0, 1) := by decide +kernel
theorem dX2_tell_186 : decode cX2_tell 186 = .ok (.aload_n 1, 1) := by decide +kernel
theorem dX2_tell_187 : decode cX2_tell 187 = .ok (.iload_n 2, 1) := by decide +kernel
theorem dX2_tell_188 : decode cX2_tell 188 = .ok (.iload_n 3, 1) := by decide +kernel
theorem dX2_tell_189 : decode cX2_tell 189 = .ok (.invokevirtual 148, 3) := by decide +kernel
theorem dX2_tell_192 : decode cX2_tell 192 = .ok (.ireturn, 1) := by decide +kernel
theorem dX2_tell_193 : decode cX2_tell 193 = .ok (.aload_n 0, 1) := by decide +kernel
theorem dX2_tell_194 : decode cX2_tell 194 = .ok (.aload_n 0, 1) := by decide +kernel
theorem dX2_tell_195 : decode cX2_tell 195 = .ok (.aload_n 1, 1) := by decide +kernel
theorem dX2_tell_196 : decode cX2_tell 196 = .ok (.getfield 123, 3) := by decide +kernel
theorem dX2_tell_199 : decode cX2_tell 199 = .ok (.invokevirtual 58, 3) := by decide +kernel
theorem dX2_tell_202 : decode cX2_tell 202 = .ok (.iload_n 2, 1) := by decide +kernel
theorem dX2_tell_203 : decode cX2_tell 203 = .ok (.iload_n 3, 1) := by decide +kernel
theorem dX2_tell_204 : decode cX2_tell 204 = .ok (.invokevirtual 114, 3) := by decide +kernel
theorem dX2_tell_207 : decode cX2_tell 207 = .ok (.aload_n 1, 1) := by decide +kernel
theorem dX2_tell_208 : decode cX2_tell 208 = .ok (.getfield 133, 3) := by decide +kernel
theorem dX2_tell_211 : decode cX2_tell 211 = .ok (.iadd, 1) := by decide +kernel
theorem dX2_tell_212 : decode cX2_tell 212 = .ok (.ireturn, 1) := by decide +kernel
theorem dX2_tell_213 : decode cX2_tell 213 = .ok (.aload_n 0, 1) := by decide +kernel
theorem dX2_tell_214 : decode cX2_tell 214 = .ok (.aload_n 1, 1) := by decide +kernel
theorem dX2_tell_215 : decode cX2_tell 215 = .ok (.iload_n 2, 1) := by decide +kernel
theorem dX2_tell_216 : decode cX2_tell 216 = .ok (.iload_n 3, 1) := by decide +kernel
theorem dX2_tell_217 : decode cX2_tell 217 = .ok (.invokevirtual 151, 3) := by decide +kernel
theorem dX2_tell_220 : decode cX2_tell 220 = .ok (.ireturn, 1) := by decide +kernel
theorem dX2_tell_221 : decode cX2_tell 221 = .ok (.aload_n 0, 1) := by decide +kernel
theorem dX2_tell_222 : decode cX2_tell 222 = .ok (.aload_n 1, 1) := by decide +kernel
theorem dX2_tell_223 : decode cX2_tell 223 = .ok (.iload_n 2, 1) := by decide +kernel
theorem dX2_tell_224 : decode cX2_tell 224 = .ok (.iload_n 3, 1) := by decide +kernel
theorem dX2_tell_225 : decode cX2_tell 225 = .ok (.invokevirtual 154, 3) := by decide +kernel
theorem dX2_tell_228 : decode cX2_tell 228 = .ok (.ireturn, 1) := by decide +kernel
theorem dX2_tell_229 : decode cX2_tell 229 = .ok (.aload_n 0, 1) := by decide +kernel
theorem dX2_tell_230 : decode cX2_tell 230 = .ok (.aload_n 1, 1) := by decide +kernel
theorem dX2_tell_231 : decode cX2_tell 231 = .ok (.iload_n 2, 1) := by decide +kernel
theorem dX2_tell_232 : decode cX2_tell 232 = .ok (.iload_n 3, 1) := by decide +kernel
theorem dX2_tell_233 : decode cX2_tell 233 = .ok (.invokevirtual 157, 3) := by decide +kernel
theorem dX2_tell_236 : decode cX2_tell 236 = .ok (.ireturn, 1) := by decide +kernel
theorem dX2_tell_237 : decode cX2_tell 237 = .ok (.aload_n 0, 1) := by decide +kernel
theorem dX2_tell_238 : decode cX2_tell 238 = .ok (.aload_n 1, 1) := by decide +kernel
theorem dX2_tell_239 : decode cX2_tell 239 = .ok (.getfield 160, 3) := by decide +kernel
theorem dX2_tell_242 : decode cX2_tell 242 = .ok (.iload_n 2, 1) := by decide +kernel
theorem dX2_tell_243 : decode cX2_tell 243 = .ok (.iload_n 3, 1) := by decide +kernel
theorem dX2_tell_244 : decode cX2_tell 244 = .ok (.invokevirtual 114, 3) := by decide +kernel
theorem dX2_tell_247 : decode cX2_tell 247 = .ok (.ireturn, 1) := by decide +kernel
theorem dX2_tell_248 : decode cX2_tell 248 = .ok (.iload_n 2, 1) := by decide +kernel
theorem dX2_tell_249 : decode cX2_tell 249 = .ok (.iload_n 3, 1) := by decide +kernel
theorem dX2_tell_250 : decode cX2_tell 250 = .ok (.iadd, 1) := by decide +kernel
theorem dX2_tell_251 : decode cX2_tell 251 = .ok (.iconst 2, 1) := by decide +kernel
theorem dX2_tell_252 : decode cX2_tell 252 = .ok (.irem, 1) := by decide +kernel
theorem dX2_tell_253 : decode cX2_tell 253 = .ok (.ireturn, 1) := by decide +kernel
theorem dX2_tell_254 : decode cX2_tell 254 = .ok (.aload_n 0, 1) := by decide +kernel
theorem dX2_tell_255 : decode cX2_tell 255 = .ok (.aload_n 0, 1) := by decide +kernel
theorem dX2_tell_256 : decode cX2_tell 256 = .ok (.aload_n 1, 1) := by decide +kernel
theorem dX2_tell_257 : decode cX2_tell 257 = .ok (.invokevirtual 164, 3) := by decide +kernel
theorem dX2_tell_260 : decode cX2_tell 260 = .ok (.iload_n 2, 1) := by decide +kernel
theorem dX2_tell_261 : decode cX2_tell 261 = .ok (.invokevirtual 168, 3) := by decide +kernel
theorem dX2_tell_264 : decode cX2_tell 264 = .ok (.iload_n 3, 1) := by decide +kernel
theorem dX2_tell_265 : decode cX2_tell 265 = .ok (.iadd, 1) := by decide +kernel
theorem dX2_tell_266 : decode cX2_tell 266 = .ok (.ireturn, 1) := by decide +kernel
theorem dX2_tell_267 : decode cX2_tell 267 = .ok (.iconst 0, 1) := by decide +kernel
theorem dX2_tell_268 : decode cX2_tell 268 = .ok (.ireturn, 1) := by decide +kernel
theorem dX2_tellStripes_0 : decode cX2_tellStripes 0 = .ok (.aload_n 1, 1) := by decide +kernel
theorem dX2_tellStripes_1 : decode cX2_tellStripes 1 = .ok (.getfield 136, 3) := by decide +kernel
theorem dX2_tellStripes_4 : decode cX2_tellStripes 4 = .ok (.ifCond .ne 9, 3) := by decide +kernel
theorem dX2_tellStripes_7 : decode cX2_tellStripes 7 = .ok (.aload_n 0, 1) := by decide +kernel
theorem dX2_tellStripes_8 : decode cX2_tellStripes 8 = .ok (.iconst 1, 1) := by decide +kernel
theorem dX2_tellStripes_9 : decode cX2_tellStripes 9 = .ok (.invokevirtual 117, 3) := by decide +kernel
theorem dX2_tellStripes_12 : decode cX2_tellStripes 12 = .ok (.ireturn, 1) := by decide +kernel
theorem dX2_tellStripes_13 : decode cX2_tellStripes 13 = .ok (.iload_n 2, 1) := by decide +kernel
theorem dX2_tellStripes_14 : decode cX2_tellStripes 14 = .ok (.aload_n 1, 1) := by decide +kernel
theorem dX2_tellStripes_15 : decode cX2_tellStripes 15 = .ok (.getfield 136, 3) := by decide +kernel
theorem dX2_tellStripes_18 : decode cX2_tellStripes 18 = .ok (.idiv, 1) := by decide +kernel
theorem dX2_tellStripes_19 : decode cX2_tellStripes 19 = .ok (.iconst 2, 1) := by decide +kernel
theorem dX2_tellStripes_20 : decode cX2_tellStripes 20 = .ok (.irem, 1) := by decide +kernel
theorem dX2_tellStripes_21 : decode cX2_tellStripes 21 = .ok (.ifCond .ne 10, 3) := by decide +kernel
theorem dX2_tellStripes_24 : decode cX2_tellStripes 24 = .ok (.aload_n 1, 1) := by decide +kernel
theorem dX2_tellStripes_25 : decode cX2_tellStripes 25 = .ok (.getfield 123, 3) := by decide +kernel
theorem dX2_tellStripes_28 : decode cX2_tellStripes 28 = .ok (.goto 7, 3) := by decide +kernel
theorem dX2_tellStripes_31 : decode cX2_tellStripes 31 = .ok (.aload_n 1, 1) := by decide +kernel
theorem dX2_tellStripes_32 : decode cX2_tellStripes 32 = .ok (.getfield 133, 3) := by decide +kernel
theorem dX2_tellStripes_35 : decode cX2_tellStripes 35 = .ok (.ireturn, 1) := by decide +kernel
theorem dX2_tellTwill_0 : decode cX2_tellTwill 0 = .ok (.aload_n 1, 1) := by decide +kernel
theorem dX2_tellTwill_1 : decode cX2_tellTwill 1 = .ok (.getfield 133, 3) := by decide +kernel
theorem dX2_tellTwill_4 : decode cX2_tellTwill 4 = .ok (.ifCond .ne 9, 3) := by decide +kernel
theorem dX2_tellTwill_7 : decode cX2_tellTwill 7 = .ok (.aload_n 0, 1) := by decide +kernel
theorem dX2_tellTwill_8 : decode cX2_tellTwill 8 = .ok (.iconst 1, 1) := by decide +kernel
theorem dX2_tellTwill_9 : decode cX2_tellTwill 9 = .ok (.invokevirtual 117, 3) := by decide +kernel
theorem dX2_tellTwill_12 : decode cX2_tellTwill 12 = .ok (.ireturn, 1) := by decide +kernel
theorem dX2_tellTwill_13 : decode cX2_tellTwill 13 = .ok (.iload_n 2, 1) := by decide +kernel
theorem dX2_tellTwill_14 : decode cX2_tellTwill 14 = .ok (.aload_n 1, 1) := by decide +kernel
theorem dX2_tellTwill_15 : decode cX2_tellTwill 15 = .ok (.getfield 123, 3) := by decide +kernel
theorem dX2_tellTwill_18 : decode cX2_tellTwill 18 = .ok (.iload_n 3, 1) := by decide +kernel
theorem dX2_tellTwill_19 : decode cX2_tellTwill 19 = .ok (.imul, 1) := by decide +kernel
theorem dX2_tellTwill_20 : decode cX2_tellTwill 20 = .ok (.iadd, 1) := by decide +kernel
theorem dX2_tellTwill_21 : decode cX2_tellTwill 21 = .ok (.aload_n 1, 1) := by decide +kernel
theorem dX2_tellTwill_22 : decode cX2_tellTwill 22 = .ok (.getfield 133, 3) := by decide +kernel
theorem dX2_tellTwill_25 : decode cX2_tellTwill 25 = .ok (.irem, 1) := by decide +kernel
theorem dX2_tellTwill_26 : decode cX2_tellTwill 26 = .ok (.aload_n 1, 1) := by decide +kernel
theorem dX2_tellTwill_27 : decode cX2_tellTwill 27 = .ok (.getfield 136, 3) := by decide +kernel
theorem dX2_tellTwill_30 : decode cX2_tellTwill 30 = .ok (.iadd, 1) := by decide +kernel
theorem dX2_tellTwill_31 : decode cX2_tellTwill 31 = .ok (.ireturn, 1) := by decide +kernel
theorem dX2_tellTurned_0 : decode cX2_tellTurned 0 = .ok (.aload_n 0, 1) := by decide +kernel
theorem dX2_tellTurned_1 : decode cX2_tellTurned 1 = .ok (.aload_n 1, 1) := by decide +kernel
theorem dX2_tellTurned_2 : decode cX2_tellTurned 2 = .ok (.getfield 123, 3) := by decide +kernel
theorem dX2_tellTurned_5 : decode cX2_tellTurned 5 = .ok (.invokevirtual 68, 3) := by decide +kernel
theorem dX2_tellTurned_8 : decode cX2_tellTurned 8 = .ok (.astore 4, 2) := by decide +kernel
theorem dX2_tellTurned_10 : decode cX2_tellTurned 10 = .ok (.aload_n 1, 1) := by decide +kernel
theorem dX2_tellTurned_11 : decode cX2_tellTurned 11 = .ok (.getfield 133, 3) := by decide +kernel
theorem dX2_tellTurned_14 : decode cX2_tellTurned 14 = .ok (.tableswitch 55 0 2 #[26, 35, 45], 26) := by decide +kernel
theorem dX2_tellTurned_40 : decode cX2_tellTurned 40 = .ok (.aload_n 0, 1) := by decide +kernel
theorem dX2_tellTurned_41 : decode cX2_tellTurned 41 = .ok (.aload 4, 2) := by decide +kernel
theorem dX2_tellTurned_43 : decode cX2_tellTurned 43 = .ok (.iload_n 3, 1) := by decide +kernel
theorem dX2_tellTurned_44 : decode cX2_tellTurned 44 = .ok (.iload_n 2, 1) := by decide +kernel
theorem dX2_tellTurned_45 : decode cX2_tellTurned 45 = .ok (.invokevirtual 114, 3) := by decide +kernel
theorem dX2_tellTurned_48 : decode cX2_tellTurned 48 = .ok (.ireturn, 1) := by decide +kernel
theorem dX2_tellTurned_49 : decode cX2_tellTurned 49 = .ok (.aload_n 0, 1) := by decide +kernel
theorem dX2_tellTurned_50 : decode cX2_tellTurned 50 = .ok (.aload 4, 2) := by decide +kernel
theorem dX2_tellTurned_52 : decode cX2_tellTurned 52 = .ok (.iload_n 2, 1) := by decide +kernel
theorem dX2_tellTurned_53 : decode cX2_tellTurned 53 = .ok (.ineg, 1) := by decide +kernel
theorem dX2_tellTurned_54 : decode cX2_tellTurned 54 = .ok (.iload_n 3, 1) := by decide +kernel
theorem dX2_tellTurned_55 : decode cX2_tellTurned 55 = .ok (.invokevirtual 114, 3) := by decide +kernel
theorem dX2_tellTurned_58 : decode cX2_tellTurned 58 = .ok (.ireturn, 1) := by decide +kernel
theorem dX2_tellTurned_59 : decode cX2_tellTurned 59 = .ok (.aload_n 0, 1) := by decide +kernel
theorem dX2_tellTurned_60 : decode cX2_tellTurned 60 = .ok (.aload 4, 2) := by decide +kernel
theorem dX2_tellTurned_62 : decode cX2_tellTurned 62 = .ok (.iload_n 2, 1) := by decide +kernel
theorem dX2_tellTurned_63 : decode cX2_tellTurned 63 = .ok (.iload_n 3, 1) := by decide +kernel
theorem dX2_tellTurned_64 : decode cX2_tellTurned 64 = .ok (.ineg, 1) := by decide +kernel
theorem dX2_tellTurned_65 : decode cX2_tellTurned 65 = .ok (.invokevirtual 114, 3) := by decide +kernel
theorem dX2_tellTurned_68 : decode cX2_tellTurned 68 = .ok (.ireturn, 1) := by decide +kernel
theorem dX2_tellTurned_69 : decode cX2_tellTurned 69 = .ok (.aload_n 0, 1) := by decide +kernel
theorem dX2_tellTurned_70 : decode cX2_tellTurned 70 = .ok (.aload 4, 2) := by decide +kernel
theorem dX2_tellTurned_72 : decode cX2_tellTurned 72 = .ok (.iload_n 2, 1) := by decide +kernel
theorem dX2_tellTurned_73 : decode cX2_tellTurned 73 = .ok (.iload_n 3, 1) := by decide +kernel
theorem dX2_tellTurned_74 : decode cX2_tellTurned 74 = .ok (.imul, 1) := by decide +kernel
theorem dX2_tellTurned_75 : decode cX2_tellTurned 75 = .ok (.iload_n 2, 1) := by decide +kernel
theorem dX2_tellTurned_76 : decode cX2_tellTurned 76 = .ok (.iload_n 3, 1) := by decide +kernel
theorem dX2_tellTurned_77 : decode cX2_tellTurned 77 = .ok (.iadd, 1) := by decide +kernel
theorem dX2_tellTurned_78 : decode cX2_tellTurned 78 = .ok (.invokevirtual 114, 3) := by decide +kernel
theorem dX2_tellTurned_81 : decode cX2_tellTurned 81 = .ok (.ireturn, 1) := by decide +kernel
theorem dX2_tellOver_0 : decode cX2_tellOver 0 = .ok (.aload_n 0, 1) := by decide +kernel
theorem dX2_tellOver_1 : decode cX2_tellOver 1 = .ok (.aload_n 0, 1) := by decide +kernel
theorem dX2_tellOver_2 : decode cX2_tellOver 2 = .ok (.aload_n 1, 1) := by decide +kernel
theorem dX2_tellOver_3 : decode cX2_tellOver 3 = .ok (.getfield 123, 3) := by decide +kernel
theorem dX2_tellOver_6 : decode cX2_tellOver 6 = .ok (.invokevirtual 68, 3) := by decide +kernel
theorem dX2_tellOver_9 : decode cX2_tellOver 9 = .ok (.iload_n 2, 1) := by decide +kernel
theorem dX2_tellOver_10 : decode cX2_tellOver 10 = .ok (.iload_n 3, 1) := by decide +kernel
theorem dX2_tellOver_11 : decode cX2_tellOver 11 = .ok (.invokevirtual 114, 3) := by decide +kernel
theorem dX2_tellOver_14 : decode cX2_tellOver 14 = .ok (.istore 4, 2) := by decide +kernel
theorem dX2_tellOver_16 : decode cX2_tellOver 16 = .ok (.aload_n 0, 1) := by decide +kernel
theorem dX2_tellOver_17 : decode cX2_tellOver 17 = .ok (.getfield 78, 3) := by decide +kernel
theorem dX2_tellOver_20 : decode cX2_tellOver 20 = .ok (.ifCond .ne 8, 3) := by decide +kernel
theorem dX2_tellOver_23 : decode cX2_tellOver 23 = .ok (.iload 4, 2) := by decide +kernel
theorem dX2_tellOver_25 : decode cX2_tellOver 25 = .ok (.ifCond .eq 6, 3) := by decide +kernel
theorem dX2_tellOver_28 : decode cX2_tellOver 28 = .ok (.iload 4, 2) := by decide +kernel
theorem dX2_tellOver_30 : decode cX2_tellOver 30 = .ok (.ireturn, 1) := by decide +kernel
theorem dX2_tellOver_31 : decode cX2_tellOver 31 = .ok (.aload_n 0, 1) := by decide +kernel
theorem dX2_tellOver_32 : decode cX2_tellOver 32 = .ok (.aload_n 0, 1) := by decide +kernel
theorem dX2_tellOver_33 : decode cX2_tellOver 33 = .ok (.aload_n 1, 1) := by decide +kernel
theorem dX2_tellOver_34 : decode cX2_tellOver 34 = .ok (.getfield 133, 3) := by decide +kernel
theorem dX2_tellOver_37 : decode cX2_tellOver 37 = .ok (.invokevirtual 68, 3) := by decide +kernel
theorem dX2_tellOver_40 : decode cX2_tellOver 40 = .ok (.iload_n 2, 1) := by decide +kernel
theorem dX2_tellOver_41 : decode cX2_tellOver 41 = .ok (.iload_n 3, 1) := by decide +kernel
theorem dX2_tellOver_42 : decode cX2_tellOver 42 = .ok (.invokevirtual 114, 3) := by decide +kernel
theorem dX2_tellOver_45 : decode cX2_tellOver 45 = .ok (.ireturn, 1) := by decide +kernel
theorem dX2_tellWhere_0 : decode cX2_tellWhere 0 = .ok (.aload_n 0, 1) := by decide +kernel
theorem dX2_tellWhere_1 : decode cX2_tellWhere 1 = .ok (.aload_n 0, 1) := by decide +kernel
theorem dX2_tellWhere_2 : decode cX2_tellWhere 2 = .ok (.aload_n 1, 1) := by decide +kernel
theorem dX2_tellWhere_3 : decode cX2_tellWhere 3 = .ok (.getfield 123, 3) := by decide +kernel
theorem dX2_tellWhere_6 : decode cX2_tellWhere 6 = .ok (.invokevirtual 68, 3) := by decide +kernel
theorem dX2_tellWhere_9 : decode cX2_tellWhere 9 = .ok (.iload_n 2, 1) := by decide +kernel
theorem dX2_tellWhere_10 : decode cX2_tellWhere 10 = .ok (.iload_n 3, 1) := by decide +kernel
theorem dX2_tellWhere_11 : decode cX2_tellWhere 11 = .ok (.invokevirtual 114, 3) := by decide +kernel
theorem dX2_tellWhere_14 : decode cX2_tellWhere 14 = .ok (.istore 4, 2) := by decide +kernel
theorem dX2_tellWhere_16 : decode cX2_tellWhere 16 = .ok (.aload_n 0, 1) := by decide +kernel
theorem dX2_tellWhere_17 : decode cX2_tellWhere 17 = .ok (.getfield 78, 3) := by decide +kernel
theorem dX2_tellWhere_20 : decode cX2_tellWhere 20 = .ok (.ifCond .eq 5, 3) := by decide +kernel
theorem dX2_tellWhere_23 : decode cX2_tellWhere 23 = .ok (.iconst 0, 1) := by decide +kernel
theorem dX2_tellWhere_24 : decode cX2_tellWhere 24 = .ok (.ireturn, 1) := by decide +kernel
theorem dX2_tellWhere_25 : decode cX2_tellWhere 25 = .ok (.aload_n 0, 1) := by decide +kernel
theorem dX2_tellWhere_26 : decode cX2_tellWhere 26 = .ok (.aload_n 0, 1) := by decide +kernel
theorem dX2_tellWhere_27 : decode cX2_tellWhere 27 = .ok (.iload 4, 2) := by decide +kernel
theorem dX2_tellWhere_29 : decode cX2_tellWhere 29 = .ok (.ifCond .le 10, 3) := by decide +kernel
theorem dX2_tellWhere_32 : decode cX2_tellWhere 32 = .ok (.aload_n 1, 1) := by decide +kernel
theorem dX2_tellWhere_33 : decode cX2_tellWhere 33 = .ok (.getfield 133, 3) := by decide +kernel
theorem dX2_tellWhere_36 : decode cX2_tellWhere 36 = .ok (.goto 7, 3) := by decide +kernel
theorem dX2_tellWhere_39 : decode cX2_tellWhere 39 = .ok (.aload_n 1, 1) := by decide +kernel
theorem dX2_tellWhere_40 : decode cX2_tellWhere 40 = .ok (.getfield 136, 3) := by decide +kernel
theorem dX2_tellWhere_43 : decode cX2_tellWhere 43 = .ok (.invokevirtual 68, 3) := by decide +kernel
theorem dX2_tellWhere_46 : decode cX2_tellWhere 46 = .ok (.iload_n 2, 1) := by decide +kernel
theorem dX2_tellWhere_47 : decode cX2_tellWhere 47 = .ok (.iload_n 3, 1) := by decide +kernel
theorem dX2_tellWhere_48 : decode cX2_tellWhere 48 = .ok (.invokevirtual 114, 3) := by decide +kernel
theorem dX2_tellWhere_51 : decode cX2_tellWhere 51 = .ok (.ireturn, 1) := by decide +kernel
theorem dX2_tellDyed_0 : decode cX2_tellDyed 0 = .ok (.aload_n 0, 1) := by decide +kernel
theorem dX2_tellDyed_1 : decode cX2_tellDyed 1 = .ok (.aload_n 0, 1) := by decide +kernel
theorem dX2_tellDyed_2 : decode cX2_tellDyed 2 = .ok (.aload_n 1, 1) := by decide +kernel
theorem dX2_tellDyed_3 : decode cX2_tellDyed 3 = .ok (.getfield 123, 3) := by decide +kernel
theorem dX2_tellDyed_6 : decode cX2_tellDyed 6 = .ok (.invokevirtual 68, 3) := by decide +kernel
theorem dX2_tellDyed_9 : decode cX2_tellDyed 9 = .ok (.iload_n 2, 1) := by decide +kernel
theorem dX2_tellDyed_10 : decode cX2_tellDyed 10 = .ok (.iload_n 3, 1) := by decide +kernel
theorem dX2_tellDyed_11 : decode cX2_tellDyed 11 = .ok (.invokevirtual 114, 3) := by decide +kernel
theorem dX2_tellDyed_14 : decode cX2_tellDyed 14 = .ok (.istore 4, 2) := by decide +kernel
theorem dX2_tellDyed_16 : decode cX2_tellDyed 16 = .ok (.aload_n 0, 1) := by decide +kernel
theorem dX2_tellDyed_17 : decode cX2_tellDyed 17 = .ok (.getfield 78, 3) := by decide +kernel
theorem dX2_tellDyed_20 : decode cX2_tellDyed 20 = .ok (.ifCond .eq 5, 3) := by decide +kernel
theorem dX2_tellDyed_23 : decode cX2_tellDyed 23 = .ok (.iconst 0, 1) := by decide +kernel
theorem dX2_tellDyed_24 : decode cX2_tellDyed 24 = .ok (.ireturn, 1) := by decide +kernel
theorem dX2_tellDyed_25 : decode cX2_tellDyed 25 = .ok (.aload_n 0, 1) := by decide +kernel
theorem dX2_tellDyed_26 : decode cX2_tellDyed 26 = .ok (.aload_n 0, 1) := by decide +kernel
theorem dX2_tellDyed_27 : decode cX2_tellDyed 27 = .ok (.aload_n 1, 1) := by decide +kernel
theorem dX2_tellDyed_28 : decode cX2_tellDyed 28 = .ok (.invokevirtual 164, 3) := by decide +kernel
theorem dX2_tellDyed_31 : decode cX2_tellDyed 31 = .ok (.iload 4, 2) := by decide +kernel
theorem dX2_tellDyed_33 : decode cX2_tellDyed 33 = .ok (.invokevirtual 168, 3) := by decide +kernel
theorem dX2_tellDyed_36 : decode cX2_tellDyed 36 = .ok (.ireturn, 1) := by decide +kernel
theorem dX2_rowOf_0 : decode cX2_rowOf 0 = .ok (.aload_n 1, 1) := by decide +kernel
theorem dX2_rowOf_1 : decode cX2_rowOf 1 = .ok (.getfield 120, 3) := by decide +kernel
theorem dX2_rowOf_4 : decode cX2_rowOf 4 = .ok (.bipush 8, 2) := by decide +kernel
theorem dX2_rowOf_6 : decode cX2_rowOf 6 = .ok (.if_icmp .ne 8, 3) := by decide +kernel
theorem dX2_rowOf_9 : decode cX2_rowOf 9 = .ok (.aload_n 1, 1) := by decide +kernel
theorem dX2_rowOf_10 : decode cX2_rowOf 10 = .ok (.getfield 172, 3) := by decide +kernel
theorem dX2_rowOf_13 : decode cX2_rowOf 13 = .ok (.areturn, 1) := by decide +kernel
theorem dX2_rowOf_14 : decode cX2_rowOf 14 = .ok (.aload_n 1, 1) := by decide +kernel
theorem dX2_rowOf_15 : decode cX2_rowOf 15 = .ok (.getfield 133, 3) := by decide +kernel
theorem dX2_rowOf_18 : decode cX2_rowOf 18 = .ok (.invokestatic 33, 3) := by decide +kernel
theorem dX2_rowOf_21 : decode cX2_rowOf 21 = .ok (.ifCond .eq 15, 3) := by decide +kernel
theorem dX2_rowOf_24 : decode cX2_rowOf 24 = .ok (.aload_n 0, 1) := by decide +kernel
theorem dX2_rowOf_25 : decode cX2_rowOf 25 = .ok (.getfield 11, 3) := by decide +kernel
theorem dX2_rowOf_28 : decode cX2_rowOf 28 = .ok (.aload_n 1, 1) := by decide +kernel
theorem dX2_rowOf_29 : decode cX2_rowOf 29 = .ok (.getfield 133, 3) := by decide +kernel
theorem dX2_rowOf_32 : decode cX2_rowOf 32 = .ok (.aaload, 1) := by decide +kernel
theorem dX2_rowOf_33 : decode cX2_rowOf 33 = .ok (.goto 4, 3) := by decide +kernel
theorem dX2_rowOf_36 : decode cX2_rowOf 36 = .ok (.aconst_null, 1) := by decide +kernel
theorem dX2_rowOf_37 : decode cX2_rowOf 37 = .ok (.areturn, 1) := by decide +kernel
theorem dX2_colourOf_0 : decode cX2_colourOf 0 = .ok (.aload_n 1, 1) := by decide +kernel
theorem dX2_colourOf_1 : decode cX2_colourOf 1 = .ok (.ifnull 13, 3) := by decide +kernel
theorem dX2_colourOf_4 : decode cX2_colourOf 4 = .ok (.iload_n 2, 1) := by decide +kernel
theorem dX2_colourOf_5 : decode cX2_colourOf 5 = .ok (.ifCond .lt 9, 3) := by decide +kernel
theorem dX2_colourOf_8 : decode cX2_colourOf 8 = .ok (.iload_n 2, 1) := by decide +kernel
theorem dX2_colourOf_9 : decode cX2_colourOf 9 = .ok (.aload_n 1, 1) := by decide +kernel
theorem dX2_colourOf_10 : decode cX2_colourOf 10 = .ok (.arraylength, 1) := by decide +kernel
theorem dX2_colourOf_11 : decode cX2_colourOf 11 = .ok (.if_icmp .lt 9, 3) := by decide +kernel
theorem dX2_colourOf_14 : decode cX2_colourOf 14 = .ok (.aload_n 0, 1) := by decide +kernel
theorem dX2_colourOf_15 : decode cX2_colourOf 15 = .ok (.iconst 2, 1) := by decide +kernel
theorem dX2_colourOf_16 : decode cX2_colourOf 16 = .ok (.invokevirtual 117, 3) := by decide +kernel
theorem dX2_colourOf_19 : decode cX2_colourOf 19 = .ok (.ireturn, 1) := by decide +kernel
theorem dX2_colourOf_20 : decode cX2_colourOf 20 = .ok (.aload_n 1, 1) := by decide +kernel
theorem dX2_colourOf_21 : decode cX2_colourOf 21 = .ok (.iload_n 2, 1) := by decide +kernel
theorem dX2_colourOf_22 : decode cX2_colourOf 22 = .ok (.iaload, 1) := by decide +kernel
theorem dX2_colourOf_23 : decode cX2_colourOf 23 = .ok (.ireturn, 1) := by decide +kernel
theorem dX2_tellWorn_0 : decode cX2_tellWorn 0 = .ok (.aload_n 1, 1) := by decide +kernel
theorem dX2_tellWorn_1 : decode cX2_tellWorn 1 = .ok (.dup, 1) := by decide +kernel
theorem dX2_tellWorn_2 : decode cX2_tellWorn 2 = .ok (.getfield 175, 3) := by decide +kernel
theorem dX2_tellWorn_5 : decode cX2_tellWorn 5 = .ok (.iconst 1, 1) := by decide +kernel
theorem dX2_tellWorn_6 : decode cX2_tellWorn 6 = .ok (.iadd, 1) := by decide +kernel
theorem dX2_tellWorn_7 : decode cX2_tellWorn 7 = .ok (.putfield 175, 3) := by decide +kernel
theorem dX2_tellWorn_10 : decode cX2_tellWorn 10 = .ok (.aload_n 1, 1) := by decide +kernel
theorem dX2_tellWorn_11 : decode cX2_tellWorn 11 = .ok (.getfield 175, 3) := by decide +kernel
theorem dX2_tellWorn_14 : decode cX2_tellWorn 14 = .ok (.aload_n 1, 1) := by decide +kernel
theorem dX2_tellWorn_15 : decode cX2_tellWorn 15 = .ok (.getfield 133, 3) := by decide +kernel
theorem dX2_tellWorn_18 : decode cX2_tellWorn 18 = .ok (.if_icmp .ge 18, 3) := by decide +kernel
theorem dX2_tellWorn_21 : decode cX2_tellWorn 21 = .ok (.aload_n 0, 1) := by decide +kernel
theorem dX2_tellWorn_22 : decode cX2_tellWorn 22 = .ok (.aload_n 0, 1) := by decide +kernel
theorem dX2_tellWorn_23 : decode cX2_tellWorn 23 = .ok (.aload_n 1, 1) := by decide +kernel
theorem dX2_tellWorn_24 : decode cX2_tellWorn 24 = .ok (.getfield 123, 3) := by decide +kernel
theorem dX2_tellWorn_27 : decode cX2_tellWorn 27 = .ok (.invokevirtual 68, 3) := by decide +kernel
theorem dX2_tellWorn_30 : decode cX2_tellWorn 30 = .ok (.iload_n 2, 1) := by decide +kernel
theorem dX2_tellWorn_31 : decode cX2_tellWorn 31 = .ok (.iload_n 3, 1) := by decide +kernel
theorem dX2_tellWorn_32 : decode cX2_tellWorn 32 = .ok (.invokevirtual 114, 3) := by decide +kernel
theorem dX2_tellWorn_35 : decode cX2_tellWorn 35 = .ok (.ireturn, 1) := by decide +kernel
theorem dX2_tellWorn_36 : decode cX2_tellWorn 36 = .ok (.aload_n 1, 1) := by decide +kernel
theorem dX2_tellWorn_37 : decode cX2_tellWorn 37 = .ok (.iconst 0, 1) := by decide +kernel
theorem dX2_tellWorn_38 : decode cX2_tellWorn 38 = .ok (.putfield 175, 3) := by decide +kernel
theorem dX2_tellWorn_41 : decode cX2_tellWorn 41 = .ok (.aload_n 0, 1) := by decide +kernel
theorem dX2_tellWorn_42 : decode cX2_tellWorn 42 = .ok (.dup, 1) := by decide +kernel
theorem dX2_tellWorn_43 : decode cX2_tellWorn 43 = .ok (.getfield 111, 3) := by decide +kernel
theorem dX2_tellWorn_46 : decode cX2_tellWorn 46 = .ok (.iconst 1, 1) := by decide +kernel
theorem dX2_tellWorn_47 : decode cX2_tellWorn 47 = .ok (.iadd, 1) := by decide +kernel
theorem dX2_tellWorn_48 : decode cX2_tellWorn 48 = .ok (.putfield 111, 3) := by decide +kernel
theorem dX2_tellWorn_51 : decode cX2_tellWorn 51 = .ok (.aload_n 1, 1) := by decide +kernel
theorem dX2_tellWorn_52 : decode cX2_tellWorn 52 = .ok (.getfield 136, 3) := by decide +kernel
theorem dX2_tellWorn_55 : decode cX2_tellWorn 55 = .ok (.ireturn, 1) := by decide +kernel
theorem dX2_tellBoth_0 : decode cX2_tellBoth 0 = .ok (.aload_n 0, 1) := by decide +kernel
theorem dX2_tellBoth_1 : decode cX2_tellBoth 1 = .ok (.aload_n 0, 1) := by decide +kernel
theorem dX2_tellBoth_2 : decode cX2_tellBoth 2 = .ok (.aload_n 1, 1) := by decide +kernel
theorem dX2_tellBoth_3 : decode cX2_tellBoth 3 = .ok (.getfield 123, 3) := by decide +kernel
theorem dX2_tellBoth_6 : decode cX2_tellBoth 6 = .ok (.invokevirtual 68, 3) := by decide +kernel
theorem dX2_tellBoth_9 : decode cX2_tellBoth 9 = .ok (.iload_n 2, 1) := by decide +kernel
theorem dX2_tellBoth_10 : decode cX2_tellBoth 10 = .ok (.iload_n 3, 1) := by decide +kernel
theorem dX2_tellBoth_11 : decode cX2_tellBoth 11 = .ok (.invokevirtual 114, 3) := by decide +kernel
theorem dX2_tellBoth_14 : decode cX2_tellBoth 14 = .ok (.istore 4, 2) := by decide +kernel
theorem dX2_tellBoth_16 : decode cX2_tellBoth 16 = .ok (.aload_n 0, 1) := by decide +kernel
theorem dX2_tellBoth_17 : decode cX2_tellBoth 17 = .ok (.getfield 78, 3) := by decide +kernel
theorem dX2_tellBoth_20 : decode cX2_tellBoth 20 = .ok (.ifCond .eq 5, 3) := by decide +kernel
theorem dX2_tellBoth_23 : decode cX2_tellBoth 23 = .ok (.iconst 0, 1) := by decide +kernel
theorem dX2_tellBoth_24 : decode cX2_tellBoth 24 = .ok (.ireturn, 1) := by decide +kernel
theorem dX2_tellBoth_25 : decode cX2_tellBoth 25 = .ok (.iload 4, 2) := by decide +kernel
theorem dX2_tellBoth_27 : decode cX2_tellBoth 27 = .ok (.aload_n 1, 1) := by decide +kernel
theorem dX2_tellBoth_28 : decode cX2_tellBoth 28 = .ok (.getfield 136, 3) := by decide +kernel
theorem dX2_tellBoth_31 : decode cX2_tellBoth 31 = .ok (.aload_n 0, 1) := by decide +kernel
theorem dX2_tellBoth_32 : decode cX2_tellBoth 32 = .ok (.aload_n 0, 1) := by decide +kernel
theorem dX2_tellBoth_33 : decode cX2_tellBoth 33 = .ok (.aload_n 1, 1) := by decide +kernel
theorem dX2_tellBoth_34 : decode cX2_tellBoth 34 = .ok (.getfield 133, 3) := by decide +kernel
theorem dX2_tellBoth_37 : decode cX2_tellBoth 37 = .ok (.invokevirtual 68, 3) := by decide +kernel
theorem dX2_tellBoth_40 : decode cX2_tellBoth 40 = .ok (.iload_n 2, 1) := by decide +kernel
theorem dX2_tellBoth_41 : decode cX2_tellBoth 41 = .ok (.iload_n 3, 1) := by decide +kernel
theorem dX2_tellBoth_42 : decode cX2_tellBoth 42 = .ok (.invokevirtual 114, 3) := by decide +kernel
theorem dX2_tellBoth_45 : decode cX2_tellBoth 45 = .ok (.imul, 1) := by decide +kernel
theorem dX2_tellBoth_46 : decode cX2_tellBoth 46 = .ok (.iadd, 1) := by decide +kernel
theorem dX2_tellBoth_47 : decode cX2_tellBoth 47 = .ok (.ireturn, 1) := by decide +kernel
theorem dX2_tellSafe_0 : decode cX2_tellSafe 0 = .ok (.aload_n 0, 1) := by decide +kernel
theorem dX2_tellSafe_1 : decode cX2_tellSafe 1 = .ok (.aload_n 0, 1) := by decide +kernel
theorem dX2_tellSafe_2 : decode cX2_tellSafe 2 = .ok (.aload_n 1, 1) := by decide +kernel
theorem dX2_tellSafe_3 : decode cX2_tellSafe 3 = .ok (.getfield 123, 3) := by decide +kernel
theorem dX2_tellSafe_6 : decode cX2_tellSafe 6 = .ok (.invokevirtual 68, 3) := by decide +kernel
theorem dX2_tellSafe_9 : decode cX2_tellSafe 9 = .ok (.iload_n 2, 1) := by decide +kernel
theorem dX2_tellSafe_10 : decode cX2_tellSafe 10 = .ok (.iload_n 3, 1) := by decide +kernel
theorem dX2_tellSafe_11 : decode cX2_tellSafe 11 = .ok (.invokevirtual 114, 3) := by decide +kernel
theorem dX2_tellSafe_14 : decode cX2_tellSafe 14 = .ok (.istore 4, 2) := by decide +kernel
theorem dX2_tellSafe_16 : decode cX2_tellSafe 16 = .ok (.aload_n 0, 1) := by decide +kernel
theorem dX2_tellSafe_17 : decode cX2_tellSafe 17 = .ok (.getfield 78, 3) := by decide +kernel
theorem dX2_tellSafe_20 : decode cX2_tellSafe 20 = .ok (.ifCond .eq 23, 3) := by decide +kernel
theorem dX2_tellSafe_23 : decode cX2_tellSafe 23 = .ok (.aload_n 0, 1) := by decide +kernel
theorem dX2_tellSafe_24 : decode cX2_tellSafe 24 = .ok (.aload_n 1, 1) := by decide +kernel
theorem dX2_tellSafe_25 : decode cX2_tellSafe 25 = .ok (.getfield 133, 3) := by decide +kernel
theorem dX2_tellSafe_28 : decode cX2_tellSafe 28 = .ok (.invokevirtual 178, 3) := by decide +kernel
theorem dX2_tellSafe_31 : decode cX2_tellSafe 31 = .ok (.ifCond .eq 12, 3) := by decide +kernel
theorem dX2_tellSafe_34 : decode cX2_tellSafe 34 = .ok (.aload_n 0, 1) := by decide +kernel
theorem dX2_tellSafe_35 : decode cX2_tellSafe 35 = .ok (.getfield 71, 3) := by decide +kernel
theorem dX2_tellSafe_38 : decode cX2_tellSafe 38 = .ok (.bipush 20, 2) := by decide +kernel
theorem dX2_tellSafe_40 : decode cX2_tellSafe 40 = .ok (.if_icmp .lt 6, 3) := by decide +kernel
theorem dX2_tellSafe_43 : decode cX2_tellSafe 43 = .ok (.iload 4, 2) := by decide +kernel
theorem dX2_tellSafe_45 : decode cX2_tellSafe 45 = .ok (.ireturn, 1) := by decide +kernel
theorem dX2_tellSafe_46 : decode cX2_tellSafe 46 = .ok (.aload_n 0, 1) := by decide +kernel
theorem dX2_tellSafe_47 : decode cX2_tellSafe 47 = .ok (.dup, 1) := by decide +kernel
theorem dX2_tellSafe_48 : decode cX2_tellSafe 48 = .ok (.getfield 71, 3) := by decide +kernel
theorem dX2_tellSafe_51 : decode cX2_tellSafe 51 = .ok (.iconst 1, 1) := by decide +kernel
theorem dX2_tellSafe_52 : decode cX2_tellSafe 52 = .ok (.iadd, 1) := by decide +kernel
theorem dX2_tellSafe_53 : decode cX2_tellSafe 53 = .ok (.putfield 71, 3) := by decide +kernel
theorem dX2_tellSafe_56 : decode cX2_tellSafe 56 = .ok (.aload_n 0, 1) := by decide +kernel
theorem dX2_tellSafe_57 : decode cX2_tellSafe 57 = .ok (.iconst 0, 1) := by decide +kernel
theorem dX2_tellSafe_58 : decode cX2_tellSafe 58 = .ok (.putfield 78, 3) := by decide +kernel
theorem dX2_tellSafe_61 : decode cX2_tellSafe 61 = .ok (.aload_n 1, 1) := by decide +kernel
theorem dX2_tellSafe_62 : decode cX2_tellSafe 62 = .ok (.getfield 136, 3) := by decide +kernel
theorem dX2_tellSafe_65 : decode cX2_tellSafe 65 = .ok (.ireturn, 1) := by decide +kernel
theorem dX2_saves_0 : decode cX2_saves 0 = .ok (.aload_n 0, 1) := by decide +kernel
theorem dX2_saves_1 : decode cX2_saves 1 = .ok (.getfield 78, 3) := by decide +kernel
theorem dX2_saves_4 : decode cX2_saves 4 = .ok (.iconst 4, 1) := by decide +kernel
theorem dX2_saves_5 : decode cX2_saves 5 = .ok (.if_icmp .eq 19, 3) := by decide +kernel
theorem dX2_saves_8 : decode cX2_saves 8 = .ok (.iload_n 1, 1) := by decide +kernel
theorem dX2_saves_9 : decode cX2_saves 9 = .ok (.ifCond .eq 11, 3) := by decide +kernel
theorem dX2_saves_12 : decode cX2_saves 12 = .ok (.iload_n 1, 1) := by decide +kernel
theorem dX2_saves_13 : decode cX2_saves 13 = .ok (.aload_n 0, 1) := by decide +kernel
theorem dX2_saves_14 : decode cX2_saves 14 = .ok (.getfield 78, 3) := by decide +kernel
theorem dX2_saves_17 : decode cX2_saves 17 = .ok (.if_icmp .ne 7, 3) := by decide +kernel
theorem dX2_saves_20 : decode cX2_saves 20 = .ok (.iconst 1, 1) := by decide +kernel
theorem dX2_saves_21 : decode cX2_saves 21 = .ok (.goto 4, 3) := by decide +kernel
theorem dX2_saves_24 : decode cX2_saves 24 = .ok (.iconst 0, 1) := by decide +kernel
theorem dX2_saves_25 : decode cX2_saves 25 = .ok (.ireturn, 1) := by decide +kernel
