theorem dX0_init_0 : decode cX0_init 0 = .ok (.aload_n 0, 1) := by decide +kernel
theorem dX0_init_1 : decode cX0_init 1 = .ok (.invokespecial 3, 3) := by decide +kernel
theorem dX0_init_4 : decode cX0_init 4 = .ok (.aload_n 0, 1) := by decide +kernel
theorem dX0_init_5 : decode cX0_init 5 = .ok (.aload_n 1, 1) := by decide +kernel
theorem dX0_init_6 : decode cX0_init 6 = .ok (.putfield 9, 3) := by decide +kernel
theorem dX0_init_9 : decode cX0_init 9 = .ok (.aload_n 0, 1) := by decide +kernel
theorem dX0_init_10 : decode cX0_init 10 = .ok (.aload_n 1, 1) := by decide +kernel
theorem dX0_init_11 : decode cX0_init 11 = .ok (.getfield 15, 3) := by decide +kernel
theorem dX0_init_14 : decode cX0_init 14 = .ok (.newarray .int, 2) := by decide +kernel
theorem dX0_init_16 : decode cX0_init 16 = .ok (.putfield 21, 3) := by decide +kernel
theorem dX0_init_19 : decode cX0_init 19 = .ok (.aload_n 0, 1) := by decide +kernel
theorem dX0_init_20 : decode cX0_init 20 = .ok (.aload_n 1, 1) := by decide +kernel
theorem dX0_init_21 : decode cX0_init 21 = .ok (.getfield 15, 3) := by decide +kernel
theorem dX0_init_24 : decode cX0_init 24 = .ok (.newarray .int, 2) := by decide +kernel
theorem dX0_init_26 : decode cX0_init 26 = .ok (.putfield 25, 3) := by decide +kernel
theorem dX0_init_29 : decode cX0_init 29 = .ok (.return_, 1) := by decide +kernel
theorem dX0_reaches_0 : decode cX0_reaches 0 = .ok (.aload_n 0, 1) := by decide +kernel
theorem dX0_reaches_1 : decode cX0_reaches 1 = .ok (.getfield 21, 3) := by decide +kernel
theorem dX0_reaches_4 : decode cX0_reaches 4 = .ok (.iload_n 1, 1) := by decide +kernel
theorem dX0_reaches_5 : decode cX0_reaches 5 = .ok (.iaload, 1) := by decide +kernel
theorem dX0_reaches_6 : decode cX0_reaches 6 = .ok (.ldc 28, 2) := by decide +kernel
theorem dX0_reaches_8 : decode cX0_reaches 8 = .ok (.if_icmp .eq 7, 3) := by decide +kernel
theorem dX0_reaches_11 : decode cX0_reaches 11 = .ok (.iconst 1, 1) := by decide +kernel
theorem dX0_reaches_12 : decode cX0_reaches 12 = .ok (.goto 4, 3) := by decide +kernel
theorem dX0_reaches_15 : decode cX0_reaches 15 = .ok (.iconst 0, 1) := by decide +kernel
theorem dX0_reaches_16 : decode cX0_reaches 16 = .ok (.ireturn, 1) := by decide +kernel
theorem dX0_measureFrom_0 : decode cX0_measureFrom 0 = .ok (.aload_n 0, 1) := by decide +kernel
theorem dX0_measureFrom_1 : decode cX0_measureFrom 1 = .ok (.iload_n 1, 1) := by decide +kernel
theorem dX0_measureFrom_2 : decode cX0_measureFrom 2 = .ok (.invokevirtual 29, 3) := by decide +kernel
theorem dX0_measureFrom_5 : decode cX0_measureFrom 5 = .ok (.aload_n 0, 1) := by decide +kernel
theorem dX0_measureFrom_6 : decode cX0_measureFrom 6 = .ok (.iconst 0, 1) := by decide +kernel
theorem dX0_measureFrom_7 : decode cX0_measureFrom 7 = .ok (.invokevirtual 33, 3) := by decide +kernel
theorem dX0_measureFrom_10 : decode cX0_measureFrom 10 = .ok (.pop, 1) := by decide +kernel
theorem dX0_measureFrom_11 : decode cX0_measureFrom 11 = .ok (.return_, 1) := by decide +kernel
theorem dX0_measureTo_0 : decode cX0_measureTo 0 = .ok (.aload_n 0, 1) := by decide +kernel
theorem dX0_measureTo_1 : decode cX0_measureTo 1 = .ok (.iload_n 1, 1) := by decide +kernel
theorem dX0_measureTo_2 : decode cX0_measureTo 2 = .ok (.invokevirtual 29, 3) := by decide +kernel
theorem dX0_measureTo_5 : decode cX0_measureTo 5 = .ok (.aload_n 0, 1) := by decide +kernel
theorem dX0_measureTo_6 : decode cX0_measureTo 6 = .ok (.iconst 1, 1) := by decide +kernel
theorem dX0_measureTo_7 : decode cX0_measureTo 7 = .ok (.invokevirtual 33, 3) := by decide +kernel
theorem dX0_measureTo_10 : decode cX0_measureTo 10 = .ok (.pop, 1) := by decide +kernel
theorem dX0_measureTo_11 : decode cX0_measureTo 11 = .ok (.return_, 1) := by decide +kernel
theorem dX0_settlesFromEverywhere_0 : decode cX0_settlesFromEverywhere 0 = .ok (.aload_n 0, 1) := by decide +kernel
theorem dX0_settlesFromEverywhere_1 : decode cX0_settlesFromEverywhere 1 = .ok (.getfield 21, 3) := by decide +kernel
theorem dX0_settlesFromEverywhere_4 : decode cX0_settlesFromEverywhere 4 = .ok (.iconst 0, 1) := by decide +kernel
theorem dX0_settlesFromEverywhere_5 : decode cX0_settlesFromEverywhere 5 = .ok (.invokestatic 37, 3) := by decide +kernel
theorem dX0_settlesFromEverywhere_8 : decode cX0_settlesFromEverywhere 8 = .ok (.aload_n 0, 1) := by decide +kernel
theorem dX0_settlesFromEverywhere_9 : decode cX0_settlesFromEverywhere 9 = .ok (.getfield 25, 3) := by decide +kernel
theorem dX0_settlesFromEverywhere_12 : decode cX0_settlesFromEverywhere 12 = .ok (.iconst 0, 1) := by decide +kernel
theorem dX0_settlesFromEverywhere_13 : decode cX0_settlesFromEverywhere 13 = .ok (.invokestatic 37, 3) := by decide +kernel
theorem dX0_settlesFromEverywhere_16 : decode cX0_settlesFromEverywhere 16 = .ok (.aload_n 0, 1) := by decide +kernel
theorem dX0_settlesFromEverywhere_17 : decode cX0_settlesFromEverywhere 17 = .ok (.iconst 0, 1) := by decide +kernel
theorem dX0_settlesFromEverywhere_18 : decode cX0_settlesFromEverywhere 18 = .ok (.invokevirtual 33, 3) := by decide +kernel
theorem dX0_settlesFromEverywhere_21 : decode cX0_settlesFromEverywhere 21 = .ok (.ireturn, 1) := by decide +kernel
theorem dX0_leastArcOnward_0 : decode cX0_leastArcOnward 0 = .ok (.iconst 0, 1) := by decide +kernel
theorem dX0_leastArcOnward_1 : decode cX0_leastArcOnward 1 = .ok (.istore_n 2, 1) := by decide +kernel
theorem dX0_leastArcOnward_2 : decode cX0_leastArcOnward 2 = .ok (.iload_n 2, 1) := by decide +kernel
theorem dX0_leastArcOnward_3 : decode cX0_leastArcOnward 3 = .ok (.aload_n 0, 1) := by decide +kernel
theorem dX0_leastArcOnward_4 : decode cX0_leastArcOnward 4 = .ok (.getfield 9, 3) := by decide +kernel
theorem dX0_leastArcOnward_7 : decode cX0_leastArcOnward 7 = .ok (.invokevirtual 43, 3) := by decide +kernel
theorem dX0_leastArcOnward_10 : decode cX0_leastArcOnward 10 = .ok (.if_icmp .ge 98, 3) := by decide +kernel
theorem dX0_leastArcOnward_13 : decode cX0_leastArcOnward 13 = .ok (.aload_n 0, 1) := by decide +kernel
theorem dX0_leastArcOnward_14 : decode cX0_leastArcOnward 14 = .ok (.getfield 9, 3) := by decide +kernel
theorem dX0_leastArcOnward_17 : decode cX0_leastArcOnward 17 = .ok (.iload_n 2, 1) := by decide +kernel
theorem dX0_leastArcOnward_18 : decode cX0_leastArcOnward 18 = .ok (.invokevirtual 47, 3) := by decide +kernel
theorem dX0_leastArcOnward_21 : decode cX0_leastArcOnward 21 = .ok (.iload_n 1, 1) := by decide +kernel
theorem dX0_leastArcOnward_22 : decode cX0_leastArcOnward 22 = .ok (.if_icmp .ne 80, 3) := by decide +kernel
theorem dX0_leastArcOnward_25 : decode cX0_leastArcOnward 25 = .ok (.aload_n 0, 1) := by decide +kernel
theorem dX0_leastArcOnward_26 : decode cX0_leastArcOnward 26 = .ok (.getfield 9, 3) := by decide +kernel
theorem dX0_leastArcOnward_29 : decode cX0_leastArcOnward 29 = .ok (.iload_n 2, 1) := by decide +kernel
theorem dX0_leastArcOnward_30 : decode cX0_leastArcOnward 30 = .ok (.invokevirtual 51, 3) := by decide +kernel
theorem dX0_leastArcOnward_33 : decode cX0_leastArcOnward 33 = .ok (.ifCond .gt 6, 3) := by decide +kernel
theorem dX0_leastArcOnward_36 : decode cX0_leastArcOnward 36 = .ok (.goto 66, 3) := by decide +kernel
theorem dX0_leastArcOnward_39 : decode cX0_leastArcOnward 39 = .ok (.aload_n 0, 1) := by decide +kernel
theorem dX0_leastArcOnward_40 : decode cX0_leastArcOnward 40 = .ok (.getfield 9, 3) := by decide +kernel
theorem dX0_leastArcOnward_43 : decode cX0_leastArcOnward 43 = .ok (.iload_n 2, 1) := by decide +kernel
theorem dX0_leastArcOnward_44 : decode cX0_leastArcOnward 44 = .ok (.invokevirtual 54, 3) := by decide +kernel
theorem dX0_leastArcOnward_47 : decode cX0_leastArcOnward 47 = .ok (.istore_n 3, 1) := by decide +kernel
theorem dX0_leastArcOnward_48 : decode cX0_leastArcOnward 48 = .ok (.aload_n 0, 1) := by decide +kernel
theorem dX0_leastArcOnward_49 : decode cX0_leastArcOnward 49 = .ok (.iload_n 3, 1) := by decide +kernel
theorem dX0_leastArcOnward_50 : decode cX0_leastArcOnward 50 = .ok (.invokevirtual 57, 3) := by decide +kernel
theorem dX0_leastArcOnward_53 : decode cX0_leastArcOnward 53 = .ok (.ifCond .ne 6, 3) := by decide +kernel
theorem dX0_leastArcOnward_56 : decode cX0_leastArcOnward 56 = .ok (.goto 46, 3) := by decide +kernel
theorem dX0_leastArcOnward_59 : decode cX0_leastArcOnward 59 = .ok (.aload_n 0, 1) := by decide +kernel
theorem dX0_leastArcOnward_60 : decode cX0_leastArcOnward 60 = .ok (.getfield 21, 3) := by decide +kernel
theorem dX0_leastArcOnward_63 : decode cX0_leastArcOnward 63 = .ok (.iload_n 3, 1) := by decide +kernel
theorem dX0_leastArcOnward_64 : decode cX0_leastArcOnward 64 = .ok (.iaload, 1) := by decide +kernel
theorem dX0_leastArcOnward_65 : decode cX0_leastArcOnward 65 = .ok (.aload_n 0, 1) := by decide +kernel
theorem dX0_leastArcOnward_66 : decode cX0_leastArcOnward 66 = .ok (.getfield 9, 3) := by decide +kernel
theorem dX0_leastArcOnward_69 : decode cX0_leastArcOnward 69 = .ok (.iload_n 2, 1) := by decide +kernel
theorem dX0_leastArcOnward_70 : decode cX0_leastArcOnward 70 = .ok (.invokevirtual 61, 3) := by decide +kernel
theorem dX0_leastArcOnward_73 : decode cX0_leastArcOnward 73 = .ok (.iadd, 1) := by decide +kernel
theorem dX0_leastArcOnward_74 : decode cX0_leastArcOnward 74 = .ok (.aload_n 0, 1) := by decide +kernel
theorem dX0_leastArcOnward_75 : decode cX0_leastArcOnward 75 = .ok (.getfield 21, 3) := by decide +kernel
theorem dX0_leastArcOnward_78 : decode cX0_leastArcOnward 78 = .ok (.iload_n 1, 1) := by decide +kernel
theorem dX0_leastArcOnward_79 : decode cX0_leastArcOnward 79 = .ok (.iaload, 1) := by decide +kernel
theorem dX0_leastArcOnward_80 : decode cX0_leastArcOnward 80 = .ok (.if_icmp .ne 22, 3) := by decide +kernel
theorem dX0_leastArcOnward_83 : decode cX0_leastArcOnward 83 = .ok (.aload_n 0, 1) := by decide +kernel
theorem dX0_leastArcOnward_84 : decode cX0_leastArcOnward 84 = .ok (.getfield 25, 3) := by decide +kernel
theorem dX0_leastArcOnward_87 : decode cX0_leastArcOnward 87 = .ok (.iload_n 3, 1) := by decide +kernel
theorem dX0_leastArcOnward_88 : decode cX0_leastArcOnward 88 = .ok (.iaload, 1) := by decide +kernel
theorem dX0_leastArcOnward_89 : decode cX0_leastArcOnward 89 = .ok (.iconst 1, 1) := by decide +kernel
theorem dX0_leastArcOnward_90 : decode cX0_leastArcOnward 90 = .ok (.iadd, 1) := by decide +kernel
theorem dX0_leastArcOnward_91 : decode cX0_leastArcOnward 91 = .ok (.aload_n 0, 1) := by decide +kernel
theorem dX0_leastArcOnward_92 : decode cX0_leastArcOnward 92 = .ok (.getfield 25, 3) := by decide +kernel
theorem dX0_leastArcOnward_95 : decode cX0_leastArcOnward 95 = .ok (.iload_n 1, 1) := by decide +kernel
theorem dX0_leastArcOnward_96 : decode cX0_leastArcOnward 96 = .ok (.iaload, 1) := by decide +kernel
theorem dX0_leastArcOnward_97 : decode cX0_leastArcOnward 97 = .ok (.if_icmp .ne 5, 3) := by decide +kernel
theorem dX0_leastArcOnward_100 : decode cX0_leastArcOnward 100 = .ok (.iload_n 2, 1) := by decide +kernel
theorem dX0_leastArcOnward_101 : decode cX0_leastArcOnward 101 = .ok (.ireturn, 1) := by decide +kernel
theorem dX0_leastArcOnward_102 : decode cX0_leastArcOnward 102 = .ok (.iinc 2 1, 3) := by decide +kernel
theorem dX0_leastArcOnward_105 : decode cX0_leastArcOnward 105 = .ok (.goto (-103), 3) := by decide +kernel
theorem dX0_leastArcOnward_108 : decode cX0_leastArcOnward 108 = .ok (.iconst (-1), 1) := by decide +kernel
theorem dX0_leastArcOnward_109 : decode cX0_leastArcOnward 109 = .ok (.ireturn, 1) := by decide +kernel
theorem dX0_beginAt_0 : decode cX0_beginAt 0 = .ok (.aload_n 0, 1) := by decide +kernel
theorem dX0_beginAt_1 : decode cX0_beginAt 1 = .ok (.getfield 21, 3) := by decide +kernel
theorem dX0_beginAt_4 : decode cX0_beginAt 4 = .ok (.ldc 28, 2) := by decide +kernel
theorem dX0_beginAt_6 : decode cX0_beginAt 6 = .ok (.invokestatic 37, 3) := by decide +kernel
theorem dX0_beginAt_9 : decode cX0_beginAt 9 = .ok (.aload_n 0, 1) := by decide +kernel
theorem dX0_beginAt_10 : decode cX0_beginAt 10 = .ok (.getfield 25, 3) := by decide +kernel
theorem dX0_beginAt_13 : decode cX0_beginAt 13 = .ok (.iconst 0, 1) := by decide +kernel
theorem dX0_beginAt_14 : decode cX0_beginAt 14 = .ok (.invokestatic 37, 3) := by decide +kernel
theorem dX0_beginAt_17 : decode cX0_beginAt 17 = .ok (.aload_n 0, 1) := by decide +kernel
theorem dX0_beginAt_18 : decode cX0_beginAt 18 = .ok (.getfield 21, 3) := by decide +kernel
theorem dX0_beginAt_21 : decode cX0_beginAt 21 = .ok (.iload_n 1, 1) := by decide +kernel
theorem dX0_beginAt_22 : decode cX0_beginAt 22 = .ok (.iconst 0, 1) := by decide +kernel
theorem dX0_beginAt_23 : decode cX0_beginAt 23 = .ok (.iastore, 1) := by decide +kernel
theorem dX0_beginAt_24 : decode cX0_beginAt 24 = .ok (.return_, 1) := by decide +kernel
theorem dX0_settle_0 : decode cX0_settle 0 = .ok (.iconst 0, 1) := by decide +kernel
theorem dX0_settle_1 : decode cX0_settle 1 = .ok (.istore_n 2, 1) := by decide +kernel
theorem dX0_settle_2 : decode cX0_settle 2 = .ok (.iload_n 2, 1) := by decide +kernel
theorem dX0_settle_3 : decode cX0_settle 3 = .ok (.aload_n 0, 1) := by decide +kernel
theorem dX0_settle_4 : decode cX0_settle 4 = .ok (.getfield 9, 3) := by decide +kernel
theorem dX0_settle_7 : decode cX0_settle 7 = .ok (.getfield 15, 3) := by decide +kernel
theorem dX0_settle_10 : decode cX0_settle 10 = .ok (.if_icmp .ge 19, 3) := by decide +kernel
theorem dX0_settle_13 : decode cX0_settle 13 = .ok (.aload_n 0, 1) := by decide +kernel
theorem dX0_settle_14 : decode cX0_settle 14 = .ok (.iload_n 1, 1) := by decide +kernel
theorem dX0_settle_15 : decode cX0_settle 15 = .ok (.invokevirtual 64, 3) := by decide +kernel
theorem dX0_settle_18 : decode cX0_settle 18 = .ok (.ifCond .ne 5, 3) := by decide +kernel
theorem dX0_settle_21 : decode cX0_settle 21 = .ok (.iconst 1, 1) := by decide +kernel
theorem dX0_settle_22 : decode cX0_settle 22 = .ok (.ireturn, 1) := by decide +kernel
theorem dX0_settle_23 : decode cX0_settle 23 = .ok (.iinc 2 1, 3) := by decide +kernel
theorem dX0_settle_26 : decode cX0_settle 26 = .ok (.goto (-24), 3) := by decide +kernel
theorem dX0_settle_29 : decode cX0_settle 29 = .ok (.iconst 0, 1) := by decide +kernel
theorem dX0_settle_30 : decode cX0_settle 30 = .ok (.ireturn, 1) := by decide +kernel
theorem dX0_passOverArcs_0 : decode cX0_passOverArcs 0 = .ok (.iconst 0, 1) := by decide +kernel
theorem dX0_passOverArcs_1 : decode cX0_passOverArcs 1 = .ok (.istore_n 2, 1) := by decide +kernel
theorem dX0_passOverArcs_2 : decode cX0_passOverArcs 2 = .ok (.iconst 0, 1) := by decide +kernel
theorem dX0_passOverArcs_3 : decode cX0_passOverArcs 3 = .ok (.istore_n 3, 1) := by decide +kernel
theorem dX0_passOverArcs_4 : decode cX0_passOverArcs 4 = .ok (.iload_n 3, 1) := by decide +kernel
theorem dX0_passOverArcs_5 : decode cX0_passOverArcs 5 = .ok (.aload_n 0, 1) := by decide +kernel
theorem dX0_passOverArcs_6 : decode cX0_passOverArcs 6 = .ok (.getfield 9, 3) := by decide +kernel
theorem dX0_passOverArcs_9 : decode cX0_passOverArcs 9 = .ok (.invokevirtual 43, 3) := by decide +kernel
theorem dX0_passOverArcs_12 : decode cX0_passOverArcs 12 = .ok (.if_icmp .ge 118, 3) := by decide +kernel
theorem dX0_passOverArcs_15 : decode cX0_passOverArcs 15 = .ok (.aload_n 0, 1) := by decide +kernel
theorem dX0_passOverArcs_16 : decode cX0_passOverArcs 16 = .ok (.getfield 9, 3) := by decide +kernel
theorem dX0_passOverArcs_19 : decode cX0_passOverArcs 19 = .ok (.iload_n 3, 1) := by decide +kernel
theorem dX0_passOverArcs_20 : decode cX0_passOverArcs 20 = .ok (.invokevirtual 51, 3) := by decide +kernel
theorem dX0_passOverArcs_23 : decode cX0_passOverArcs 23 = .ok (.ifCond .gt 6, 3) := by decide +kernel
theorem dX0_passOverArcs_26 : decode cX0_passOverArcs 26 = .ok (.goto 98, 3) := by decide +kernel
theorem dX0_passOverArcs_29 : decode cX0_passOverArcs 29 = .ok (.iload_n 1, 1) := by decide +kernel
theorem dX0_passOverArcs_30 : decode cX0_passOverArcs 30 = .ok (.ifCond .eq 14, 3) := by decide +kernel
theorem dX0_passOverArcs_33 : decode cX0_passOverArcs 33 = .ok (.aload_n 0, 1) := by decide +kernel
theorem dX0_passOverArcs_34 : decode cX0_passOverArcs 34 = .ok (.getfield 9, 3) := by decide +kernel
theorem dX0_passOverArcs_37 : decode cX0_passOverArcs 37 = .ok (.iload_n 3, 1) := by decide +kernel
theorem dX0_passOverArcs_38 : decode cX0_passOverArcs 38 = .ok (.invokevirtual 54, 3) := by decide +kernel
theorem dX0_passOverArcs_41 : decode cX0_passOverArcs 41 = .ok (.goto 11, 3) := by decide +kernel
theorem dX0_passOverArcs_44 : decode cX0_passOverArcs 44 = .ok (.aload_n 0, 1) := by decide +kernel
theorem dX0_passOverArcs_45 : decode cX0_passOverArcs 45 = .ok (.getfield 9, 3) := by decide +kernel
theorem dX0_passOverArcs_48 : decode cX0_passOverArcs 48 = .ok (.iload_n 3, 1) := by decide +kernel
theorem dX0_passOverArcs_49 : decode cX0_passOverArcs 49 = .ok (.invokevirtual 47, 3) := by decide +kernel
theorem dX0_passOverArcs_52 : decode cX0_passOverArcs 52 = .ok (.istore 4, 2) := by decide +kernel
theorem dX0_passOverArcs_54 : decode cX0_passOverArcs 54 = .ok (.iload_n 1, 1) := by decide +kernel
theorem dX0_passOverArcs_55 : decode cX0_passOverArcs 55 = .ok (.ifCond .eq 14, 3) := by decide +kernel
theorem dX0_passOverArcs_58 : decode cX0_passOverArcs 58 = .ok (.aload_n 0, 1) := by decide +kernel
theorem dX0_passOverArcs_59 : decode cX0_passOverArcs 59 = .ok (.getfield 9, 3) := by decide +kernel
theorem dX0_passOverArcs_62 : decode cX0_passOverArcs 62 = .ok (.iload_n 3, 1) := by decide +kernel
theorem dX0_passOverArcs_63 : decode cX0_passOverArcs 63 = .ok (.invokevirtual 47, 3) := by decide +kernel
theorem dX0_passOverArcs_66 : decode cX0_passOverArcs 66 = .ok (.goto 11, 3) := by decide +kernel
theorem dX0_passOverArcs_69 : decode cX0_passOverArcs 69 = .ok (.aload_n 0, 1) := by decide +kernel
theorem dX0_passOverArcs_70 : decode cX0_passOverArcs 70 = .ok (.getfield 9, 3) := by decide +kernel
theorem dX0_passOverArcs_73 : decode cX0_passOverArcs 73 = .ok (.iload_n 3, 1) := by decide +kernel
theorem dX0_passOverArcs_74 : decode cX0_passOverArcs 74 = .ok (.invokevirtual 54, 3) := by decide +kernel
theorem dX0_passOverArcs_77 : decode cX0_passOverArcs 77 = .ok (.istore 5, 2) := by decide +kernel
theorem dX0_passOverArcs_79 : decode cX0_passOverArcs 79 = .ok (.aload_n 0, 1) := by decide +kernel
theorem dX0_passOverArcs_80 : decode cX0_passOverArcs 80 = .ok (.iload 4, 2) := by decide +kernel
theorem dX0_passOverArcs_82 : decode cX0_passOverArcs 82 = .ok (.invokevirtual 57, 3) := by decide +kernel
theorem dX0_passOverArcs_85 : decode cX0_passOverArcs 85 = .ok (.ifCond .eq 39, 3) := by decide +kernel
theorem dX0_passOverArcs_88 : decode cX0_passOverArcs 88 = .ok (.aload_n 0, 1) := by decide +kernel
theorem dX0_passOverArcs_89 : decode cX0_passOverArcs 89 = .ok (.iload 5, 2) := by decide +kernel
theorem dX0_passOverArcs_91 : decode cX0_passOverArcs 91 = .ok (.aload_n 0, 1) := by decide +kernel
theorem dX0_passOverArcs_92 : decode cX0_passOverArcs 92 = .ok (.getfield 21, 3) := by decide +kernel
theorem dX0_passOverArcs_95 : decode cX0_passOverArcs 95 = .ok (.iload 4, 2) := by decide +kernel
theorem dX0_passOverArcs_97 : decode cX0_passOverArcs 97 = .ok (.iaload, 1) := by decide +kernel
theorem dX0_passOverArcs_98 : decode cX0_passOverArcs 98 = .ok (.aload_n 0, 1) := by decide +kernel
theorem dX0_passOverArcs_99 : decode cX0_passOverArcs 99 = .ok (.getfield 9, 3) := by decide +kernel
theorem dX0_passOverArcs_102 : decode cX0_passOverArcs 102 = .ok (.iload_n 3, 1) := by decide +kernel
theorem dX0_passOverArcs_103 : decode cX0_passOverArcs 103 = .ok (.invokevirtual 61, 3) := by decide +kernel
theorem dX0_passOverArcs_106 : decode cX0_passOverArcs 106 = .ok (.iadd, 1) := by decide +kernel
theorem dX0_passOverArcs_107 : decode cX0_passOverArcs 107 = .ok (.aload_n 0, 1) := by decide +kernel
theorem dX0_passOverArcs_108 : decode cX0_passOverArcs 108 = .ok (.getfield 25, 3) := by decide +kernel
theorem dX0_passOverArcs_111 : decode cX0_passOverArcs 111 = .ok (.iload 4, 2) := by decide +kernel
theorem dX0_passOverArcs_113 : decode cX0_passOverArcs 113 = .ok (.iaload, 1) := by decide +kernel
theorem dX0_passOverArcs_114 : decode cX0_passOverArcs 114 = .ok (.iconst 1, 1) := by decide +kernel
theorem dX0_passOverArcs_115 : decode cX0_passOverArcs 115 = .ok (.iadd, 1) := by decide +kernel
theorem dX0_passOverArcs_116 : decode cX0_passOverArcs 116 = .ok (.invokevirtual 67, 3) := by decide +kernel
theorem dX0_passOverArcs_119 : decode cX0_passOverArcs 119 = .ok (.ifCond .eq 5, 3) := by decide +kernel
theorem dX0_passOverArcs_122 : decode cX0_passOverArcs 122 = .ok (.iconst 1, 1) := by decide +kernel
theorem dX0_passOverArcs_123 : decode cX0_passOverArcs 123 = .ok (.istore_n 2, 1) := by decide +kernel
theorem dX0_passOverArcs_124 : decode cX0_passOverArcs 124 = .ok (.iinc 3 1, 3) := by decide +kernel
theorem dX0_passOverArcs_127 : decode cX0_passOverArcs 127 = .ok (.goto (-123), 3) := by decide +kernel
theorem dX0_passOverArcs_130 : decode cX0_passOverArcs 130 = .ok (.iload_n 2, 1) := by decide +kernel
theorem dX0_passOverArcs_131 : decode cX0_passOverArcs 131 = .ok (.ireturn, 1) := by decide +kernel
theorem dX0_shorten_0 : decode cX0_shorten 0 = .ok (.iload_n 2, 1) := by decide +kernel
theorem dX0_shorten_1 : decode cX0_shorten 1 = .ok (.aload_n 0, 1) := by decide +kernel
theorem dX0_shorten_2 : decode cX0_shorten 2 = .ok (.getfield 21, 3) := by decide +kernel
theorem dX0_shorten_5 : decode cX0_shorten 5 = .ok (.iload_n 1, 1) := by decide +kernel
theorem dX0_shorten_6 : decode cX0_shorten 6 = .ok (.iaload, 1) := by decide +kernel
theorem dX0_shorten_7 : decode cX0_shorten 7 = .ok (.if_icmp .gt 23, 3) := by decide +kernel
theorem dX0_shorten_10 : decode cX0_shorten 10 = .ok (.iload_n 2, 1) := by decide +kernel
theorem dX0_shorten_11 : decode cX0_shorten 11 = .ok (.aload_n 0, 1) := by decide +kernel
theorem dX0_shorten_12 : decode cX0_shorten 12 = .ok (.getfield 21, 3) := by decide +kernel
theorem dX0_shorten_15 : decode cX0_shorten 15 = .ok (.iload_n 1, 1) := by decide +kernel
theorem dX0_shorten_16 : decode cX0_shorten 16 = .ok (.iaload, 1) := by decide +kernel
theorem dX0_shorten_17 : decode cX0_shorten 17 = .ok (.if_icmp .ne 15, 3) := by decide +kernel
theorem dX0_shorten_20 : decode cX0_shorten 20 = .ok (.iload_n 3, 1) := by decide +kernel
theorem dX0_shorten_21 : decode cX0_shorten 21 = .ok (.aload_n 0, 1) := by decide +kernel
theorem dX0_shorten_22 : decode cX0_shorten 22 = .ok (.getfield 25, 3) := by decide +kernel
theorem dX0_shorten_25 : decode cX0_shorten 25 = .ok (.iload_n 1, 1) := by decide +kernel
theorem dX0_shorten_26 : decode cX0_shorten 26 = .ok (.iaload, 1) := by decide +kernel
theorem dX0_shorten_27 : decode cX0_shorten 27 = .ok (.if_icmp .lt 5, 3) := by decide +kernel
theorem dX0_shorten_30 : decode cX0_shorten 30 = .ok (.iconst 0, 1) := by decide +kernel
theorem dX0_shorten_31 : decode cX0_shorten 31 = .ok (.ireturn, 1) := by decide +kernel
theorem dX0_shorten_32 : decode cX0_shorten 32 = .ok (.aload_n 0, 1) := by decide +kernel
theorem dX0_shorten_33 : decode cX0_shorten 33 = .ok (.getfield 21, 3) := by decide +kernel
theorem dX0_shorten_36 : decode cX0_shorten 36 = .ok (.iload_n 1, 1) := by decide +kernel
theorem dX0_shorten_37 : decode cX0_shorten 37 = .ok (.iload_n 2, 1) := by decide +kernel
theorem dX0_shorten_38 : decode cX0_shorten 38 = .ok (.iastore, 1) := by decide +kernel
theorem dX0_shorten_39 : decode cX0_shorten 39 = .ok (.aload_n 0, 1) := by decide +kernel
theorem dX0_shorten_40 : decode cX0_shorten 40 = .ok (.getfield 25, 3) := by decide +kernel
theorem dX0_shorten_43 : decode cX0_shorten 43 = .ok (.iload_n 1, 1) := by decide +kernel
theorem dX0_shorten_44 : decode cX0_shorten 44 = .ok (.iload_n 3, 1) := by decide +kernel
theorem dX0_shorten_45 : decode cX0_shorten 45 = .ok (.iastore, 1) := by decide +kernel
theorem dX0_shorten_46 : decode cX0_shorten 46 = .ok (.iconst 1, 1) := by decide +kernel
theorem dX0_shorten_47 : decode cX0_shorten 47 = .ok (.ireturn, 1) := by decide +kernel
theorem dX1_init_0 : decode cX1_init 0 = .ok (.aload_n 0, 1) := by decide +kernel
theorem dX1_init_1 : decode cX1_init 1 = .ok (.invokespecial 1, 3) := by decide +kernel
theorem dX1_init_4 : decode cX1_init 4 = .ok (.aload_n 0, 1) := by decide +kernel
theorem dX1_init_5 : decode cX1_init 5 = .ok (.iload_n 1, 1) := by decide +kernel
theorem dX1_init_6 : decode cX1_init 6 = .ok (.putfield 7, 3) := by decide +kernel
theorem dX1_init_9 : decode cX1_init 9 = .ok (.aload_n 0, 1) := by decide +kernel
theorem dX1_init_10 : decode cX1_init 10 = .ok (.iload_n 2, 1) := by decide +kernel
theorem dX1_init_11 : decode cX1_init 11 = .ok (.newarray .int, 2) := by decide +kernel
theorem dX1_init_13 : decode cX1_init 13 = .ok (.putfield 13, 3) := by decide +kernel
theorem dX1_init_16 : decode cX1_init 16 = .ok (.aload_n 0, 1) := by decide +kernel
theorem dX1_init_17 : decode cX1_init 17 = .ok (.iload_n 2, 1) := by decide +kernel
theorem dX1_init_18 : decode cX1_init 18 = .ok (.newarray .int, 2) := by decide +kernel
theorem dX1_init_20 : decode cX1_init 20 = .ok (.putfield 17, 3) := by decide +kernel
theorem dX1_init_23 : decode cX1_init 23 = .ok (.aload_n 0, 1) := by decide +kernel
theorem dX1_init_24 : decode cX1_init 24 = .ok (.iload_n 2, 1) := by decide +kernel
theorem dX1_init_25 : decode cX1_init 25 = .ok (.newarray .int, 2) := by decide +kernel
theorem dX1_init_27 : decode cX1_init 27 = .ok (.putfield 20, 3) := by decide +kernel
theorem dX1_init_30 : decode cX1_init 30 = .ok (.aload_n 0, 1) := by decide +kernel
theorem dX1_init_31 : decode cX1_init 31 = .ok (.iload_n 2, 1) := by decide +kernel
theorem dX1_init_32 : decode cX1_init 32 = .ok (.newarray .int, 2) := by decide +kernel
theorem dX1_init_34 : decode cX1_init 34 = .ok (.putfield 23, 3) := by decide +kernel
theorem dX1_init_37 : decode cX1_init 37 = .ok (.aload_n 0, 1) := by decide +kernel
theorem dX1_init_38 : decode cX1_init 38 = .ok (.iload_n 2, 1) := by decide +kernel
theorem dX1_init_39 : decode cX1_init 39 = .ok (.newarray .int, 2) := by decide +kernel
theorem dX1_init_41 : decode cX1_init 41 = .ok (.putfield 26, 3) := by decide +kernel
theorem dX1_init_44 : decode cX1_init 44 = .ok (.return_, 1) := by decide +kernel
theorem dX1_hasNode_0 : decode cX1_hasNode 0 = .ok (.iload_n 1, 1) := by decide +kernel
theorem dX1_hasNode_1 : decode cX1_hasNode 1 = .ok (.ifCond .lt 15, 3) := by decide +kernel
theorem dX1_hasNode_4 : decode cX1_hasNode 4 = .ok (.iload_n 1, 1) := by decide +kernel
theorem dX1_hasNode_5 : decode cX1_hasNode 5 = .ok (.aload_n 0, 1) := by decide +kernel
theorem dX1_hasNode_6 : decode cX1_hasNode 6 = .ok (.getfield 7, 3) := by decide +kernel
theorem dX1_hasNode_9 : decode cX1_hasNode 9 = .ok (.if_icmp .ge 7, 3) := by decide +kernel
theorem dX1_hasNode_12 : decode cX1_hasNode 12 = .ok (.iconst 1, 1) := by decide +kernel
theorem dX1_hasNode_13 : decode cX1_hasNode 13 = .ok (.goto 4, 3) := by decide +kernel
theorem dX1_hasNode_16 : decode cX1_hasNode 16 = .ok (.iconst 0, 1) := by decide +kernel
theorem dX1_hasNode_17 : decode cX1_hasNode 17 = .ok (.ireturn, 1) := by decide +kernel
theorem dX1_hasEdge_0 : decode cX1_hasEdge 0 = .ok (.iload_n 1, 1) := by decide +kernel
theorem dX1_hasEdge_1 : decode cX1_hasEdge 1 = .ok (.ifCond .lt 15, 3) := by decide +kernel
theorem dX1_hasEdge_4 : decode cX1_hasEdge 4 = .ok (.iload_n 1, 1) := by decide +kernel
theorem dX1_hasEdge_5 : decode cX1_hasEdge 5 = .ok (.aload_n 0, 1) := by decide +kernel
theorem dX1_hasEdge_6 : decode cX1_hasEdge 6 = .ok (.getfield 29, 3) := by decide +kernel
theorem dX1_hasEdge_9 : decode cX1_hasEdge 9 = .ok (.if_icmp .ge 7, 3) := by decide +kernel
theorem dX1_hasEdge_12 : decode cX1_hasEdge 12 = .ok (.iconst 1, 1) := by decide +kernel
theorem dX1_hasEdge_13 : decode cX1_hasEdge 13 = .ok (.goto 4, 3) := by decide +kernel
theorem dX1_hasEdge_16 : decode cX1_hasEdge 16 = .ok (.iconst 0, 1) := by decide +kernel
theorem dX1_hasEdge_17 : decode cX1_hasEdge 17 = .ok (.ireturn, 1) := by decide +kernel
theorem dX1_isFull_0 : decode cX1_isFull 0 = .ok (.aload_n 0, 1) := by decide +kernel
theorem dX1_isFull_1 : decode cX1_isFull 1 = .ok (.getfield 29, 3) := by decide +kernel
theorem dX1_isFull_4 : decode cX1_isFull 4 = .ok (.aload_n 0, 1) := by decide +kernel
theorem dX1_isFull_5 : decode cX1_isFull 5 = .ok (.getfield 13, 3) := by decide +kernel
theorem dX1_isFull_8 : decode cX1_isFull 8 = .ok (.arraylength, 1) := by decide +kernel
theorem dX1_isFull_9 : decode cX1_isFull 9 = .ok (.if_icmp .lt 7, 3) := by decide +kernel
theorem dX1_isFull_12 : decode cX1_isFull 12 = .ok (.iconst 1, 1) := by decide +kernel
theorem dX1_isFull_13 : decode cX1_isFull 13 = .ok (.goto 4, 3) := by decide +kernel
theorem dX1_isFull_16 : decode cX1_isFull 16 = .ok (.iconst 0, 1) := by decide +kernel
theorem dX1_isFull_17 : decode cX1_isFull 17 = .ok (.ireturn, 1) := by decide +kernel
theorem dX1_capacityInAll_0 : decode cX1_capacityInAll 0 = .ok (.lconst 0, 1) := by decide +kernel
theorem dX1_capacityInAll_1 : decode cX1_capacityInAll 1 = .ok (.lstore_n 1, 1) := by decide +kernel
theorem dX1_capacityInAll_2 : decode cX1_capacityInAll 2 = .ok (.iconst 0, 1) := by decide +kernel
theorem dX1_capacityInAll_3 : decode cX1_capacityInAll 3 = .ok (.istore_n 3, 1) := by decide +kernel
theorem dX1_capacityInAll_4 : decode cX1_capacityInAll 4 = .ok (.iload_n 3, 1) := by decide +kernel
theorem dX1_capacityInAll_5 : decode cX1_capacityInAll 5 = .ok (.aload_n 0, 1) := by decide +kernel
theorem dX1_capacityInAll_6 : decode cX1_capacityInAll 6 = .ok (.getfield 29, 3) := by decide +kernel
theorem dX1_capacityInAll_9 : decode cX1_capacityInAll 9 = .ok (.if_icmp .ge 19, 3) := by decide +kernel
theorem dX1_capacityInAll_12 : decode cX1_capacityInAll 12 = .ok (.lload_n 1, 1) := by decide +kernel
theorem dX1_capacityInAll_13 : decode cX1_capacityInAll 13 = .ok (.aload_n 0, 1) := by decide +kernel
theorem dX1_capacityInAll_14 : decode cX1_capacityInAll 14 = .ok (.getfield 20, 3) := by decide +kernel
theorem dX1_capacityInAll_17 : decode cX1_capacityInAll 17 = .ok (.iload_n 3, 1) := by decide +kernel
theorem dX1_capacityInAll_18 : decode cX1_capacityInAll 18 = .ok (.iaload, 1) := by decide +kernel
theorem dX1_capacityInAll_19 : decode cX1_capacityInAll 19 = .ok (.i2l, 1) := by decide +kernel
theorem dX1_capacityInAll_20 : decode cX1_capacityInAll 20 = .ok (.ladd, 1) := by decide +kernel
theorem dX1_capacityInAll_21 : decode cX1_capacityInAll 21 = .ok (.lstore_n 1, 1) := by decide +kernel
theorem dX1_capacityInAll_22 : decode cX1_capacityInAll 22 = .ok (.iinc 3 1, 3) := by decide +kernel
theorem dX1_capacityInAll_25 : decode cX1_capacityInAll 25 = .ok (.goto (-21), 3) := by decide +kernel
theorem dX1_capacityInAll_28 : decode cX1_capacityInAll 28 = .ok (.lload_n 1, 1) := by decide +kernel
theorem dX1_capacityInAll_29 : decode cX1_capacityInAll 29 = .ok (.lreturn, 1) := by decide +kernel
theorem dX1_add_0 : decode cX1_add 0 = .ok (.aload_n 0, 1) := by decide +kernel
theorem dX1_add_1 : decode cX1_add 1 = .ok (.getfield 29, 3) := by decide +kernel
theorem dX1_add_4 : decode cX1_add 4 = .ok (.istore 5, 2) := by decide +kernel
theorem dX1_add_6 : decode cX1_add 6 = .ok (.aload_n 0, 1) := by decide +kernel
theorem dX1_add_7 : decode cX1_add 7 = .ok (.getfield 13, 3) := by decide +kernel
theorem dX1_add_10 : decode cX1_add 10 = .ok (.iload 5, 2) := by decide +kernel
theorem dX1_add_12 : decode cX1_add 12 = .ok (.iload_n 1, 1) := by decide +kernel
theorem dX1_add_13 : decode cX1_add 13 = .ok (.iastore, 1) := by decide +kernel
theorem dX1_add_14 : decode cX1_add 14 = .ok (.aload_n 0, 1) := by decide +kernel
theorem dX1_add_15 : decode cX1_add 15 = .ok (.getfield 17, 3) := by decide +kernel
theorem dX1_add_18 : decode cX1_add 18 = .ok (.iload 5, 2) := by decide +kernel
theorem dX1_add_20 : decode cX1_add 20 = .ok (.iload_n 2, 1) := by decide +kernel
theorem dX1_add_21 : decode cX1_add 21 = .ok (.iastore, 1) := by decide +kernel
theorem dX1_add_22 : decode cX1_add 22 = .ok (.aload_n 0, 1) := by decide +kernel
theorem dX1_add_23 : decode cX1_add 23 = .ok (.getfield 20, 3) := by decide +kernel
theorem dX1_add_26 : decode cX1_add 26 = .ok (.iload 5, 2) := by decide +kernel
theorem dX1_add_28 : decode cX1_add 28 = .ok (.iload_n 3, 1) := by decide +kernel
theorem dX1_add_29 : decode cX1_add 29 = .ok (.iastore, 1) := by decide +kernel
theorem dX1_add_30 : decode cX1_add 30 = .ok (.aload_n 0, 1) := by decide +kernel
theorem dX1_add_31 : decode cX1_add 31 = .ok (.getfield 23, 3) := by decide +kernel
theorem dX1_add_34 : decode cX1_add 34 = .ok (.iload 5, 2) := by decide +kernel
theorem dX1_add_36 : decode cX1_add 36 = .ok (.iload 4, 2) := by decide +kernel
theorem dX1_add_38 : decode cX1_add 38 = .ok (.iastore, 1) := by decide +kernel
theorem dX1_add_39 : decode cX1_add 39 = .ok (.aload_n 0, 1) := by decide +kernel
theorem dX1_add_40 : decode cX1_add 40 = .ok (.dup, 1) := by decide +kernel
theorem dX1_add_41 : decode cX1_add 41 = .ok (.getfield 29, 3) := by decide +kernel
theorem dX1_add_44 : decode cX1_add 44 = .ok (.iconst 1, 1) := by decide +kernel
theorem dX1_add_45 : decode cX1_add 45 = .ok (.iadd, 1) := by decide +kernel
theorem dX1_add_46 : decode cX1_add 46 = .ok (.putfield 29, 3) := by decide +kernel
theorem dX1_add_49 : decode cX1_add 49 = .ok (.iload 5, 2) := by decide +kernel
theorem dX1_add_51 : decode cX1_add 51 = .ok (.ireturn, 1) := by decide +kernel
theorem dX1_clearFlow_0 : decode cX1_clearFlow 0 = .ok (.aload_n 0, 1) := by decide +kernel
theorem dX1_clearFlow_1 : decode cX1_clearFlow 1 = .ok (.getfield 26, 3) := by decide +kernel
theorem dX1_clearFlow_4 : decode cX1_clearFlow 4 = .ok (.iconst 0, 1) := by decide +kernel
theorem dX1_clearFlow_5 : decode cX1_clearFlow 5 = .ok (.invokestatic 32, 3) := by decide +kernel
theorem dX1_clearFlow_8 : decode cX1_clearFlow 8 = .ok (.return_, 1) := by decide +kernel
theorem dX1_costOfFlow_0 : decode cX1_costOfFlow 0 = .ok (.lconst 0, 1) := by decide +kernel
theorem dX1_costOfFlow_1 : decode cX1_costOfFlow 1 = .ok (.lstore_n 1, 1) := by decide +kernel
theorem dX1_costOfFlow_2 : decode cX1_costOfFlow 2 = .ok (.iconst 0, 1) := by decide +kernel
theorem dX1_costOfFlow_3 : decode cX1_costOfFlow 3 = .ok (.istore_n 3, 1) := by decide +kernel
theorem dX1_costOfFlow_4 : decode cX1_costOfFlow 4 = .ok (.iload_n 3, 1) := by decide +kernel
theorem dX1_costOfFlow_5 : decode cX1_costOfFlow 5 = .ok (.aload_n 0, 1) := by decide +kernel
theorem dX1_costOfFlow_6 : decode cX1_costOfFlow 6 = .ok (.getfield 29, 3) := by decide +kernel
theorem dX1_costOfFlow_9 : decode cX1_costOfFlow 9 = .ok (.if_icmp .ge 27, 3) := by decide +kernel
theorem dX1_costOfFlow_12 : decode cX1_costOfFlow 12 = .ok (.lload_n 1, 1) := by decide +kernel
theorem dX1_costOfFlow_13 : decode cX1_costOfFlow 13 = .ok (.aload_n 0, 1) := by decide +kernel
theorem dX1_costOfFlow_14 : decode cX1_costOfFlow 14 = .ok (.getfield 26, 3) := by decide +kernel
theorem dX1_costOfFlow_17 : decode cX1_costOfFlow 17 = .ok (.iload_n 3, 1) := by decide +kernel
theorem dX1_costOfFlow_18 : decode cX1_costOfFlow 18 = .ok (.iaload, 1) := by decide +kernel
theorem dX1_costOfFlow_19 : decode cX1_costOfFlow 19 = .ok (.i2l, 1) := by decide +kernel
theorem dX1_costOfFlow_20 : decode cX1_costOfFlow 20 = .ok (.aload_n 0, 1) := by decide +kernel
theorem dX1_costOfFlow_21 : decode cX1_costOfFlow 21 = .ok (.getfield 23, 3) := by decide +kernel
theorem dX1_costOfFlow_24 : decode cX1_costOfFlow 24 = .ok (.iload_n 3, 1) := by decide +kernel
theorem dX1_costOfFlow_25 : decode cX1_costOfFlow 25 = .ok (.iaload, 1) := by decide +kernel
theorem dX1_costOfFlow_26 : decode cX1_costOfFlow 26 = .ok (.i2l, 1) := by decide +kernel
theorem dX1_costOfFlow_27 : decode cX1_costOfFlow 27 = .ok (.lmul, 1) := by decide +kernel
theorem dX1_costOfFlow_28 : decode cX1_costOfFlow 28 = .ok (.ladd, 1) := by decide +kernel
theorem dX1_costOfFlow_29 : decode cX1_costOfFlow 29 = .ok (.lstore_n 1, 1) := by decide +kernel
theorem dX1_costOfFlow_30 : decode cX1_costOfFlow 30 = .ok (.iinc 3 1, 3) := by decide +kernel
theorem dX1_costOfFlow_33 : decode cX1_costOfFlow 33 = .ok (.goto (-29), 3) := by decide +kernel
theorem dX1_costOfFlow_36 : decode cX1_costOfFlow 36 = .ok (.lload_n 1, 1) := by decide +kernel
theorem dX1_costOfFlow_37 : decode cX1_costOfFlow 37 = .ok (.lreturn, 1) := by decide +kernel
theorem dX1_surplus_0 : decode cX1_surplus 0 = .ok (.lconst 0, 1) := by decide +kernel
theorem dX1_surplus_1 : decode cX1_surplus 1 = .ok (.lstore_n 2, 1) := by decide +kernel
theorem dX1_surplus_2 : decode cX1_surplus 2 = .ok (.iconst 0, 1) := by decide +kernel
theorem dX1_surplus_3 : decode cX1_surplus 3 = .ok (.istore 4, 2) := by decide +kernel
theorem dX1_surplus_5 : decode cX1_surplus 5 = .ok (.iload 4, 2) := by decide +kernel
theorem dX1_surplus_7 : decode cX1_surplus 7 = .ok (.aload_n 0, 1) := by decide +kernel
theorem dX1_surplus_8 : decode cX1_surplus 8 = .ok (.getfield 29, 3) := by decide +kernel
theorem dX1_surplus_11 : decode cX1_surplus 11 = .ok (.if_icmp .ge 53, 3) := by decide +kernel
theorem dX1_surplus_14 : decode cX1_surplus 14 = .ok (.aload_n 0, 1) := by decide +kernel
theorem dX1_surplus_15 : decode cX1_surplus 15 = .ok (.getfield 17, 3) := by decide +kernel
theorem dX1_surplus_18 : decode cX1_surplus 18 = .ok (.iload 4, 2) := by decide +kernel
theorem dX1_surplus_20 : decode cX1_surplus 20 = .ok (.iaload, 1) := by decide +kernel
theorem dX1_surplus_21 : decode cX1_surplus 21 = .ok (.iload_n 1, 1) := by decide +kernel
theorem dX1_surplus_22 : decode cX1_surplus 22 = .ok (.if_icmp .ne 14, 3) := by decide +kernel
theorem dX1_surplus_25 : decode cX1_surplus 25 = .ok (.lload_n 2, 1) := by decide +kernel
theorem dX1_surplus_26 : decode cX1_surplus 26 = .ok (.aload_n 0, 1) := by decide +kernel
theorem dX1_surplus_27 : decode cX1_surplus 27 = .ok (.getfield 26, 3) := by decide +kernel
theorem dX1_surplus_30 : decode cX1_surplus 30 = .ok (.iload 4, 2) := by decide +kernel
theorem dX1_surplus_32 : decode cX1_surplus 32 = .ok (.iaload, 1) := by decide +kernel
theorem dX1_surplus_33 : decode cX1_surplus 33 = .ok (.i2l, 1) := by decide +kernel
theorem dX1_surplus_34 : decode cX1_surplus 34 = .ok (.ladd, 1) := by decide +kernel
theorem dX1_surplus_35 : decode cX1_surplus 35 = .ok (.lstore_n 2, 1) := by decide +kernel
theorem dX1_surplus_36 : decode cX1_surplus 36 = .ok (.aload_n 0, 1) := by decide +kernel
theorem dX1_surplus_37 : decode cX1_surplus 37 = .ok (.getfield 13, 3) := by decide +kernel
theorem dX1_surplus_40 : decode cX1_surplus 40 = .ok (.iload 4, 2) := by decide +kernel
theorem dX1_surplus_42 : decode cX1_surplus 42 = .ok (.iaload, 1) := by decide +kernel
theorem dX1_surplus_43 : decode cX1_surplus 43 = .ok (.iload_n 1, 1) := by decide +kernel
theorem dX1_surplus_44 : decode cX1_surplus 44 = .ok (.if_icmp .ne 14, 3) := by decide +kernel
theorem dX1_surplus_47 : decode cX1_surplus 47 = .ok (.lload_n 2, 1) := by decide +kernel
theorem dX1_surplus_48 : decode cX1_surplus 48 = .ok (.aload_n 0, 1) := by decide +kernel
theorem dX1_surplus_49 : decode cX1_surplus 49 = .ok (.getfield 26, 3) := by decide +kernel
theorem dX1_surplus_52 : decode cX1_surplus 52 = .ok (.iload 4, 2) := by decide +kernel
theorem dX1_surplus_54 : decode cX1_surplus 54 = .ok (.iaload, 1) := by decide +kernel
theorem dX1_surplus_55 : decode cX1_surplus 55 = .ok (.i2l, 1) := by decide +kernel
theorem dX1_surplus_56 : decode cX1_surplus 56 = .ok (.lsub, 1) := by decide +kernel
theorem dX1_surplus_57 : decode cX1_surplus 57 = .ok (.lstore_n 2, 1) := by decide +kernel
theorem dX1_surplus_58 : decode cX1_surplus 58 = .ok (.iinc 4 1, 3) := by decide +kernel
theorem dX1_surplus_61 : decode cX1_surplus 61 = .ok (.goto (-56), 3) := by decide +kernel
theorem dX1_surplus_64 : decode cX1_surplus 64 = .ok (.lload_n 2, 1) := by decide +kernel
theorem dX1_surplus_65 : decode cX1_surplus 65 = .ok (.lreturn, 1) := by decide +kernel
theorem dX1_arcs_0 : decode cX1_arcs 0 = .ok (.iconst 2, 1) := by decide +kernel
theorem dX1_arcs_1 : decode cX1_arcs 1 = .ok (.aload_n 0, 1) := by decide +kernel
theorem dX1_arcs_2 : decode cX1_arcs 2 = .ok (.getfield 29, 3) := by decide +kernel
theorem dX1_arcs_5 : decode cX1_arcs 5 = .ok (.imul, 1) := by decide +kernel
theorem dX1_arcs_6 : decode cX1_arcs 6 = .ok (.ireturn, 1) := by decide +kernel
theorem dX1_begin_0 : decode cX1_begin 0 = .ok (.iload_n 1, 1) := by decide +kernel
theorem dX1_begin_1 : decode cX1_begin 1 = .ok (.invokestatic 38, 3) := by decide +kernel
theorem dX1_begin_4 : decode cX1_begin 4 = .ok (.ifCond .eq 14, 3) := by decide +kernel
theorem dX1_begin_7 : decode cX1_begin 7 = .ok (.aload_n 0, 1) := by decide +kernel
theorem dX1_begin_8 : decode cX1_begin 8 = .ok (.getfield 17, 3) := by decide +kernel
theorem dX1_begin_11 : decode cX1_begin 11 = .ok (.iload_n 1, 1) := by decide +kernel
theorem dX1_begin_12 : decode cX1_begin 12 = .ok (.iconst 1, 1) := by decide +kernel
theorem dX1_begin_13 : decode cX1_begin 13 = .ok (.ishr, 1) := by decide +kernel
theorem dX1_begin_14 : decode cX1_begin 14 = .ok (.iaload, 1) := by decide +kernel
theorem dX1_begin_15 : decode cX1_begin 15 = .ok (.goto 11, 3) := by decide +kernel
theorem dX1_begin_18 : decode cX1_begin 18 = .ok (.aload_n 0, 1) := by decide +kernel
theorem dX1_begin_19 : decode cX1_begin 19 = .ok (.getfield 13, 3) := by decide +kernel
theorem dX1_begin_22 : decode cX1_begin 22 = .ok (.iload_n 1, 1) := by decide +kernel
theorem dX1_begin_23 : decode cX1_begin 23 = .ok (.iconst 1, 1) := by decide +kernel
theorem dX1_begin_24 : decode cX1_begin 24 = .ok (.ishr, 1) := by decide +kernel
theorem dX1_begin_25 : decode cX1_begin 25 = .ok (.iaload, 1) := by decide +kernel
theorem dX1_begin_26 : decode cX1_begin 26 = .ok (.ireturn, 1) := by decide +kernel
theorem dX1_end_0 : decode cX1_end 0 = .ok (.iload_n 1, 1) := by decide +kernel
theorem dX1_end_1 : decode cX1_end 1 = .ok (.invokestatic 38, 3) := by decide +kernel
theorem dX1_end_4 : decode cX1_end 4 = .ok (.ifCond .eq 14, 3) := by decide +kernel
theorem dX1_end_7 : decode cX1_end 7 = .ok (.aload_n 0, 1) := by decide +kernel
theorem dX1_end_8 : decode cX1_end 8 = .ok (.getfield 13, 3) := by decide +kernel
theorem dX1_end_11 : decode cX1_end 11 = .ok (.iload_n 1, 1) := by decide +kernel
theorem dX1_end_12 : decode cX1_end 12 = .ok (.iconst 1, 1) := by decide +kernel
theorem dX1_end_13 : decode cX1_end 13 = .ok (.ishr, 1) := by decide +kernel
theorem dX1_end_14 : decode cX1_end 14 = .ok (.iaload, 1) := by decide +kernel
theorem dX1_end_15 : decode cX1_end 15 = .ok (.goto 11, 3) := by decide +kernel
theorem dX1_end_18 : decode cX1_end 18 = .ok (.aload_n 0, 1) := by decide +kernel
theorem dX1_end_19 : decode cX1_end 19 = .ok (.getfield 17, 3) := by decide +kernel
theorem dX1_end_22 : decode cX1_end 22 = .ok (.iload_n 1, 1) := by decide +kernel
theorem dX1_end_23 : decode cX1_end 23 = .ok (.iconst 1, 1) := by decide +kernel
theorem dX1_end_24 : decode cX1_end 24 = .ok (.ishr, 1) := by decide +kernel
theorem dX1_end_25 : decode cX1_end 25 = .ok (.iaload, 1) := by decide +kernel
theorem dX1_end_26 : decode cX1_end 26 = .ok (.ireturn, 1) := by decide +kernel
theorem dX1_price_0 : decode cX1_price 0 = .ok (.iload_n 1, 1) := by decide +kernel
theorem dX1_price_1 : decode cX1_price 1 = .ok (.invokestatic 38, 3) := by decide +kernel
theorem dX1_price_4 : decode cX1_price 4 = .ok (.ifCond .eq 15, 3) := by decide +kernel
theorem dX1_price_7 : decode cX1_price 7 = .ok (.aload_n 0, 1) := by decide +kernel
theorem dX1_price_8 : decode cX1_price 8 = .ok (.getfield 23, 3) := by decide +kernel
theorem dX1_price_11 : decode cX1_price 11 = .ok (.iload_n 1, 1) := by decide +kernel
theorem dX1_price_12 : decode cX1_price 12 = .ok (.iconst 1, 1) := by decide +kernel
theorem dX1_price_13 : decode cX1_price 13 = .ok (.ishr, 1) := by decide +kernel
theorem dX1_price_14 : decode cX1_price 14 = .ok (.iaload, 1) := by decide +kernel
theorem dX1_price_15 : decode cX1_price 15 = .ok (.ineg, 1) := by decide +kernel
theorem dX1_price_16 : decode cX1_price 16 = .ok (.goto 11, 3) := by decide +kernel
theorem dX1_price_19 : decode cX1_price 19 = .ok (.aload_n 0, 1) := by decide +kernel
theorem dX1_price_20 : decode cX1_price 20 = .ok (.getfield 23, 3) := by decide +kernel
theorem dX1_price_23 : decode cX1_price 23 = .ok (.iload_n 1, 1) := by decide +kernel
theorem dX1_price_24 : decode cX1_price 24 = .ok (.iconst 1, 1) := by decide +kernel
theorem dX1_price_25 : decode cX1_price 25 = .ok (.ishr, 1) := by decide +kernel
theorem dX1_price_26 : decode cX1_price 26 = .ok (.iaload, 1) := by decide +kernel
theorem dX1_price_27 : decode cX1_price 27 = .ok (.ireturn, 1) := by decide +kernel
theorem dX1_left_0 : decode cX1_left 0 = .ok (.iload_n 1, 1) := by decide +kernel
theorem dX1_left_1 : decode cX1_left 1 = .ok (.iconst 1, 1) := by decide +kernel
theorem dX1_left_2 : decode cX1_left 2 = .ok (.ishr, 1) := by decide +kernel
theorem dX1_left_3 : decode cX1_left 3 = .ok (.istore_n 2, 1) := by decide +kernel
theorem dX1_left_4 : decode cX1_left 4 = .ok (.iload_n 1, 1) := by decide +kernel
theorem dX1_left_5 : decode cX1_left 5 = .ok (.invokestatic 38, 3) := by decide +kernel
theorem dX1_left_8 : decode cX1_left 8 = .ok (.ifCond .eq 12, 3) := by decide +kernel
theorem dX1_left_11 : decode cX1_left 11 = .ok (.aload_n 0, 1) := by decide +kernel
theorem dX1_left_12 : decode cX1_left 12 = .ok (.getfield 26, 3) := by decide +kernel
theorem dX1_left_15 : decode cX1_left 15 = .ok (.iload_n 2, 1) := by decide +kernel
theorem dX1_left_16 : decode cX1_left 16 = .ok (.iaload, 1) := by decide +kernel
theorem dX1_left_17 : decode cX1_left 17 = .ok (.goto 16, 3) := by decide +kernel
theorem dX1_left_20 : decode cX1_left 20 = .ok (.aload_n 0, 1) := by decide +kernel
theorem dX1_left_21 : decode cX1_left 21 = .ok (.getfield 20, 3) := by decide +kernel
theorem dX1_left_24 : decode cX1_left 24 = .ok (.iload_n 2, 1) := by decide +kernel
theorem dX1_left_25 : decode cX1_left 25 = .ok (.iaload, 1) := by decide +kernel
theorem dX1_left_26 : decode cX1_left 26 = .ok (.aload_n 0, 1) := by decide +kernel
theorem dX1_left_27 : decode cX1_left 27 = .ok (.getfield 26, 3) := by decide +kernel
theorem dX1_left_30 : decode cX1_left 30 = .ok (.iload_n 2, 1) := by decide +kernel
theorem dX1_left_31 : decode cX1_left 31 = .ok (.iaload, 1) := by decide +kernel
theorem dX1_left_32 : decode cX1_left 32 = .ok (.isub, 1) := by decide +kernel
theorem dX1_left_33 : decode cX1_left 33 = .ok (.ireturn, 1) := by decide +kernel
theorem dX1_send_0 : decode cX1_send 0 = .ok (.aload_n 0, 1) := by decide +kernel
theorem dX1_send_1 : decode cX1_send 1 = .ok (.getfield 26, 3) := by decide +kernel
theorem dX1_send_4 : decode cX1_send 4 = .ok (.iload_n 1, 1) := by decide +kernel
theorem dX1_send_5 : decode cX1_send 5 = .ok (.iconst 1, 1) := by decide +kernel
theorem dX1_send_6 : decode cX1_send 6 = .ok (.ishr, 1) := by decide +kernel
theorem dX1_send_7 : decode cX1_send 7 = .ok (.dup2, 1) := by decide +kernel
theorem dX1_send_8 : decode cX1_send 8 = .ok (.iaload, 1) := by decide +kernel
theorem dX1_send_9 : decode cX1_send 9 = .ok (.iload_n 1, 1) := by decide +kernel
theorem dX1_send_10 : decode cX1_send 10 = .ok (.invokestatic 38, 3) := by decide +kernel
theorem dX1_send_13 : decode cX1_send 13 = .ok (.ifCond .eq 8, 3) := by decide +kernel
theorem dX1_send_16 : decode cX1_send 16 = .ok (.iload_n 2, 1) := by decide +kernel
theorem dX1_send_17 : decode cX1_send 17 = .ok (.ineg, 1) := by decide +kernel
theorem dX1_send_18 : decode cX1_send 18 = .ok (.goto 4, 3) := by decide +kernel
theorem dX1_send_21 : decode cX1_send 21 = .ok (.iload_n 2, 1) := by decide +kernel
theorem dX1_send_22 : decode cX1_send 22 = .ok (.iadd, 1) := by decide +kernel
theorem dX1_send_23 : decode cX1_send 23 = .ok (.iastore, 1) := by decide +kernel
theorem dX1_send_24 : decode cX1_send 24 = .ok (.return_, 1) := by decide +kernel
theorem dX1_isBack_0 : decode cX1_isBack 0 = .ok (.iload_n 0, 1) := by decide +kernel
theorem dX1_isBack_1 : decode cX1_isBack 1 = .ok (.iconst 1, 1) := by decide +kernel
theorem dX1_isBack_2 : decode cX1_isBack 2 = .ok (.iand, 1) := by decide +kernel
theorem dX1_isBack_3 : decode cX1_isBack 3 = .ok (.ifCond .eq 7, 3) := by decide +kernel
theorem dX1_isBack_6 : decode cX1_isBack 6 = .ok (.iconst 1, 1) := by decide +kernel
theorem dX1_isBack_7 : decode cX1_isBack 7 = .ok (.goto 4, 3) := by decide +kernel
theorem dX1_isBack_10 : decode cX1_isBack 10 = .ok (.iconst 0, 1) := by decide +kernel
theorem dX1_isBack_11 : decode cX1_isBack 11 = .ok (.ireturn, 1) := by decide +kernel
theorem dX2_init_0 : decode cX2_init 0 = .ok (.aload_n 0, 1) := by decide +kernel
theorem dX2_init_1 : decode cX2_init 1 = .ok (.invokespecial 3, 3) := by decide +kernel
theorem dX2_init_4 : decode cX2_init 4 = .ok (.aload_n 0, 1) := by decide +kernel
theorem dX2_init_5 : decode cX2_init 5 = .ok (.iconst (-1), 1) := by decide +kernel
theorem dX2_init_6 : decode cX2_init 6 = .ok (.putfield 11, 3) := by decide +kernel
theorem dX2_init_9 : decode cX2_init 9 = .ok (.aload_n 0, 1) := by decide +kernel
theorem dX2_init_10 : decode cX2_init 10 = .ok (.iconst (-1), 1) := by decide +kernel
theorem dX2_init_11 : decode cX2_init 11 = .ok (.putfield 15, 3) := by decide +kernel
theorem dX2_init_14 : decode cX2_init 14 = .ok (.iload_n 1, 1) := by decide +kernel
theorem dX2_init_15 : decode cX2_init 15 = .ok (.iconst 2, 1) := by decide +kernel
theorem dX2_init_16 : decode cX2_init 16 = .ok (.bipush 12, 2) := by decide +kernel
theorem dX2_init_18 : decode cX2_init 18 = .ok (.invokestatic 18, 3) := by decide +kernel
theorem dX2_init_21 : decode cX2_init 21 = .ok (.istore_n 3, 1) := by decide +kernel
theorem dX2_init_22 : decode cX2_init 22 = .ok (.aload_n 0, 1) := by decide +kernel
theorem dX2_init_23 : decode cX2_init 23 = .ok (.new 22, 3) := by decide +kernel
theorem dX2_init_26 : decode cX2_init 26 = .ok (.dup, 1) := by decide +kernel
theorem dX2_init_27 : decode cX2_init 27 = .ok (.iload_n 3, 1) := by decide +kernel
theorem dX2_init_28 : decode cX2_init 28 = .ok (.iload_n 2, 1) := by decide +kernel
theorem dX2_init_29 : decode cX2_init 29 = .ok (.iconst 1, 1) := by decide +kernel
theorem dX2_init_30 : decode cX2_init 30 = .ok (.bipush 40, 2) := by decide +kernel
theorem dX2_init_32 : decode cX2_init 32 = .ok (.invokestatic 18, 3) := by decide +kernel
theorem dX2_init_35 : decode cX2_init 35 = .ok (.invokespecial 24, 3) := by decide +kernel
theorem dX2_init_38 : decode cX2_init 38 = .ok (.putfield 27, 3) := by decide +kernel
theorem dX2_init_41 : decode cX2_init 41 = .ok (.aload_n 0, 1) := by decide +kernel
theorem dX2_init_42 : decode cX2_init 42 = .ok (.new 31, 3) := by decide +kernel
theorem dX2_init_45 : decode cX2_init 45 = .ok (.dup, 1) := by decide +kernel
theorem dX2_init_46 : decode cX2_init 46 = .ok (.aload_n 0, 1) := by decide +kernel
theorem dX2_init_47 : decode cX2_init 47 = .ok (.getfield 27, 3) := by decide +kernel
theorem dX2_init_50 : decode cX2_init 50 = .ok (.invokespecial 33, 3) := by decide +kernel
theorem dX2_init_53 : decode cX2_init 53 = .ok (.putfield 36, 3) := by decide +kernel
theorem dX2_init_56 : decode cX2_init 56 = .ok (.aload_n 0, 1) := by decide +kernel
theorem dX2_init_57 : decode cX2_init 57 = .ok (.new 31, 3) := by decide +kernel
theorem dX2_init_60 : decode cX2_init 60 = .ok (.dup, 1) := by decide +kernel
theorem dX2_init_61 : decode cX2_init 61 = .ok (.aload_n 0, 1) := by decide +kernel
theorem dX2_init_62 : decode cX2_init 62 = .ok (.getfield 27, 3) := by decide +kernel
theorem dX2_init_65 : decode cX2_init 65 = .ok (.invokespecial 33, 3) := by decide +kernel
theorem dX2_init_68 : decode cX2_init 68 = .ok (.putfield 40, 3) := by decide +kernel
theorem dX2_init_71 : decode cX2_init 71 = .ok (.aload_n 0, 1) := by decide +kernel
theorem dX2_init_72 : decode cX2_init 72 = .ok (.iload_n 3, 1) := by decide +kernel
theorem dX2_init_73 : decode cX2_init 73 = .ok (.newarray .int, 2) := by decide +kernel
theorem dX2_init_75 : decode cX2_init 75 = .ok (.putfield 43, 3) := by decide +kernel
theorem dX2_init_78 : decode cX2_init 78 = .ok (.return_, 1) := by decide +kernel
theorem dX2_edge_0 : decode cX2_edge 0 = .ok (.aload_n 0, 1) := by decide +kernel
theorem dX2_edge_1 : decode cX2_edge 1 = .ok (.getfield 27, 3) := by decide +kernel
theorem dX2_edge_4 : decode cX2_edge 4 = .ok (.iload_n 1, 1) := by decide +kernel
theorem dX2_edge_5 : decode cX2_edge 5 = .ok (.invokevirtual 47, 3) := by decide +kernel
theorem dX2_edge_8 : decode cX2_edge 8 = .ok (.ifCond .eq 19, 3) := by decide +kernel
theorem dX2_edge_11 : decode cX2_edge 11 = .ok (.aload_n 0, 1) := by decide +kernel
theorem dX2_edge_12 : decode cX2_edge 12 = .ok (.getfield 27, 3) := by decide +kernel
theorem dX2_edge_15 : decode cX2_edge 15 = .ok (.iload_n 2, 1) := by decide +kernel
theorem dX2_edge_16 : decode cX2_edge 16 = .ok (.invokevirtual 47, 3) := by decide +kernel
theorem dX2_edge_19 : decode cX2_edge 19 = .ok (.ifCond .eq 8, 3) := by decide +kernel
theorem dX2_edge_22 : decode cX2_edge 22 = .ok (.iload_n 1, 1) := by decide +kernel
theorem dX2_edge_23 : decode cX2_edge 23 = .ok (.iload_n 2, 1) := by decide +kernel
theorem dX2_edge_24 : decode cX2_edge 24 = .ok (.if_icmp .ne 5, 3) := by decide +kernel
theorem dX2_edge_27 : decode cX2_edge 27 = .ok (.iconst (-1), 1) := by decide +kernel
theorem dX2_edge_28 : decode cX2_edge 28 = .ok (.ireturn, 1) := by decide +kernel
theorem dX2_edge_29 : decode cX2_edge 29 = .ok (.iload_n 3, 1) := by decide +kernel
theorem dX2_edge_30 : decode cX2_edge 30 = .ok (.ifCond .lt 9, 3) := by decide +kernel
theorem dX2_edge_33 : decode cX2_edge 33 = .ok (.iload_n 3, 1) := by decide +kernel
theorem dX2_edge_34 : decode cX2_edge 34 = .ok (.ldc 51, 2) := by decide +kernel
theorem dX2_edge_36 : decode cX2_edge 36 = .ok (.if_icmp .le 5, 3) := by decide +kernel
theorem dX2_edge_39 : decode cX2_edge 39 = .ok (.iconst (-1), 1) := by decide +kernel
theorem dX2_edge_40 : decode cX2_edge 40 = .ok (.ireturn, 1) := by decide +kernel
theorem dX2_edge_41 : decode cX2_edge 41 = .ok (.iload 4, 2) := by decide +kernel
theorem dX2_edge_43 : decode cX2_edge 43 = .ok (.sipush (-10000), 3) := by decide +kernel
theorem dX2_edge_46 : decode cX2_edge 46 = .ok (.if_icmp .lt 11, 3) := by decide +kernel
theorem dX2_edge_49 : decode cX2_edge 49 = .ok (.iload 4, 2) := by decide +kernel
theorem dX2_edge_51 : decode cX2_edge 51 = .ok (.sipush 10000, 3) := by decide +kernel
theorem dX2_edge_54 : decode cX2_edge 54 = .ok (.if_icmp .le 5, 3) := by decide +kernel
theorem dX2_edge_57 : decode cX2_edge 57 = .ok (.iconst (-1), 1) := by decide +kernel
theorem dX2_edge_58 : decode cX2_edge 58 = .ok (.ireturn, 1) := by decide +kernel
theorem dX2_edge_59 : decode cX2_edge 59 = .ok (.aload_n 0, 1) := by decide +kernel
theorem dX2_edge_60 : decode cX2_edge 60 = .ok (.getfield 27, 3) := by decide +kernel
theorem dX2_edge_63 : decode cX2_edge 63 = .ok (.invokevirtual 52, 3) := by decide +kernel
theorem dX2_edge_66 : decode cX2_edge 66 = .ok (.ifCond .ne 20, 3) := by decide +kernel
theorem dX2_edge_69 : decode cX2_edge 69 = .ok (.aload_n 0, 1) := by decide +kernel
theorem dX2_edge_70 : decode cX2_edge 70 = .ok (.getfield 27, 3) := by decide +kernel
theorem dX2_edge_73 : decode cX2_edge 73 = .ok (.invokevirtual 56, 3) := by decide +kernel
theorem dX2_edge_76 : decode cX2_edge 76 = .ok (.iload_n 3, 1) := by decide +kernel
theorem dX2_edge_77 : decode cX2_edge 77 = .ok (.i2l, 1) := by decide +kernel
theorem dX2_edge_78 : decode cX2_edge 78 = .ok (.ladd, 1) := by decide +kernel
theorem dX2_edge_79 : decode cX2_edge 79 = .ok (.ldc2_w 60, 3) := by decide +kernel
theorem dX2_edge_82 : decode cX2_edge 82 = .ok (.lcmp, 1) := by decide +kernel
theorem dX2_edge_83 : decode cX2_edge 83 = .ok (.ifCond .le 5, 3) := by decide +kernel
theorem dX2_edge_86 : decode cX2_edge 86 = .ok (.iconst (-1), 1) := by decide +kernel
theorem dX2_edge_87 : decode cX2_edge 87 = .ok (.ireturn, 1) := by decide +kernel
theorem dX2_edge_88 : decode cX2_edge 88 = .ok (.aload_n 0, 1) := by decide +kernel
theorem dX2_edge_89 : decode cX2_edge 89 = .ok (.invokevirtual 62, 3) := by decide +kernel
theorem dX2_edge_92 : decode cX2_edge 92 = .ok (.aload_n 0, 1) := by decide +kernel
theorem dX2_edge_93 : decode cX2_edge 93 = .ok (.getfield 27, 3) := by decide +kernel
theorem dX2_edge_96 : decode cX2_edge 96 = .ok (.iload_n 1, 1) := by decide +kernel
theorem dX2_edge_97 : decode cX2_edge 97 = .ok (.iload_n 2, 1) := by decide +kernel
theorem dX2_edge_98 : decode cX2_edge 98 = .ok (.iload_n 3, 1) := by decide +kernel
theorem dX2_edge_99 : decode cX2_edge 99 = .ok (.iload 4, 2) := by decide +kernel
theorem dX2_edge_101 : decode cX2_edge 101 = .ok (.invokevirtual 65, 3) := by decide +kernel
theorem dX2_edge_104 : decode cX2_edge 104 = .ok (.istore 5, 2) := by decide +kernel
theorem dX2_edge_106 : decode cX2_edge 106 = .ok (.aload_n 0, 1) := by decide +kernel
theorem dX2_edge_107 : decode cX2_edge 107 = .ok (.aload_n 0, 1) := by decide +kernel
theorem dX2_edge_108 : decode cX2_edge 108 = .ok (.getfield 36, 3) := by decide +kernel
theorem dX2_edge_111 : decode cX2_edge 111 = .ok (.invokevirtual 69, 3) := by decide +kernel
theorem dX2_edge_114 : decode cX2_edge 114 = .ok (.ifCond .ne 7, 3) := by decide +kernel
theorem dX2_edge_117 : decode cX2_edge 117 = .ok (.iconst 1, 1) := by decide +kernel
theorem dX2_edge_118 : decode cX2_edge 118 = .ok (.goto 4, 3) := by decide +kernel
theorem dX2_edge_121 : decode cX2_edge 121 = .ok (.iconst 0, 1) := by decide +kernel
theorem dX2_edge_122 : decode cX2_edge 122 = .ok (.putfield 72, 3) := by decide +kernel
theorem dX2_edge_125 : decode cX2_edge 125 = .ok (.iload 5, 2) := by decide +kernel
theorem dX2_edge_127 : decode cX2_edge 127 = .ok (.ireturn, 1) := by decide +kernel
theorem dX2_ends_0 : decode cX2_ends 0 = .ok (.aload_n 0, 1) := by decide +kernel
theorem dX2_ends_1 : decode cX2_ends 1 = .ok (.getfield 27, 3) := by decide +kernel
theorem dX2_ends_4 : decode cX2_ends 4 = .ok (.iload_n 1, 1) := by decide +kernel
theorem dX2_ends_5 : decode cX2_ends 5 = .ok (.invokevirtual 47, 3) := by decide +kernel
theorem dX2_ends_8 : decode cX2_ends 8 = .ok (.ifCond .eq 19, 3) := by decide +kernel
theorem dX2_ends_11 : decode cX2_ends 11 = .ok (.aload_n 0, 1) := by decide +kernel
theorem dX2_ends_12 : decode cX2_ends 12 = .ok (.getfield 27, 3) := by decide +kernel
theorem dX2_ends_15 : decode cX2_ends 15 = .ok (.iload_n 2, 1) := by decide +kernel
theorem dX2_ends_16 : decode cX2_ends 16 = .ok (.invokevirtual 47, 3) := by decide +kernel
theorem dX2_ends_19 : decode cX2_ends 19 = .ok (.ifCond .eq 8, 3) := by decide +kernel
theorem dX2_ends_22 : decode cX2_ends 22 = .ok (.iload_n 1, 1) := by decide +kernel
theorem dX2_ends_23 : decode cX2_ends 23 = .ok (.iload_n 2, 1) := by decide +kernel
theorem dX2_ends_24 : decode cX2_ends 24 = .ok (.if_icmp .ne 5, 3) := by decide +kernel
theorem dX2_ends_27 : decode cX2_ends 27 = .ok (.iconst 0, 1) := by decide +kernel
theorem dX2_ends_28 : decode cX2_ends 28 = .ok (.ireturn, 1) := by decide +kernel
theorem dX2_ends_29 : decode cX2_ends 29 = .ok (.aload_n 0, 1) := by decide +kernel
theorem dX2_ends_30 : decode cX2_ends 30 = .ok (.invokevirtual 62, 3) := by decide +kernel
theorem dX2_ends_33 : decode cX2_ends 33 = .ok (.aload_n 0, 1) := by decide +kernel
theorem dX2_ends_34 : decode cX2_ends 34 = .ok (.iload_n 1, 1) := by decide +kernel
theorem dX2_ends_35 : decode cX2_ends 35 = .ok (.putfield 11, 3) := by decide +kernel
theorem dX2_ends_38 : decode cX2_ends 38 = .ok (.aload_n 0, 1) := by decide +kernel
theorem dX2_ends_39 : decode cX2_ends 39 = .ok (.iload_n 2, 1) := by decide +kernel
theorem dX2_ends_40 : decode cX2_ends 40 = .ok (.putfield 15, 3) := by decide +kernel
theorem dX2_ends_43 : decode cX2_ends 43 = .ok (.iconst 1, 1) := by decide +kernel
theorem dX2_ends_44 : decode cX2_ends 44 = .ok (.ireturn, 1) := by decide +kernel
theorem dX2_run_0 : decode cX2_run 0 = .ok (.iload_n 1, 1) := by decide +kernel
theorem dX2_run_1 : decode cX2_run 1 = .ok (.ifCond .lt 10, 3) := by decide +kernel
theorem dX2_run_4 : decode cX2_run 4 = .ok (.iload_n 1, 1) := by decide +kernel
theorem dX2_run_5 : decode cX2_run 5 = .ok (.sipush 10000, 3) := by decide +kernel
theorem dX2_run_8 : decode cX2_run 8 = .ok (.if_icmp .le 5, 3) := by decide +kernel
theorem dX2_run_11 : decode cX2_run 11 = .ok (.iconst (-1), 1) := by decide +kernel
theorem dX2_run_12 : decode cX2_run 12 = .ok (.ireturn, 1) := by decide +kernel
theorem dX2_run_13 : decode cX2_run 13 = .ok (.aload_n 0, 1) := by decide +kernel
theorem dX2_run_14 : decode cX2_run 14 = .ok (.getfield 11, 3) := by decide +kernel
theorem dX2_run_17 : decode cX2_run 17 = .ok (.iconst (-1), 1) := by decide +kernel
theorem dX2_run_18 : decode cX2_run 18 = .ok (.if_icmp .ne 5, 3) := by decide +kernel
theorem dX2_run_21 : decode cX2_run 21 = .ok (.iconst 2, 1) := by decide +kernel
theorem dX2_run_22 : decode cX2_run 22 = .ok (.ireturn, 1) := by decide +kernel
theorem dX2_run_23 : decode cX2_run 23 = .ok (.aload_n 0, 1) := by decide +kernel
theorem dX2_run_24 : decode cX2_run 24 = .ok (.getfield 72, 3) := by decide +kernel
theorem dX2_run_27 : decode cX2_run 27 = .ok (.ifCond .eq 5, 3) := by decide +kernel
theorem dX2_run_30 : decode cX2_run 30 = .ok (.iconst 3, 1) := by decide +kernel
theorem dX2_run_31 : decode cX2_run 31 = .ok (.ireturn, 1) := by decide +kernel
theorem dX2_run_32 : decode cX2_run 32 = .ok (.aload_n 0, 1) := by decide +kernel
theorem dX2_run_33 : decode cX2_run 33 = .ok (.getfield 76, 3) := by decide +kernel
theorem dX2_run_36 : decode cX2_run 36 = .ok (.ifCond .eq 5, 3) := by decide +kernel
theorem dX2_run_39 : decode cX2_run 39 = .ok (.iconst 0, 1) := by decide +kernel
theorem dX2_run_40 : decode cX2_run 40 = .ok (.ireturn, 1) := by decide +kernel
theorem dX2_run_41 : decode cX2_run 41 = .ok (.aload_n 0, 1) := by decide +kernel
theorem dX2_run_42 : decode cX2_run 42 = .ok (.invokevirtual 79, 3) := by decide +kernel
theorem dX2_run_45 : decode cX2_run 45 = .ok (.istore_n 2, 1) := by decide +kernel
theorem dX2_run_46 : decode cX2_run 46 = .ok (.iconst 0, 1) := by decide +kernel
theorem dX2_run_47 : decode cX2_run 47 = .ok (.istore_n 3, 1) := by decide +kernel
theorem dX2_run_48 : decode cX2_run 48 = .ok (.iload_n 3, 1) := by decide +kernel
theorem dX2_run_49 : decode cX2_run 49 = .ok (.iload_n 1, 1) := by decide +kernel
theorem dX2_run_50 : decode cX2_run 50 = .ok (.if_icmp .ge 22, 3) := by decide +kernel
theorem dX2_run_53 : decode cX2_run 53 = .ok (.iload_n 2, 1) := by decide +kernel
theorem dX2_run_54 : decode cX2_run 54 = .ok (.ifCond .eq 18, 3) := by decide +kernel
theorem dX2_run_57 : decode cX2_run 57 = .ok (.aload_n 0, 1) := by decide +kernel
theorem dX2_run_58 : decode cX2_run 58 = .ok (.invokevirtual 82, 3) := by decide +kernel
theorem dX2_run_61 : decode cX2_run 61 = .ok (.aload_n 0, 1) := by decide +kernel
theorem dX2_run_62 : decode cX2_run 62 = .ok (.invokevirtual 79, 3) := by decide +kernel
theorem dX2_run_65 : decode cX2_run 65 = .ok (.istore_n 2, 1) := by decide +kernel
theorem dX2_run_66 : decode cX2_run 66 = .ok (.iinc 3 1, 3) := by decide +kernel
theorem dX2_run_69 : decode cX2_run 69 = .ok (.goto (-21), 3) := by decide +kernel
theorem dX2_run_72 : decode cX2_run 72 = .ok (.iload_n 2, 1) := by decide +kernel
theorem dX2_run_73 : decode cX2_run 73 = .ok (.ifCond .eq 5, 3) := by decide +kernel
theorem dX2_run_76 : decode cX2_run 76 = .ok (.iconst 1, 1) := by decide +kernel
theorem dX2_run_77 : decode cX2_run 77 = .ok (.ireturn, 1) := by decide +kernel
theorem dX2_run_78 : decode cX2_run 78 = .ok (.aload_n 0, 1) := by decide +kernel
theorem dX2_run_79 : decode cX2_run 79 = .ok (.iconst 1, 1) := by decide +kernel
theorem dX2_run_80 : decode cX2_run 80 = .ok (.putfield 76, 3) := by decide +kernel
theorem dX2_run_83 : decode cX2_run 83 = .ok (.aload_n 0, 1) := by decide +kernel
theorem dX2_run_84 : decode cX2_run 84 = .ok (.getfield 36, 3) := by decide +kernel
theorem dX2_run_87 : decode cX2_run 87 = .ok (.aload_n 0, 1) := by decide +kernel
theorem dX2_run_88 : decode cX2_run 88 = .ok (.getfield 11, 3) := by decide +kernel
theorem dX2_run_91 : decode cX2_run 91 = .ok (.invokevirtual 85, 3) := by decide +kernel
theorem dX2_run_94 : decode cX2_run 94 = .ok (.iconst 0, 1) := by decide +kernel
theorem dX2_run_95 : decode cX2_run 95 = .ok (.ireturn, 1) := by decide +kernel
theorem dX2_value_0 : decode cX2_value 0 = .ok (.aload_n 0, 1) := by decide +kernel
theorem dX2_value_1 : decode cX2_value 1 = .ok (.getfield 76, 3) := by decide +kernel
theorem dX2_value_4 : decode cX2_value 4 = .ok (.ifCond .eq 10, 3) := by decide +kernel
theorem dX2_value_7 : decode cX2_value 7 = .ok (.aload_n 0, 1) := by decide +kernel
theorem dX2_value_8 : decode cX2_value 8 = .ok (.getfield 89, 3) := by decide +kernel
theorem dX2_value_11 : decode cX2_value 11 = .ok (.goto 4, 3) := by decide +kernel
theorem dX2_value_14 : decode cX2_value 14 = .ok (.iconst (-1), 1) := by decide +kernel
theorem dX2_value_15 : decode cX2_value 15 = .ok (.ireturn, 1) := by decide +kernel
theorem dX2_cost_0 : decode cX2_cost 0 = .ok (.aload_n 0, 1) := by decide +kernel
theorem dX2_cost_1 : decode cX2_cost 1 = .ok (.getfield 76, 3) := by decide +kernel
theorem dX2_cost_4 : decode cX2_cost 4 = .ok (.ifCond .eq 13, 3) := by decide +kernel
theorem dX2_cost_7 : decode cX2_cost 7 = .ok (.aload_n 0, 1) := by decide +kernel
theorem dX2_cost_8 : decode cX2_cost 8 = .ok (.getfield 27, 3) := by decide +kernel
theorem dX2_cost_11 : decode cX2_cost 11 = .ok (.invokevirtual 92, 3) := by decide +kernel
theorem dX2_cost_14 : decode cX2_cost 14 = .ok (.goto 4, 3) := by decide +kernel
theorem dX2_cost_17 : decode cX2_cost 17 = .ok (.lconst 0, 1) := by decide +kernel
theorem dX2_cost_18 : decode cX2_cost 18 = .ok (.lreturn, 1) := by decide +kernel
theorem dX2_flow_0 : decode cX2_flow 0 = .ok (.aload_n 0, 1) := by decide +kernel
theorem dX2_flow_1 : decode cX2_flow 1 = .ok (.getfield 27, 3) := by decide +kernel
theorem dX2_flow_4 : decode cX2_flow 4 = .ok (.iload_n 1, 1) := by decide +kernel
theorem dX2_flow_5 : decode cX2_flow 5 = .ok (.invokevirtual 95, 3) := by decide +kernel
theorem dX2_flow_8 : decode cX2_flow 8 = .ok (.ifCond .eq 15, 3) := by decide +kernel
theorem dX2_flow_11 : decode cX2_flow 11 = .ok (.aload_n 0, 1) := by decide +kernel
theorem dX2_flow_12 : decode cX2_flow 12 = .ok (.getfield 27, 3) := by decide +kernel
theorem dX2_flow_15 : decode cX2_flow 15 = .ok (.getfield 98, 3) := by decide +kernel
theorem dX2_flow_18 : decode cX2_flow 18 = .ok (.iload_n 1, 1) := by decide +kernel
theorem dX2_flow_19 : decode cX2_flow 19 = .ok (.iaload, 1) := by decide +kernel
theorem dX2_flow_20 : decode cX2_flow 20 = .ok (.goto 4, 3) := by decide +kernel
theorem dX2_flow_23 : decode cX2_flow 23 = .ok (.iconst (-1), 1) := by decide +kernel
theorem dX2_flow_24 : decode cX2_flow 24 = .ok (.ireturn, 1) := by decide +kernel
theorem dX2_potential_0 : decode cX2_potential 0 = .ok (.aload_n 0, 1) := by decide +kernel
theorem dX2_potential_1 : decode cX2_potential 1 = .ok (.getfield 76, 3) := by decide +kernel
theorem dX2_potential_4 : decode cX2_potential 4 = .ok (.ifCond .eq 26, 3) := by decide +kernel
theorem dX2_potential_7 : decode cX2_potential 7 = .ok (.aload_n 0, 1) := by decide +kernel
theorem dX2_potential_8 : decode cX2_potential 8 = .ok (.getfield 27, 3) := by decide +kernel
theorem dX2_potential_11 : decode cX2_potential 11 = .ok (.iload_n 1, 1) := by decide +kernel
theorem dX2_potential_12 : decode cX2_potential 12 = .ok (.invokevirtual 47, 3) := by decide +kernel
theorem dX2_potential_15 : decode cX2_potential 15 = .ok (.ifCond .eq 15, 3) := by decide +kernel
theorem dX2_potential_18 : decode cX2_potential 18 = .ok (.aload_n 0, 1) := by decide +kernel
theorem dX2_potential_19 : decode cX2_potential 19 = .ok (.getfield 36, 3) := by decide +kernel
theorem dX2_potential_22 : decode cX2_potential 22 = .ok (.getfield 101, 3) := by decide +kernel
theorem dX2_potential_25 : decode cX2_potential 25 = .ok (.iload_n 1, 1) := by decide +kernel
theorem dX2_potential_26 : decode cX2_potential 26 = .ok (.iaload, 1) := by decide +kernel
theorem dX2_potential_27 : decode cX2_potential 27 = .ok (.goto 4, 3) := by decide +kernel
theorem dX2_potential_30 : decode cX2_potential 30 = .ok (.iconst (-1), 1) := by decide +kernel
theorem dX2_potential_31 : decode cX2_potential 31 = .ok (.ireturn, 1) := by decide +kernel
theorem dX2_inCut_0 : decode cX2_inCut 0 = .ok (.aload_n 0, 1) := by decide +kernel
theorem dX2_inCut_1 : decode cX2_inCut 1 = .ok (.getfield 76, 3) := by decide +kernel
theorem dX2_inCut_4 : decode cX2_inCut 4 = .ok (.ifCond .eq 29, 3) := by decide +kernel
theorem dX2_inCut_7 : decode cX2_inCut 7 = .ok (.aload_n 0, 1) := by decide +kernel
theorem dX2_inCut_8 : decode cX2_inCut 8 = .ok (.getfield 27, 3) := by decide +kernel
theorem dX2_inCut_11 : decode cX2_inCut 11 = .ok (.iload_n 1, 1) := by decide +kernel
theorem dX2_inCut_12 : decode cX2_inCut 12 = .ok (.invokevirtual 47, 3) := by decide +kernel
theorem dX2_inCut_15 : decode cX2_inCut 15 = .ok (.ifCond .eq 18, 3) := by decide +kernel
theorem dX2_inCut_18 : decode cX2_inCut 18 = .ok (.aload_n 0, 1) := by decide +kernel
theorem dX2_inCut_19 : decode cX2_inCut 19 = .ok (.getfield 36, 3) := by decide +kernel
theorem dX2_inCut_22 : decode cX2_inCut 22 = .ok (.iload_n 1, 1) := by decide +kernel
theorem dX2_inCut_23 : decode cX2_inCut 23 = .ok (.invokevirtual 104, 3) := by decide +kernel
theorem dX2_inCut_26 : decode cX2_inCut 26 = .ok (.ifCond .eq 7, 3) := by decide +kernel
theorem dX2_inCut_29 : decode cX2_inCut 29 = .ok (.iconst 1, 1) := by decide +kernel
theorem dX2_inCut_30 : decode cX2_inCut 30 = .ok (.goto 4, 3) := by decide +kernel
theorem dX2_inCut_33 : decode cX2_inCut 33 = .ok (.iconst 0, 1) := by decide +kernel
theorem dX2_inCut_34 : decode cX2_inCut 34 = .ok (.ireturn, 1) := by decide +kernel
theorem dX2_check_0 : decode cX2_check 0 = .ok (.aload_n 0, 1) := by decide +kernel
theorem dX2_check_1 : decode cX2_check 1 = .ok (.getfield 76, 3) := by decide +kernel
theorem dX2_check_4 : decode cX2_check 4 = .ok (.ifCond .eq 35, 3) := by decide +kernel
theorem dX2_check_7 : decode cX2_check 7 = .ok (.aload_n 0, 1) := by decide +kernel
theorem dX2_check_8 : decode cX2_check 8 = .ok (.invokevirtual 107, 3) := by decide +kernel
theorem dX2_check_11 : decode cX2_check 11 = .ok (.ifCond .eq 28, 3) := by decide +kernel
theorem dX2_check_14 : decode cX2_check 14 = .ok (.aload_n 0, 1) := by decide +kernel
theorem dX2_check_15 : decode cX2_check 15 = .ok (.invokevirtual 110, 3) := by decide +kernel
theorem dX2_check_18 : decode cX2_check 18 = .ok (.ifCond .eq 21, 3) := by decide +kernel
theorem dX2_check_21 : decode cX2_check 21 = .ok (.aload_n 0, 1) := by decide +kernel
theorem dX2_check_22 : decode cX2_check 22 = .ok (.invokevirtual 113, 3) := by decide +kernel
theorem dX2_check_25 : decode cX2_check 25 = .ok (.ifCond .eq 14, 3) := by decide +kernel
theorem dX2_check_28 : decode cX2_check 28 = .ok (.aload_n 0, 1) := by decide +kernel
theorem dX2_check_29 : decode cX2_check 29 = .ok (.invokevirtual 116, 3) := by decide +kernel
theorem dX2_check_32 : decode cX2_check 32 = .ok (.ifCond .eq 7, 3) := by decide +kernel
theorem dX2_check_35 : decode cX2_check 35 = .ok (.iconst 1, 1) := by decide +kernel
theorem dX2_check_36 : decode cX2_check 36 = .ok (.goto 4, 3) := by decide +kernel
theorem dX2_check_39 : decode cX2_check 39 = .ok (.iconst 0, 1) := by decide +kernel
theorem dX2_check_40 : decode cX2_check 40 = .ok (.ireturn, 1) := by decide +kernel
theorem dX2_next_0 : decode cX2_next 0 = .ok (.aload_n 0, 1) := by decide +kernel
theorem dX2_next_1 : decode cX2_next 1 = .ok (.getfield 11, 3) := by decide +kernel
theorem dX2_next_4 : decode cX2_next 4 = .ok (.iconst (-1), 1) := by decide +kernel
theorem dX2_next_5 : decode cX2_next 5 = .ok (.if_icmp .eq 17, 3) := by decide +kernel
theorem dX2_next_8 : decode cX2_next 8 = .ok (.aload_n 0, 1) := by decide +kernel
theorem dX2_next_9 : decode cX2_next 9 = .ok (.getfield 72, 3) := by decide +kernel
theorem dX2_next_12 : decode cX2_next 12 = .ok (.ifCond .ne 10, 3) := by decide +kernel
theorem dX2_next_15 : decode cX2_next 15 = .ok (.aload_n 0, 1) := by decide +kernel
theorem dX2_next_16 : decode cX2_next 16 = .ok (.getfield 76, 3) := by decide +kernel
theorem dX2_next_19 : decode cX2_next 19 = .ok (.ifCond .eq 5, 3) := by decide +kernel
theorem dX2_next_22 : decode cX2_next 22 = .ok (.iconst (-1), 1) := by decide +kernel
theorem dX2_next_23 : decode cX2_next 23 = .ok (.ireturn, 1) := by decide +kernel
theorem dX2_next_24 : decode cX2_next 24 = .ok (.aload_n 0, 1) := by decide +kernel
theorem dX2_next_25 : decode cX2_next 25 = .ok (.invokevirtual 79, 3) := by decide +kernel
theorem dX2_next_28 : decode cX2_next 28 = .ok (.ifCond .eq 18, 3) := by decide +kernel
theorem dX2_next_31 : decode cX2_next 31 = .ok (.aload_n 0, 1) := by decide +kernel
theorem dX2_next_32 : decode cX2_next 32 = .ok (.getfield 40, 3) := by decide +kernel
theorem dX2_next_35 : decode cX2_next 35 = .ok (.getfield 101, 3) := by decide +kernel
theorem dX2_next_38 : decode cX2_next 38 = .ok (.aload_n 0, 1) := by decide +kernel
theorem dX2_next_39 : decode cX2_next 39 = .ok (.getfield 11, 3) := by decide +kernel
theorem dX2_next_42 : decode cX2_next 42 = .ok (.iaload, 1) := by decide +kernel
theorem dX2_next_43 : decode cX2_next 43 = .ok (.goto 4, 3) := by decide +kernel
theorem dX2_next_46 : decode cX2_next 46 = .ok (.iconst (-1), 1) := by decide +kernel
theorem dX2_next_47 : decode cX2_next 47 = .ok (.ireturn, 1) := by decide +kernel
theorem dX2_count_0 : decode cX2_count 0 = .ok (.iload_n 1, 1) := by decide +kernel
theorem dX2_count_1 : decode cX2_count 1 = .ok (.tableswitch 57 0 3 #[31, 39, 47, 52], 31) := by decide +kernel
theorem dX2_count_32 : decode cX2_count 32 = .ok (.aload_n 0, 1) := by decide +kernel
theorem dX2_count_33 : decode cX2_count 33 = .ok (.getfield 27, 3) := by decide +kernel
theorem dX2_count_36 : decode cX2_count 36 = .ok (.getfield 119, 3) := by decide +kernel
theorem dX2_count_39 : decode cX2_count 39 = .ok (.ireturn, 1) := by decide +kernel
theorem dX2_count_40 : decode cX2_count 40 = .ok (.aload_n 0, 1) := by decide +kernel
theorem dX2_count_41 : decode cX2_count 41 = .ok (.getfield 27, 3) := by decide +kernel
theorem dX2_count_44 : decode cX2_count 44 = .ok (.getfield 122, 3) := by decide +kernel
theorem dX2_count_47 : decode cX2_count 47 = .ok (.ireturn, 1) := by decide +kernel
theorem dX2_count_48 : decode cX2_count 48 = .ok (.aload_n 0, 1) := by decide +kernel
theorem dX2_count_49 : decode cX2_count 49 = .ok (.getfield 125, 3) := by decide +kernel
theorem dX2_count_52 : decode cX2_count 52 = .ok (.ireturn, 1) := by decide +kernel
theorem dX2_count_53 : decode cX2_count 53 = .ok (.aload_n 0, 1) := by decide +kernel
theorem dX2_count_54 : decode cX2_count 54 = .ok (.getfield 89, 3) := by decide +kernel
theorem dX2_count_57 : decode cX2_count 57 = .ok (.ireturn, 1) := by decide +kernel
theorem dX2_count_58 : decode cX2_count 58 = .ok (.iconst (-1), 1) := by decide +kernel
theorem dX2_count_59 : decode cX2_count 59 = .ok (.ireturn, 1) := by decide +kernel
theorem dX2_within_0 : decode cX2_within 0 = .ok (.iload_n 1, 1) := by decide +kernel
theorem dX2_within_1 : decode cX2_within 1 = .ok (.iload_n 2, 1) := by decide +kernel
theorem dX2_within_2 : decode cX2_within 2 = .ok (.iload_n 0, 1) := by decide +kernel
theorem dX2_within_3 : decode cX2_within 3 = .ok (.invokestatic 128, 3) := by decide +kernel
theorem dX2_within_6 : decode cX2_within 6 = .ok (.invokestatic 134, 3) := by decide +kernel
theorem dX2_within_9 : decode cX2_within 9 = .ok (.ireturn, 1) := by decide +kernel
theorem dX2_forgetSolving_0 : decode cX2_forgetSolving 0 = .ok (.aload_n 0, 1) := by decide +kernel
theorem dX2_forgetSolving_1 : decode cX2_forgetSolving 1 = .ok (.getfield 27, 3) := by decide +kernel
theorem dX2_forgetSolving_4 : decode cX2_forgetSolving 4 = .ok (.invokevirtual 137, 3) := by decide +kernel
theorem dX2_forgetSolving_7 : decode cX2_forgetSolving 7 = .ok (.aload_n 0, 1) := by decide +kernel
theorem dX2_forgetSolving_8 : decode cX2_forgetSolving 8 = .ok (.iconst 0, 1) := by decide +kernel
theorem dX2_forgetSolving_9 : decode cX2_forgetSolving 9 = .ok (.putfield 76, 3) := by decide +kernel
theorem dX2_forgetSolving_12 : decode cX2_forgetSolving 12 = .ok (.aload_n 0, 1) := by decide +kernel
theorem dX2_forgetSolving_13 : decode cX2_forgetSolving 13 = .ok (.iconst 0, 1) := by decide +kernel
theorem dX2_forgetSolving_14 : decode cX2_forgetSolving 14 = .ok (.putfield 125, 3) := by decide +kernel
theorem dX2_forgetSolving_17 : decode cX2_forgetSolving 17 = .ok (.aload_n 0, 1) := by decide +kernel
theorem dX2_forgetSolving_18 : decode cX2_forgetSolving 18 = .ok (.iconst 0, 1) := by decide +kernel
theorem dX2_forgetSolving_19 : decode cX2_forgetSolving 19 = .ok (.putfield 89, 3) := by decide +kernel
theorem dX2_forgetSolving_22 : decode cX2_forgetSolving 22 = .ok (.return_, 1) := by decide +kernel
theorem dX2_findWay_0 : decode cX2_findWay 0 = .ok (.aload_n 0, 1) := by decide +kernel
theorem dX2_findWay_1 : decode cX2_findWay 1 = .ok (.getfield 40, 3) := by decide +kernel
theorem dX2_findWay_4 : decode cX2_findWay 4 = .ok (.aload_n 0, 1) := by decide +kernel
theorem dX2_findWay_5 : decode cX2_findWay 5 = .ok (.getfield 15, 3) := by decide +kernel
theorem dX2_findWay_8 : decode cX2_findWay 8 = .ok (.invokevirtual 140, 3) := by decide +kernel
theorem dX2_findWay_11 : decode cX2_findWay 11 = .ok (.aload_n 0, 1) := by decide +kernel
theorem dX2_findWay_12 : decode cX2_findWay 12 = .ok (.getfield 40, 3) := by decide +kernel
theorem dX2_findWay_15 : decode cX2_findWay 15 = .ok (.aload_n 0, 1) := by decide +kernel
theorem dX2_findWay_16 : decode cX2_findWay 16 = .ok (.getfield 11, 3) := by decide +kernel
theorem dX2_findWay_19 : decode cX2_findWay 19 = .ok (.invokevirtual 104, 3) := by decide +kernel
theorem dX2_findWay_22 : decode cX2_findWay 22 = .ok (.ireturn, 1) := by decide +kernel
theorem dX2_doRound_0 : decode cX2_doRound 0 = .ok (.aload_n 0, 1) := by decide +kernel
theorem dX2_doRound_1 : decode cX2_doRound 1 = .ok (.invokevirtual 143, 3) := by decide +kernel
theorem dX2_doRound_4 : decode cX2_doRound 4 = .ok (.aload_n 0, 1) := by decide +kernel
theorem dX2_doRound_5 : decode cX2_doRound 5 = .ok (.invokevirtual 146, 3) := by decide +kernel
theorem dX2_doRound_8 : decode cX2_doRound 8 = .ok (.istore_n 1, 1) := by decide +kernel
theorem dX2_doRound_9 : decode cX2_doRound 9 = .ok (.iconst 0, 1) := by decide +kernel
theorem dX2_doRound_10 : decode cX2_doRound 10 = .ok (.istore_n 2, 1) := by decide +kernel
theorem dX2_doRound_11 : decode cX2_doRound 11 = .ok (.iload_n 2, 1) := by decide +kernel
theorem dX2_doRound_12 : decode cX2_doRound 12 = .ok (.aload_n 0, 1) := by decide +kernel
theorem dX2_doRound_13 : decode cX2_doRound 13 = .ok (.getfield 150, 3) := by decide +kernel
theorem dX2_doRound_16 : decode cX2_doRound 16 = .ok (.if_icmp .ge 23, 3) := by decide +kernel
theorem dX2_doRound_19 : decode cX2_doRound 19 = .ok (.aload_n 0, 1) := by decide +kernel
theorem dX2_doRound_20 : decode cX2_doRound 20 = .ok (.getfield 27, 3) := by decide +kernel
theorem dX2_doRound_23 : decode cX2_doRound 23 = .ok (.aload_n 0, 1) := by decide +kernel
theorem dX2_doRound_24 : decode cX2_doRound 24 = .ok (.getfield 43, 3) := by decide +kernel
theorem dX2_doRound_27 : decode cX2_doRound 27 = .ok (.iload_n 2, 1) := by decide +kernel
theorem dX2_doRound_28 : decode cX2_doRound 28 = .ok (.iaload, 1) := by decide +kernel
theorem dX2_doRound_29 : decode cX2_doRound 29 = .ok (.iload_n 1, 1) := by decide +kernel
theorem dX2_doRound_30 : decode cX2_doRound 30 = .ok (.invokevirtual 153, 3) := by decide +kernel
theorem dX2_doRound_33 : decode cX2_doRound 33 = .ok (.iinc 2 1, 3) := by decide +kernel
theorem dX2_doRound_36 : decode cX2_doRound 36 = .ok (.goto (-25), 3) := by decide +kernel
theorem dX2_doRound_39 : decode cX2_doRound 39 = .ok (.aload_n 0, 1) := by decide +kernel
theorem dX2_doRound_40 : decode cX2_doRound 40 = .ok (.dup, 1) := by decide +kernel
theorem dX2_doRound_41 : decode cX2_doRound 41 = .ok (.getfield 89, 3) := by decide +kernel
theorem dX2_doRound_44 : decode cX2_doRound 44 = .ok (.iload_n 1, 1) := by decide +kernel
theorem dX2_doRound_45 : decode cX2_doRound 45 = .ok (.iadd, 1) := by decide +kernel
theorem dX2_doRound_46 : decode cX2_doRound 46 = .ok (.putfield 89, 3) := by decide +kernel
theorem dX2_doRound_49 : decode cX2_doRound 49 = .ok (.aload_n 0, 1) := by decide +kernel
theorem dX2_doRound_50 : decode cX2_doRound 50 = .ok (.dup, 1) := by decide +kernel
theorem dX2_doRound_51 : decode cX2_doRound 51 = .ok (.getfield 125, 3) := by decide +kernel
theorem dX2_doRound_54 : decode cX2_doRound 54 = .ok (.iconst 1, 1) := by decide +kernel
theorem dX2_doRound_55 : decode cX2_doRound 55 = .ok (.iadd, 1) := by decide +kernel
theorem dX2_doRound_56 : decode cX2_doRound 56 = .ok (.putfield 125, 3) := by decide +kernel
theorem dX2_doRound_59 : decode cX2_doRound 59 = .ok (.return_, 1) := by decide +kernel
theorem dX2_traceWay_0 : decode cX2_traceWay 0 = .ok (.aload_n 0, 1) := by decide +kernel
theorem dX2_traceWay_1 : decode cX2_traceWay 1 = .ok (.iconst 0, 1) := by decide +kernel
theorem dX2_traceWay_2 : decode cX2_traceWay 2 = .ok (.putfield 150, 3) := by decide +kernel
theorem dX2_traceWay_5 : decode cX2_traceWay 5 = .ok (.aload_n 0, 1) := by decide +kernel
theorem dX2_traceWay_6 : decode cX2_traceWay 6 = .ok (.getfield 11, 3) := by decide +kernel
theorem dX2_traceWay_9 : decode cX2_traceWay 9 = .ok (.istore_n 1, 1) := by decide +kernel
theorem dX2_traceWay_10 : decode cX2_traceWay 10 = .ok (.iload_n 1, 1) := by decide +kernel
theorem dX2_traceWay_11 : decode cX2_traceWay 11 = .ok (.aload_n 0, 1) := by decide +kernel
theorem dX2_traceWay_12 : decode cX2_traceWay 12 = .ok (.getfield 15, 3) := by decide +kernel
theorem dX2_traceWay_15 : decode cX2_traceWay 15 = .ok (.if_icmp .eq 62, 3) := by decide +kernel
theorem dX2_traceWay_18 : decode cX2_traceWay 18 = .ok (.aload_n 0, 1) := by decide +kernel
theorem dX2_traceWay_19 : decode cX2_traceWay 19 = .ok (.getfield 150, 3) := by decide +kernel
theorem dX2_traceWay_22 : decode cX2_traceWay 22 = .ok (.aload_n 0, 1) := by decide +kernel
theorem dX2_traceWay_23 : decode cX2_traceWay 23 = .ok (.getfield 43, 3) := by decide +kernel
theorem dX2_traceWay_26 : decode cX2_traceWay 26 = .ok (.arraylength, 1) := by decide +kernel
theorem dX2_traceWay_27 : decode cX2_traceWay 27 = .ok (.if_icmp .ge 50, 3) := by decide +kernel
theorem dX2_traceWay_30 : decode cX2_traceWay 30 = .ok (.aload_n 0, 1) := by decide +kernel
theorem dX2_traceWay_31 : decode cX2_traceWay 31 = .ok (.getfield 40, 3) := by decide +kernel
theorem dX2_traceWay_34 : decode cX2_traceWay 34 = .ok (.iload_n 1, 1) := by decide +kernel
theorem dX2_traceWay_35 : decode cX2_traceWay 35 = .ok (.invokevirtual 156, 3) := by decide +kernel
theorem dX2_traceWay_38 : decode cX2_traceWay 38 = .ok (.istore_n 2, 1) := by decide +kernel
theorem dX2_traceWay_39 : decode cX2_traceWay 39 = .ok (.iload_n 2, 1) := by decide +kernel
theorem dX2_traceWay_40 : decode cX2_traceWay 40 = .ok (.iconst (-1), 1) := by decide +kernel
theorem dX2_traceWay_41 : decode cX2_traceWay 41 = .ok (.if_icmp .ne 4, 3) := by decide +kernel
theorem dX2_traceWay_44 : decode cX2_traceWay 44 = .ok (.return_, 1) := by decide +kernel
theorem dX2_traceWay_45 : decode cX2_traceWay 45 = .ok (.aload_n 0, 1) := by decide +kernel
theorem dX2_traceWay_46 : decode cX2_traceWay 46 = .ok (.getfield 43, 3) := by decide +kernel
theorem dX2_traceWay_49 : decode cX2_traceWay 49 = .ok (.aload_n 0, 1) := by decide +kernel
theorem dX2_traceWay_50 : decode cX2_traceWay 50 = .ok (.getfield 150, 3) := by decide +kernel
theorem dX2_traceWay_53 : decode cX2_traceWay 53 = .ok (.iload_n 2, 1) := by decide +kernel
theorem dX2_traceWay_54 : decode cX2_traceWay 54 = .ok (.iastore, 1) := by decide +kernel
theorem dX2_traceWay_55 : decode cX2_traceWay 55 = .ok (.aload_n 0, 1) := by decide +kernel
theorem dX2_traceWay_56 : decode cX2_traceWay 56 = .ok (.dup, 1) := by decide +kernel
theorem dX2_traceWay_57 : decode cX2_traceWay 57 = .ok (.getfield 150, 3) := by decide +kernel
theorem dX2_traceWay_60 : decode cX2_traceWay 60 = .ok (.iconst 1, 1) := by decide +kernel
theorem dX2_traceWay_61 : decode cX2_traceWay 61 = .ok (.iadd, 1) := by decide +kernel
theorem dX2_traceWay_62 : decode cX2_traceWay 62 = .ok (.putfield 150, 3) := by decide +kernel
theorem dX2_traceWay_65 : decode cX2_traceWay 65 = .ok (.aload_n 0, 1) := by decide +kernel
theorem dX2_traceWay_66 : decode cX2_traceWay 66 = .ok (.getfield 27, 3) := by decide +kernel
theorem dX2_traceWay_69 : decode cX2_traceWay 69 = .ok (.iload_n 2, 1) := by decide +kernel
theorem dX2_traceWay_70 : decode cX2_traceWay 70 = .ok (.invokevirtual 160, 3) := by decide +kernel
theorem dX2_traceWay_73 : decode cX2_traceWay 73 = .ok (.istore_n 1, 1) := by decide +kernel
theorem dX2_traceWay_74 : decode cX2_traceWay 74 = .ok (.goto (-64), 3) := by decide +kernel
theorem dX2_traceWay_77 : decode cX2_traceWay 77 = .ok (.return_, 1) := by decide +kernel
theorem dX2_leastOnWay_0 : decode cX2_leastOnWay 0 = .ok (.aload_n 0, 1) := by decide +kernel
theorem dX2_leastOnWay_1 : decode cX2_leastOnWay 1 = .ok (.getfield 150, 3) := by decide +kernel
theorem dX2_leastOnWay_4 : decode cX2_leastOnWay 4 = .ok (.ifCond .ne 5, 3) := by decide +kernel
theorem dX2_leastOnWay_7 : decode cX2_leastOnWay 7 = .ok (.iconst 0, 1) := by decide +kernel
theorem dX2_leastOnWay_8 : decode cX2_leastOnWay 8 = .ok (.ireturn, 1) := by decide +kernel
theorem dX2_leastOnWay_9 : decode cX2_leastOnWay 9 = .ok (.aload_n 0, 1) := by decide +kernel
theorem dX2_leastOnWay_10 : decode cX2_leastOnWay 10 = .ok (.getfield 27, 3) := by decide +kernel
theorem dX2_leastOnWay_13 : decode cX2_leastOnWay 13 = .ok (.aload_n 0, 1) := by decide +kernel
theorem dX2_leastOnWay_14 : decode cX2_leastOnWay 14 = .ok (.getfield 43, 3) := by decide +kernel
theorem dX2_leastOnWay_17 : decode cX2_leastOnWay 17 = .ok (.iconst 0, 1) := by decide +kernel
theorem dX2_leastOnWay_18 : decode cX2_leastOnWay 18 = .ok (.iaload, 1) := by decide +kernel
theorem dX2_leastOnWay_19 : decode cX2_leastOnWay 19 = .ok (.invokevirtual 163, 3) := by decide +kernel
theorem dX2_leastOnWay_22 : decode cX2_leastOnWay 22 = .ok (.istore_n 1, 1) := by decide +kernel
theorem dX2_leastOnWay_23 : decode cX2_leastOnWay 23 = .ok (.iconst 1, 1) := by decide +kernel
theorem dX2_leastOnWay_24 : decode cX2_leastOnWay 24 = .ok (.istore_n 2, 1) := by decide +kernel
theorem dX2_leastOnWay_25 : decode cX2_leastOnWay 25 = .ok (.iload_n 2, 1) := by decide +kernel
theorem dX2_leastOnWay_26 : decode cX2_leastOnWay 26 = .ok (.aload_n 0, 1) := by decide +kernel
theorem dX2_leastOnWay_27 : decode cX2_leastOnWay 27 = .ok (.getfield 150, 3) := by decide +kernel
theorem dX2_leastOnWay_30 : decode cX2_leastOnWay 30 = .ok (.if_icmp .ge 27, 3) := by decide +kernel
theorem dX2_leastOnWay_33 : decode cX2_leastOnWay 33 = .ok (.iload_n 1, 1) := by decide +kernel
theorem dX2_leastOnWay_34 : decode cX2_leastOnWay 34 = .ok (.aload_n 0, 1) := by decide +kernel
theorem dX2_leastOnWay_35 : decode cX2_leastOnWay 35 = .ok (.getfield 27, 3) := by decide +kernel
theorem dX2_leastOnWay_38 : decode cX2_leastOnWay 38 = .ok (.aload_n 0, 1) := by decide +kernel
theorem dX2_leastOnWay_39 : decode cX2_leastOnWay 39 = .ok (.getfield 43, 3) := by decide +kernel
theorem dX2_leastOnWay_42 : decode cX2_leastOnWay 42 = .ok (.iload_n 2, 1) := by decide +kernel
theorem dX2_leastOnWay_43 : decode cX2_leastOnWay 43 = .ok (.iaload, 1) := by decide +kernel
theorem dX2_leastOnWay_44 : decode cX2_leastOnWay 44 = .ok (.invokevirtual 163, 3) := by decide +kernel
theorem dX2_leastOnWay_47 : decode cX2_leastOnWay 47 = .ok (.invokestatic 128, 3) := by decide +kernel
theorem dX2_leastOnWay_50 : decode cX2_leastOnWay 50 = .ok (.istore_n 1, 1) := by decide +kernel
theorem dX2_leastOnWay_51 : decode cX2_leastOnWay 51 = .ok (.iinc 2 1, 3) := by decide +kernel
theorem dX2_leastOnWay_54 : decode cX2_leastOnWay 54 = .ok (.goto (-29), 3) := by decide +kernel
theorem dX2_leastOnWay_57 : decode cX2_leastOnWay 57 = .ok (.iload_n 1, 1) := by decide +kernel
theorem dX2_leastOnWay_58 : decode cX2_leastOnWay 58 = .ok (.ireturn, 1) := by decide +kernel
theorem dX2_flowsFit_0 : decode cX2_flowsFit 0 = .ok (.iconst 0, 1) := by decide +kernel
theorem dX2_flowsFit_1 : decode cX2_flowsFit 1 = .ok (.istore_n 1, 1) := by decide +kernel
theorem dX2_flowsFit_2 : decode cX2_flowsFit 2 = .ok (.iload_n 1, 1) := by decide +kernel
theorem dX2_flowsFit_3 : decode cX2_flowsFit 3 = .ok (.aload_n 0, 1) := by decide +kernel
theorem dX2_flowsFit_4 : decode cX2_flowsFit 4 = .ok (.getfield 27, 3) := by decide +kernel
theorem dX2_flowsFit_7 : decode cX2_flowsFit 7 = .ok (.getfield 122, 3) := by decide +kernel
theorem dX2_flowsFit_10 : decode cX2_flowsFit 10 = .ok (.if_icmp .ge 44, 3) := by decide +kernel
theorem dX2_flowsFit_13 : decode cX2_flowsFit 13 = .ok (.aload_n 0, 1) := by decide +kernel
theorem dX2_flowsFit_14 : decode cX2_flowsFit 14 = .ok (.getfield 27, 3) := by decide +kernel
theorem dX2_flowsFit_17 : decode cX2_flowsFit 17 = .ok (.getfield 98, 3) := by decide +kernel
theorem dX2_flowsFit_20 : decode cX2_flowsFit 20 = .ok (.iload_n 1, 1) := by decide +kernel
theorem dX2_flowsFit_21 : decode cX2_flowsFit 21 = .ok (.iaload, 1) := by decide +kernel
theorem dX2_flowsFit_22 : decode cX2_flowsFit 22 = .ok (.ifCond .lt 24, 3) := by decide +kernel
theorem dX2_flowsFit_25 : decode cX2_flowsFit 25 = .ok (.aload_n 0, 1) := by decide +kernel
theorem dX2_flowsFit_26 : decode cX2_flowsFit 26 = .ok (.getfield 27, 3) := by decide +kernel
theorem dX2_flowsFit_29 : decode cX2_flowsFit 29 = .ok (.getfield 98, 3) := by decide +kernel
theorem dX2_flowsFit_32 : decode cX2_flowsFit 32 = .ok (.iload_n 1, 1) := by decide +kernel
theorem dX2_flowsFit_33 : decode cX2_flowsFit 33 = .ok (.iaload, 1) := by decide +kernel
theorem dX2_flowsFit_34 : decode cX2_flowsFit 34 = .ok (.aload_n 0, 1) := by decide +kernel
theorem dX2_flowsFit_35 : decode cX2_flowsFit 35 = .ok (.getfield 27, 3) := by decide +kernel
theorem dX2_flowsFit_38 : decode cX2_flowsFit 38 = .ok (.getfield 166, 3) := by decide +kernel
theorem dX2_flowsFit_41 : decode cX2_flowsFit 41 = .ok (.iload_n 1, 1) := by decide +kernel
theorem dX2_flowsFit_42 : decode cX2_flowsFit 42 = .ok (.iaload, 1) := by decide +kernel
theorem dX2_flowsFit_43 : decode cX2_flowsFit 43 = .ok (.if_icmp .le 5, 3) := by decide +kernel
theorem dX2_flowsFit_46 : decode cX2_flowsFit 46 = .ok (.iconst 0, 1) := by decide +kernel
theorem dX2_flowsFit_47 : decode cX2_flowsFit 47 = .ok (.ireturn, 1) := by decide +kernel
theorem dX2_flowsFit_48 : decode cX2_flowsFit 48 = .ok (.iinc 1 1, 3) := by decide +kernel
theorem dX2_flowsFit_51 : decode cX2_flowsFit 51 = .ok (.goto (-49), 3) := by decide +kernel
theorem dX2_flowsFit_54 : decode cX2_flowsFit 54 = .ok (.iconst 1, 1) := by decide +kernel
theorem dX2_flowsFit_55 : decode cX2_flowsFit 55 = .ok (.ireturn, 1) := by decide +kernel
theorem dX2_nodesPassOn_0 : decode cX2_nodesPassOn 0 = .ok (.iconst 0, 1) := by decide +kernel
theorem dX2_nodesPassOn_1 : decode cX2_nodesPassOn 1 = .ok (.istore_n 1, 1) := by decide +kernel
theorem dX2_nodesPassOn_2 : decode cX2_nodesPassOn 2 = .ok (.iload_n 1, 1) := by decide +kernel
theorem dX2_nodesPassOn_3 : decode cX2_nodesPassOn 3 = .ok (.aload_n 0, 1) := by decide +kernel
theorem dX2_nodesPassOn_4 : decode cX2_nodesPassOn 4 = .ok (.getfield 27, 3) := by decide +kernel
theorem dX2_nodesPassOn_7 : decode cX2_nodesPassOn 7 = .ok (.getfield 119, 3) := by decide +kernel
theorem dX2_nodesPassOn_10 : decode cX2_nodesPassOn 10 = .ok (.if_icmp .ge 40, 3) := by decide +kernel
theorem dX2_nodesPassOn_13 : decode cX2_nodesPassOn 13 = .ok (.iload_n 1, 1) := by decide +kernel
theorem dX2_nodesPassOn_14 : decode cX2_nodesPassOn 14 = .ok (.aload_n 0, 1) := by decide +kernel
theorem dX2_nodesPassOn_15 : decode cX2_nodesPassOn 15 = .ok (.getfield 11, 3) := by decide +kernel
theorem dX2_nodesPassOn_18 : decode cX2_nodesPassOn 18 = .ok (.if_icmp .eq 26, 3) := by decide +kernel
theorem dX2_nodesPassOn_21 : decode cX2_nodesPassOn 21 = .ok (.iload_n 1, 1) := by decide +kernel
theorem dX2_nodesPassOn_22 : decode cX2_nodesPassOn 22 = .ok (.aload_n 0, 1) := by decide +kernel
theorem dX2_nodesPassOn_23 : decode cX2_nodesPassOn 23 = .ok (.getfield 15, 3) := by decide +kernel
theorem dX2_nodesPassOn_26 : decode cX2_nodesPassOn 26 = .ok (.if_icmp .eq 18, 3) := by decide +kernel
theorem dX2_nodesPassOn_29 : decode cX2_nodesPassOn 29 = .ok (.aload_n 0, 1) := by decide +kernel
theorem dX2_nodesPassOn_30 : decode cX2_nodesPassOn 30 = .ok (.getfield 27, 3) := by decide +kernel
theorem dX2_nodesPassOn_33 : decode cX2_nodesPassOn 33 = .ok (.iload_n 1, 1) := by decide +kernel
theorem dX2_nodesPassOn_34 : decode cX2_nodesPassOn 34 = .ok (.invokevirtual 169, 3) := by decide +kernel
theorem dX2_nodesPassOn_37 : decode cX2_nodesPassOn 37 = .ok (.lconst 0, 1) := by decide +kernel
theorem dX2_nodesPassOn_38 : decode cX2_nodesPassOn 38 = .ok (.lcmp, 1) := by decide +kernel
theorem dX2_nodesPassOn_39 : decode cX2_nodesPassOn 39 = .ok (.ifCond .eq 5, 3) := by decide +kernel
theorem dX2_nodesPassOn_42 : decode cX2_nodesPassOn 42 = .ok (.iconst 0, 1) := by decide +kernel
theorem dX2_nodesPassOn_43 : decode cX2_nodesPassOn 43 = .ok (.ireturn, 1) := by decide +kernel
theorem dX2_nodesPassOn_44 : decode cX2_nodesPassOn 44 = .ok (.iinc 1 1, 3) := by decide +kernel
theorem dX2_nodesPassOn_47 : decode cX2_nodesPassOn 47 = .ok (.goto (-45), 3) := by decide +kernel
theorem dX2_nodesPassOn_50 : decode cX2_nodesPassOn 50 = .ok (.iconst 1, 1) := by decide +kernel
theorem dX2_nodesPassOn_51 : decode cX2_nodesPassOn 51 = .ok (.ireturn, 1) := by decide +kernel
theorem dX2_cutIsTight_0 : decode cX2_cutIsTight 0 = .ok (.lconst 0, 1) := by decide +kernel
theorem dX2_cutIsTight_1 : decode cX2_cutIsTight 1 = .ok (.lstore_n 1, 1) := by decide +kernel
theorem dX2_cutIsTight_2 : decode cX2_cutIsTight 2 = .ok (.iconst 0, 1) := by decide +kernel
theorem dX2_cutIsTight_3 : decode cX2_cutIsTight 3 = .ok (.istore_n 3, 1) := by decide +kernel
theorem dX2_cutIsTight_4 : decode cX2_cutIsTight 4 = .ok (.iload_n 3, 1) := by decide +kernel
theorem dX2_cutIsTight_5 : decode cX2_cutIsTight 5 = .ok (.aload_n 0, 1) := by decide +kernel
theorem dX2_cutIsTight_6 : decode cX2_cutIsTight 6 = .ok (.getfield 27, 3) := by decide +kernel
theorem dX2_cutIsTight_9 : decode cX2_cutIsTight 9 = .ok (.getfield 122, 3) := by decide +kernel
theorem dX2_cutIsTight_12 : decode cX2_cutIsTight 12 = .ok (.if_icmp .ge 115, 3) := by decide +kernel
theorem dX2_cutIsTight_15 : decode cX2_cutIsTight 15 = .ok (.aload_n 0, 1) := by decide +kernel
theorem dX2_cutIsTight_16 : decode cX2_cutIsTight 16 = .ok (.getfield 36, 3) := by decide +kernel
theorem dX2_cutIsTight_19 : decode cX2_cutIsTight 19 = .ok (.aload_n 0, 1) := by decide +kernel
theorem dX2_cutIsTight_20 : decode cX2_cutIsTight 20 = .ok (.getfield 27, 3) := by decide +kernel
theorem dX2_cutIsTight_23 : decode cX2_cutIsTight 23 = .ok (.getfield 173, 3) := by decide +kernel
theorem dX2_cutIsTight_26 : decode cX2_cutIsTight 26 = .ok (.iload_n 3, 1) := by decide +kernel
theorem dX2_cutIsTight_27 : decode cX2_cutIsTight 27 = .ok (.iaload, 1) := by decide +kernel
theorem dX2_cutIsTight_28 : decode cX2_cutIsTight 28 = .ok (.invokevirtual 104, 3) := by decide +kernel
theorem dX2_cutIsTight_31 : decode cX2_cutIsTight 31 = .ok (.istore 4, 2) := by decide +kernel
theorem dX2_cutIsTight_33 : decode cX2_cutIsTight 33 = .ok (.aload_n 0, 1) := by decide +kernel
theorem dX2_cutIsTight_34 : decode cX2_cutIsTight 34 = .ok (.getfield 36, 3) := by decide +kernel
theorem dX2_cutIsTight_37 : decode cX2_cutIsTight 37 = .ok (.aload_n 0, 1) := by decide +kernel
theorem dX2_cutIsTight_38 : decode cX2_cutIsTight 38 = .ok (.getfield 27, 3) := by decide +kernel
theorem dX2_cutIsTight_41 : decode cX2_cutIsTight 41 = .ok (.getfield 176, 3) := by decide +kernel
theorem dX2_cutIsTight_44 : decode cX2_cutIsTight 44 = .ok (.iload_n 3, 1) := by decide +kernel
theorem dX2_cutIsTight_45 : decode cX2_cutIsTight 45 = .ok (.iaload, 1) := by decide +kernel
theorem dX2_cutIsTight_46 : decode cX2_cutIsTight 46 = .ok (.invokevirtual 104, 3) := by decide +kernel
theorem dX2_cutIsTight_49 : decode cX2_cutIsTight 49 = .ok (.istore 5, 2) := by decide +kernel
theorem dX2_cutIsTight_51 : decode cX2_cutIsTight 51 = .ok (.iload 4, 2) := by decide +kernel
theorem dX2_cutIsTight_53 : decode cX2_cutIsTight 53 = .ok (.ifCond .eq 44, 3) := by decide +kernel
theorem dX2_cutIsTight_56 : decode cX2_cutIsTight 56 = .ok (.iload 5, 2) := by decide +kernel
theorem dX2_cutIsTight_58 : decode cX2_cutIsTight 58 = .ok (.ifCond .ne 39, 3) := by decide +kernel
theorem dX2_cutIsTight_61 : decode cX2_cutIsTight 61 = .ok (.aload_n 0, 1) := by decide +kernel
theorem dX2_cutIsTight_62 : decode cX2_cutIsTight 62 = .ok (.getfield 27, 3) := by decide +kernel
theorem dX2_cutIsTight_65 : decode cX2_cutIsTight 65 = .ok (.getfield 98, 3) := by decide +kernel
theorem dX2_cutIsTight_68 : decode cX2_cutIsTight 68 = .ok (.iload_n 3, 1) := by decide +kernel
theorem dX2_cutIsTight_69 : decode cX2_cutIsTight 69 = .ok (.iaload, 1) := by decide +kernel
theorem dX2_cutIsTight_70 : decode cX2_cutIsTight 70 = .ok (.aload_n 0, 1) := by decide +kernel
theorem dX2_cutIsTight_71 : decode cX2_cutIsTight 71 = .ok (.getfield 27, 3) := by decide +kernel
theorem dX2_cutIsTight_74 : decode cX2_cutIsTight 74 = .ok (.getfield 166, 3) := by decide +kernel
theorem dX2_cutIsTight_77 : decode cX2_cutIsTight 77 = .ok (.iload_n 3, 1) := by decide +kernel
theorem dX2_cutIsTight_78 : decode cX2_cutIsTight 78 = .ok (.iaload, 1) := by decide +kernel
theorem dX2_cutIsTight_79 : decode cX2_cutIsTight 79 = .ok (.if_icmp .eq 5, 3) := by decide +kernel
theorem dX2_cutIsTight_82 : decode cX2_cutIsTight 82 = .ok (.iconst 0, 1) := by decide +kernel
theorem dX2_cutIsTight_83 : decode cX2_cutIsTight 83 = .ok (.ireturn, 1) := by decide +kernel
theorem dX2_cutIsTight_84 : decode cX2_cutIsTight 84 = .ok (.lload_n 1, 1) := by decide +kernel
theorem dX2_cutIsTight_85 : decode cX2_cutIsTight 85 = .ok (.aload_n 0, 1) := by decide +kernel
theorem dX2_cutIsTight_86 : decode cX2_cutIsTight 86 = .ok (.getfield 27, 3) := by decide +kernel
theorem dX2_cutIsTight_89 : decode cX2_cutIsTight 89 = .ok (.getfield 166, 3) := by decide +kernel
theorem dX2_cutIsTight_92 : decode cX2_cutIsTight 92 = .ok (.iload_n 3, 1) := by decide +kernel
theorem dX2_cutIsTight_93 : decode cX2_cutIsTight 93 = .ok (.iaload, 1) := by decide +kernel
theorem dX2_cutIsTight_94 : decode cX2_cutIsTight 94 = .ok (.i2l, 1) := by decide +kernel
theorem dX2_cutIsTight_95 : decode cX2_cutIsTight 95 = .ok (.ladd, 1) := by decide +kernel
theorem dX2_cutIsTight_96 : decode cX2_cutIsTight 96 = .ok (.lstore_n 1, 1) := by decide +kernel
theorem dX2_cutIsTight_97 : decode cX2_cutIsTight 97 = .ok (.iload 4, 2) := by decide +kernel
theorem dX2_cutIsTight_99 : decode cX2_cutIsTight 99 = .ok (.ifCond .ne 22, 3) := by decide +kernel
theorem dX2_cutIsTight_102 : decode cX2_cutIsTight 102 = .ok (.iload 5, 2) := by decide +kernel
theorem dX2_cutIsTight_104 : decode cX2_cutIsTight 104 = .ok (.ifCond .eq 17, 3) := by decide +kernel
theorem dX2_cutIsTight_107 : decode cX2_cutIsTight 107 = .ok (.aload_n 0, 1) := by decide +kernel
theorem dX2_cutIsTight_108 : decode cX2_cutIsTight 108 = .ok (.getfield 27, 3) := by decide +kernel
theorem dX2_cutIsTight_111 : decode cX2_cutIsTight 111 = .ok (.getfield 98, 3) := by decide +kernel
theorem dX2_cutIsTight_114 : decode cX2_cutIsTight 114 = .ok (.iload_n 3, 1) := by decide +kernel
theorem dX2_cutIsTight_115 : decode cX2_cutIsTight 115 = .ok (.iaload, 1) := by decide +kernel
theorem dX2_cutIsTight_116 : decode cX2_cutIsTight 116 = .ok (.ifCond .eq 5, 3) := by decide +kernel
theorem dX2_cutIsTight_119 : decode cX2_cutIsTight 119 = .ok (.iconst 0, 1) := by decide +kernel
theorem dX2_cutIsTight_120 : decode cX2_cutIsTight 120 = .ok (.ireturn, 1) := by decide +kernel
theorem dX2_cutIsTight_121 : decode cX2_cutIsTight 121 = .ok (.iinc 3 1, 3) := by decide +kernel
theorem dX2_cutIsTight_124 : decode cX2_cutIsTight 124 = .ok (.goto (-120), 3) := by decide +kernel
theorem dX2_cutIsTight_127 : decode cX2_cutIsTight 127 = .ok (.lload_n 1, 1) := by decide +kernel
theorem dX2_cutIsTight_128 : decode cX2_cutIsTight 128 = .ok (.aload_n 0, 1) := by decide +kernel
theorem dX2_cutIsTight_129 : decode cX2_cutIsTight 129 = .ok (.getfield 89, 3) := by decide +kernel
theorem dX2_cutIsTight_132 : decode cX2_cutIsTight 132 = .ok (.i2l, 1) := by decide +kernel
theorem dX2_cutIsTight_133 : decode cX2_cutIsTight 133 = .ok (.lcmp, 1) := by decide +kernel
theorem dX2_cutIsTight_134 : decode cX2_cutIsTight 134 = .ok (.ifCond .ne 7, 3) := by decide +kernel
theorem dX2_cutIsTight_137 : decode cX2_cutIsTight 137 = .ok (.iconst 1, 1) := by decide +kernel
theorem dX2_cutIsTight_138 : decode cX2_cutIsTight 138 = .ok (.goto 4, 3) := by decide +kernel
theorem dX2_cutIsTight_141 : decode cX2_cutIsTight 141 = .ok (.iconst 0, 1) := by decide +kernel
theorem dX2_cutIsTight_142 : decode cX2_cutIsTight 142 = .ok (.ireturn, 1) := by decide +kernel
theorem dX2_potentialsHold_0 : decode cX2_potentialsHold 0 = .ok (.iconst 0, 1) := by decide +kernel
theorem dX2_potentialsHold_1 : decode cX2_potentialsHold 1 = .ok (.istore_n 1, 1) := by decide +kernel
theorem dX2_potentialsHold_2 : decode cX2_potentialsHold 2 = .ok (.iload_n 1, 1) := by decide +kernel
theorem dX2_potentialsHold_3 : decode cX2_potentialsHold 3 = .ok (.aload_n 0, 1) := by decide +kernel
theorem dX2_potentialsHold_4 : decode cX2_potentialsHold 4 = .ok (.getfield 27, 3) := by decide +kernel
theorem dX2_potentialsHold_7 : decode cX2_potentialsHold 7 = .ok (.invokevirtual 179, 3) := by decide +kernel
theorem dX2_potentialsHold_10 : decode cX2_potentialsHold 10 = .ok (.if_icmp .ge 95, 3) := by decide +kernel
theorem dX2_potentialsHold_13 : decode cX2_potentialsHold 13 = .ok (.aload_n 0, 1) := by decide +kernel
theorem dX2_potentialsHold_14 : decode cX2_potentialsHold 14 = .ok (.getfield 27, 3) := by decide +kernel
theorem dX2_potentialsHold_17 : decode cX2_potentialsHold 17 = .ok (.iload_n 1, 1) := by decide +kernel
theorem dX2_potentialsHold_18 : decode cX2_potentialsHold 18 = .ok (.invokevirtual 182, 3) := by decide +kernel
theorem dX2_potentialsHold_21 : decode cX2_potentialsHold 21 = .ok (.istore_n 2, 1) := by decide +kernel
theorem dX2_potentialsHold_22 : decode cX2_potentialsHold 22 = .ok (.aload_n 0, 1) := by decide +kernel
theorem dX2_potentialsHold_23 : decode cX2_potentialsHold 23 = .ok (.getfield 27, 3) := by decide +kernel
theorem dX2_potentialsHold_26 : decode cX2_potentialsHold 26 = .ok (.iload_n 1, 1) := by decide +kernel
theorem dX2_potentialsHold_27 : decode cX2_potentialsHold 27 = .ok (.invokevirtual 160, 3) := by decide +kernel
theorem dX2_potentialsHold_30 : decode cX2_potentialsHold 30 = .ok (.istore_n 3, 1) := by decide +kernel
theorem dX2_potentialsHold_31 : decode cX2_potentialsHold 31 = .ok (.aload_n 0, 1) := by decide +kernel
theorem dX2_potentialsHold_32 : decode cX2_potentialsHold 32 = .ok (.getfield 27, 3) := by decide +kernel
theorem dX2_potentialsHold_35 : decode cX2_potentialsHold 35 = .ok (.iload_n 1, 1) := by decide +kernel
theorem dX2_potentialsHold_36 : decode cX2_potentialsHold 36 = .ok (.invokevirtual 163, 3) := by decide +kernel
theorem dX2_potentialsHold_39 : decode cX2_potentialsHold 39 = .ok (.ifCond .le 60, 3) := by decide +kernel
theorem dX2_potentialsHold_42 : decode cX2_potentialsHold 42 = .ok (.aload_n 0, 1) := by decide +kernel
theorem dX2_potentialsHold_43 : decode cX2_potentialsHold 43 = .ok (.getfield 36, 3) := by decide +kernel
theorem dX2_potentialsHold_46 : decode cX2_potentialsHold 46 = .ok (.iload_n 2, 1) := by decide +kernel
theorem dX2_potentialsHold_47 : decode cX2_potentialsHold 47 = .ok (.invokevirtual 104, 3) := by decide +kernel
theorem dX2_potentialsHold_50 : decode cX2_potentialsHold 50 = .ok (.ifCond .eq 49, 3) := by decide +kernel
theorem dX2_potentialsHold_53 : decode cX2_potentialsHold 53 = .ok (.aload_n 0, 1) := by decide +kernel
theorem dX2_potentialsHold_54 : decode cX2_potentialsHold 54 = .ok (.getfield 36, 3) := by decide +kernel
theorem dX2_potentialsHold_57 : decode cX2_potentialsHold 57 = .ok (.iload_n 3, 1) := by decide +kernel
theorem dX2_potentialsHold_58 : decode cX2_potentialsHold 58 = .ok (.invokevirtual 104, 3) := by decide +kernel
theorem dX2_potentialsHold_61 : decode cX2_potentialsHold 61 = .ok (.ifCond .ne 6, 3) := by decide +kernel
theorem dX2_potentialsHold_64 : decode cX2_potentialsHold 64 = .ok (.goto 35, 3) := by decide +kernel
theorem dX2_potentialsHold_67 : decode cX2_potentialsHold 67 = .ok (.aload_n 0, 1) := by decide +kernel
theorem dX2_potentialsHold_68 : decode cX2_potentialsHold 68 = .ok (.getfield 36, 3) := by decide +kernel
theorem dX2_potentialsHold_71 : decode cX2_potentialsHold 71 = .ok (.getfield 101, 3) := by decide +kernel
theorem dX2_potentialsHold_74 : decode cX2_potentialsHold 74 = .ok (.iload_n 2, 1) := by decide +kernel
theorem dX2_potentialsHold_75 : decode cX2_potentialsHold 75 = .ok (.iaload, 1) := by decide +kernel
theorem dX2_potentialsHold_76 : decode cX2_potentialsHold 76 = .ok (.aload_n 0, 1) := by decide +kernel
theorem dX2_potentialsHold_77 : decode cX2_potentialsHold 77 = .ok (.getfield 27, 3) := by decide +kernel
theorem dX2_potentialsHold_80 : decode cX2_potentialsHold 80 = .ok (.iload_n 1, 1) := by decide +kernel
theorem dX2_potentialsHold_81 : decode cX2_potentialsHold 81 = .ok (.invokevirtual 185, 3) := by decide +kernel
theorem dX2_potentialsHold_84 : decode cX2_potentialsHold 84 = .ok (.iadd, 1) := by decide +kernel
theorem dX2_potentialsHold_85 : decode cX2_potentialsHold 85 = .ok (.aload_n 0, 1) := by decide +kernel
theorem dX2_potentialsHold_86 : decode cX2_potentialsHold 86 = .ok (.getfield 36, 3) := by decide +kernel
theorem dX2_potentialsHold_89 : decode cX2_potentialsHold 89 = .ok (.getfield 101, 3) := by decide +kernel
theorem dX2_potentialsHold_92 : decode cX2_potentialsHold 92 = .ok (.iload_n 3, 1) := by decide +kernel
theorem dX2_potentialsHold_93 : decode cX2_potentialsHold 93 = .ok (.iaload, 1) := by decide +kernel
theorem dX2_potentialsHold_94 : decode cX2_potentialsHold 94 = .ok (.if_icmp .ge 5, 3) := by decide +kernel
theorem dX2_potentialsHold_97 : decode cX2_potentialsHold 97 = .ok (.iconst 0, 1) := by decide +kernel
theorem dX2_potentialsHold_98 : decode cX2_potentialsHold 98 = .ok (.ireturn, 1) := by decide +kernel
theorem dX2_potentialsHold_99 : decode cX2_potentialsHold 99 = .ok (.iinc 1 1, 3) := by decide +kernel
theorem dX2_potentialsHold_102 : decode cX2_potentialsHold 102 = .ok (.goto (-100), 3) := by decide +kernel
theorem dX2_potentialsHold_105 : decode cX2_potentialsHold 105 = .ok (.iconst 1, 1) := by decide +kernel
theorem dX2_potentialsHold_106 : decode cX2_potentialsHold 106 = .ok (.ireturn, 1) := by decide +kernel
theorem dJ9_max_7cf53_0 : decode cJ9_max_7cf53 0 = .ok (.iload_n 0, 1) := by decide +kernel
theorem dJ9_max_7cf53_1 : decode cJ9_max_7cf53 1 = .ok (.iload_n 1, 1) := by decide +kernel
theorem dJ9_max_7cf53_2 : decode cJ9_max_7cf53 2 = .ok (.if_icmp .lt 7, 3) := by decide +kernel
theorem dJ9_max_7cf53_5 : decode cJ9_max_7cf53 5 = .ok (.iload_n 0, 1) := by decide +kernel
theorem dJ9_max_7cf53_6 : decode cJ9_max_7cf53 6 = .ok (.goto 4, 3) := by decide +kernel
theorem dJ9_max_7cf53_9 : decode cJ9_max_7cf53 9 = .ok (.iload_n 1, 1) := by decide +kernel
theorem dJ9_max_7cf53_10 : decode cJ9_max_7cf53 10 = .ok (.ireturn, 1) := by decide +kernel
theorem dJ9_min_7cf53_0 : decode cJ9_min_7cf53 0 = .ok (.iload_n 0, 1) := by decide +kernel
theorem dJ9_min_7cf53_1 : decode cJ9_min_7cf53 1 = .ok (.iload_n 1, 1) := by decide +kernel
theorem dJ9_min_7cf53_2 : decode cJ9_min_7cf53 2 = .ok (.if_icmp .gt 7, 3) := by decide +kernel
theorem dJ9_min_7cf53_5 : decode cJ9_min_7cf53 5 = .ok (.iload_n 0, 1) := by decide +kernel
theorem dJ9_min_7cf53_6 : decode cJ9_min_7cf53 6 = .ok (.goto 4, 3) := by decide +kernel
theorem dJ9_min_7cf53_9 : decode cJ9_min_7cf53 9 = .ok (.iload_n 1, 1) := by decide +kernel
theorem dJ9_min_7cf53_10 : decode cJ9_min_7cf53 10 = .ok (.ireturn, 1) := by decide +kernel
theorem dJ7_fill_53178_0 : decode cJ7_fill_53178 0 = .ok (.iconst 0, 1) := by decide +kernel
theorem dJ7_fill_53178_1 : decode cJ7_fill_53178 1 = .ok (.istore_n 2, 1) := by decide +kernel
theorem dJ7_fill_53178_2 : decode cJ7_fill_53178 2 = .ok (.aload_n 0, 1) := by decide +kernel
theorem dJ7_fill_53178_3 : decode cJ7_fill_53178 3 = .ok (.arraylength, 1) := by decide +kernel
theorem dJ7_fill_53178_4 : decode cJ7_fill_53178 4 = .ok (.istore_n 3, 1) := by decide +kernel
theorem dJ7_fill_53178_5 : decode cJ7_fill_53178 5 = .ok (.iload_n 2, 1) := by decide +kernel
theorem dJ7_fill_53178_6 : decode cJ7_fill_53178 6 = .ok (.iload_n 3, 1) := by decide +kernel
theorem dJ7_fill_53178_7 : decode cJ7_fill_53178 7 = .ok (.if_icmp .ge 13, 3) := by decide +kernel
theorem dJ7_fill_53178_10 : decode cJ7_fill_53178 10 = .ok (.aload_n 0, 1) := by decide +kernel
theorem dJ7_fill_53178_11 : decode cJ7_fill_53178 11 = .ok (.iload_n 2, 1) := by decide +kernel
theorem dJ7_fill_53178_12 : decode cJ7_fill_53178 12 = .ok (.iload_n 1, 1) := by decide +kernel
theorem dJ7_fill_53178_13 : decode cJ7_fill_53178 13 = .ok (.iastore, 1) := by decide +kernel
theorem dJ7_fill_53178_14 : decode cJ7_fill_53178 14 = .ok (.iinc 2 1, 3) := by decide +kernel
theorem dJ7_fill_53178_17 : decode cJ7_fill_53178 17 = .ok (.goto (-12), 3) := by decide +kernel
theorem dJ7_fill_53178_20 : decode cJ7_fill_53178 20 = .ok (.return_, 1) := by decide +kernel
