theorem dX4_unlikePlacements_75 : decode cX4_unlikePlacements 75 = .ok (.iinc 3 1, 3) := by decide +kernel
theorem dX4_unlikePlacements_78 : decode cX4_unlikePlacements 78 = .ok (.goto (-74), 3) := by decide +kernel
theorem dX4_unlikePlacements_81 : decode cX4_unlikePlacements 81 = .ok (.iload_n 2, 1) := by decide +kernel
theorem dX4_unlikePlacements_82 : decode cX4_unlikePlacements 82 = .ok (.ireturn, 1) := by decide +kernel
theorem dX4_mostCommon_0 : decode cX4_mostCommon 0 = .ok (.iconst 0, 1) := by decide +kernel
theorem dX4_mostCommon_1 : decode cX4_mostCommon 1 = .ok (.istore_n 3, 1) := by decide +kernel
theorem dX4_mostCommon_2 : decode cX4_mostCommon 2 = .ok (.iconst 0, 1) := by decide +kernel
theorem dX4_mostCommon_3 : decode cX4_mostCommon 3 = .ok (.istore 4, 2) := by decide +kernel
theorem dX4_mostCommon_5 : decode cX4_mostCommon 5 = .ok (.iload 4, 2) := by decide +kernel
theorem dX4_mostCommon_7 : decode cX4_mostCommon 7 = .ok (.aload_n 0, 1) := by decide +kernel
theorem dX4_mostCommon_8 : decode cX4_mostCommon 8 = .ok (.getfield 21, 3) := by decide +kernel
theorem dX4_mostCommon_11 : decode cX4_mostCommon 11 = .ok (.if_icmp .ge 26, 3) := by decide +kernel
theorem dX4_mostCommon_14 : decode cX4_mostCommon 14 = .ok (.iload_n 3, 1) := by decide +kernel
theorem dX4_mostCommon_15 : decode cX4_mostCommon 15 = .ok (.aload_n 0, 1) := by decide +kernel
theorem dX4_mostCommon_16 : decode cX4_mostCommon 16 = .ok (.iload_n 1, 1) := by decide +kernel
theorem dX4_mostCommon_17 : decode cX4_mostCommon 17 = .ok (.iload 4, 2) := by decide +kernel
theorem dX4_mostCommon_19 : decode cX4_mostCommon 19 = .ok (.invokevirtual 33, 3) := by decide +kernel
theorem dX4_mostCommon_22 : decode cX4_mostCommon 22 = .ok (.iload_n 2, 1) := by decide +kernel
theorem dX4_mostCommon_23 : decode cX4_mostCommon 23 = .ok (.iand, 1) := by decide +kernel
theorem dX4_mostCommon_24 : decode cX4_mostCommon 24 = .ok (.invokestatic 41, 3) := by decide +kernel
theorem dX4_mostCommon_27 : decode cX4_mostCommon 27 = .ok (.invokestatic 47, 3) := by decide +kernel
theorem dX4_mostCommon_30 : decode cX4_mostCommon 30 = .ok (.istore_n 3, 1) := by decide +kernel
theorem dX4_mostCommon_31 : decode cX4_mostCommon 31 = .ok (.iinc 4 1, 3) := by decide +kernel
theorem dX4_mostCommon_34 : decode cX4_mostCommon 34 = .ok (.goto (-29), 3) := by decide +kernel
theorem dX4_mostCommon_37 : decode cX4_mostCommon 37 = .ok (.iload_n 3, 1) := by decide +kernel
theorem dX4_mostCommon_38 : decode cX4_mostCommon 38 = .ok (.ireturn, 1) := by decide +kernel
theorem dX4_leastDifference_0 : decode cX4_leastDifference 0 = .ok (.bipush 12, 2) := by decide +kernel
theorem dX4_leastDifference_2 : decode cX4_leastDifference 2 = .ok (.istore_n 3, 1) := by decide +kernel
theorem dX4_leastDifference_3 : decode cX4_leastDifference 3 = .ok (.iconst 0, 1) := by decide +kernel
theorem dX4_leastDifference_4 : decode cX4_leastDifference 4 = .ok (.istore 4, 2) := by decide +kernel
theorem dX4_leastDifference_6 : decode cX4_leastDifference 6 = .ok (.iload 4, 2) := by decide +kernel
theorem dX4_leastDifference_8 : decode cX4_leastDifference 8 = .ok (.aload_n 0, 1) := by decide +kernel
theorem dX4_leastDifference_9 : decode cX4_leastDifference 9 = .ok (.getfield 21, 3) := by decide +kernel
theorem dX4_leastDifference_12 : decode cX4_leastDifference 12 = .ok (.if_icmp .ge 26, 3) := by decide +kernel
theorem dX4_leastDifference_15 : decode cX4_leastDifference 15 = .ok (.iload_n 3, 1) := by decide +kernel
theorem dX4_leastDifference_16 : decode cX4_leastDifference 16 = .ok (.aload_n 0, 1) := by decide +kernel
theorem dX4_leastDifference_17 : decode cX4_leastDifference 17 = .ok (.iload_n 1, 1) := by decide +kernel
theorem dX4_leastDifference_18 : decode cX4_leastDifference 18 = .ok (.iload 4, 2) := by decide +kernel
theorem dX4_leastDifference_20 : decode cX4_leastDifference 20 = .ok (.invokevirtual 33, 3) := by decide +kernel
theorem dX4_leastDifference_23 : decode cX4_leastDifference 23 = .ok (.iload_n 2, 1) := by decide +kernel
theorem dX4_leastDifference_24 : decode cX4_leastDifference 24 = .ok (.ixor, 1) := by decide +kernel
theorem dX4_leastDifference_25 : decode cX4_leastDifference 25 = .ok (.invokestatic 41, 3) := by decide +kernel
theorem dX4_leastDifference_28 : decode cX4_leastDifference 28 = .ok (.invokestatic 36, 3) := by decide +kernel
theorem dX4_leastDifference_31 : decode cX4_leastDifference 31 = .ok (.istore_n 3, 1) := by decide +kernel
theorem dX4_leastDifference_32 : decode cX4_leastDifference 32 = .ok (.iinc 4 1, 3) := by decide +kernel
theorem dX4_leastDifference_35 : decode cX4_leastDifference 35 = .ok (.goto (-29), 3) := by decide +kernel
theorem dX4_leastDifference_38 : decode cX4_leastDifference 38 = .ok (.iload_n 3, 1) := by decide +kernel
theorem dX4_leastDifference_39 : decode cX4_leastDifference 39 = .ok (.ireturn, 1) := by decide +kernel
theorem dX5_init_0 : decode cX5_init 0 = .ok (.aload_n 0, 1) := by decide +kernel
theorem dX5_init_1 : decode cX5_init 1 = .ok (.invokespecial 3, 3) := by decide +kernel
theorem dX5_init_4 : decode cX5_init 4 = .ok (.aload_n 0, 1) := by decide +kernel
theorem dX5_init_5 : decode cX5_init 5 = .ok (.bipush 8, 2) := by decide +kernel
theorem dX5_init_7 : decode cX5_init 7 = .ok (.newarray .int, 2) := by decide +kernel
theorem dX5_init_9 : decode cX5_init 9 = .ok (.putfield 9, 3) := by decide +kernel
theorem dX5_init_12 : decode cX5_init 12 = .ok (.aload_n 0, 1) := by decide +kernel
theorem dX5_init_13 : decode cX5_init 13 = .ok (.bipush 8, 2) := by decide +kernel
theorem dX5_init_15 : decode cX5_init 15 = .ok (.newarray .int, 2) := by decide +kernel
theorem dX5_init_17 : decode cX5_init 17 = .ok (.putfield 15, 3) := by decide +kernel
theorem dX5_init_20 : decode cX5_init 20 = .ok (.aload_n 0, 1) := by decide +kernel
theorem dX5_init_21 : decode cX5_init 21 = .ok (.bipush 96, 2) := by decide +kernel
theorem dX5_init_23 : decode cX5_init 23 = .ok (.newarray .int, 2) := by decide +kernel
theorem dX5_init_25 : decode cX5_init 25 = .ok (.putfield 18, 3) := by decide +kernel
theorem dX5_init_28 : decode cX5_init 28 = .ok (.aload_n 0, 1) := by decide +kernel
theorem dX5_init_29 : decode cX5_init 29 = .ok (.iconst 0, 1) := by decide +kernel
theorem dX5_init_30 : decode cX5_init 30 = .ok (.putfield 21, 3) := by decide +kernel
theorem dX5_init_33 : decode cX5_init 33 = .ok (.aload_n 0, 1) := by decide +kernel
theorem dX5_init_34 : decode cX5_init 34 = .ok (.iconst 0, 1) := by decide +kernel
theorem dX5_init_35 : decode cX5_init 35 = .ok (.putfield 25, 3) := by decide +kernel
theorem dX5_init_38 : decode cX5_init 38 = .ok (.return_, 1) := by decide +kernel
theorem dX5_copyFrom_0 : decode cX5_copyFrom 0 = .ok (.aload_n 1, 1) := by decide +kernel
theorem dX5_copyFrom_1 : decode cX5_copyFrom 1 = .ok (.getfield 9, 3) := by decide +kernel
theorem dX5_copyFrom_4 : decode cX5_copyFrom 4 = .ok (.iconst 0, 1) := by decide +kernel
theorem dX5_copyFrom_5 : decode cX5_copyFrom 5 = .ok (.aload_n 0, 1) := by decide +kernel
theorem dX5_copyFrom_6 : decode cX5_copyFrom 6 = .ok (.getfield 9, 3) := by decide +kernel
theorem dX5_copyFrom_9 : decode cX5_copyFrom 9 = .ok (.iconst 0, 1) := by decide +kernel
theorem dX5_copyFrom_10 : decode cX5_copyFrom 10 = .ok (.bipush 8, 2) := by decide +kernel
theorem dX5_copyFrom_12 : decode cX5_copyFrom 12 = .ok (.invokestatic 28, 3) := by decide +kernel
theorem dX5_copyFrom_15 : decode cX5_copyFrom 15 = .ok (.aload_n 1, 1) := by decide +kernel
theorem dX5_copyFrom_16 : decode cX5_copyFrom 16 = .ok (.getfield 15, 3) := by decide +kernel
theorem dX5_copyFrom_19 : decode cX5_copyFrom 19 = .ok (.iconst 0, 1) := by decide +kernel
theorem dX5_copyFrom_20 : decode cX5_copyFrom 20 = .ok (.aload_n 0, 1) := by decide +kernel
theorem dX5_copyFrom_21 : decode cX5_copyFrom 21 = .ok (.getfield 15, 3) := by decide +kernel
theorem dX5_copyFrom_24 : decode cX5_copyFrom 24 = .ok (.iconst 0, 1) := by decide +kernel
theorem dX5_copyFrom_25 : decode cX5_copyFrom 25 = .ok (.bipush 8, 2) := by decide +kernel
theorem dX5_copyFrom_27 : decode cX5_copyFrom 27 = .ok (.invokestatic 28, 3) := by decide +kernel
theorem dX5_copyFrom_30 : decode cX5_copyFrom 30 = .ok (.aload_n 1, 1) := by decide +kernel
theorem dX5_copyFrom_31 : decode cX5_copyFrom 31 = .ok (.getfield 18, 3) := by decide +kernel
theorem dX5_copyFrom_34 : decode cX5_copyFrom 34 = .ok (.iconst 0, 1) := by decide +kernel
theorem dX5_copyFrom_35 : decode cX5_copyFrom 35 = .ok (.aload_n 0, 1) := by decide +kernel
theorem dX5_copyFrom_36 : decode cX5_copyFrom 36 = .ok (.getfield 18, 3) := by decide +kernel
theorem dX5_copyFrom_39 : decode cX5_copyFrom 39 = .ok (.iconst 0, 1) := by decide +kernel
theorem dX5_copyFrom_40 : decode cX5_copyFrom 40 = .ok (.bipush 96, 2) := by decide +kernel
theorem dX5_copyFrom_42 : decode cX5_copyFrom 42 = .ok (.invokestatic 28, 3) := by decide +kernel
theorem dX5_copyFrom_45 : decode cX5_copyFrom 45 = .ok (.aload_n 0, 1) := by decide +kernel
theorem dX5_copyFrom_46 : decode cX5_copyFrom 46 = .ok (.aload_n 1, 1) := by decide +kernel
theorem dX5_copyFrom_47 : decode cX5_copyFrom 47 = .ok (.getfield 21, 3) := by decide +kernel
theorem dX5_copyFrom_50 : decode cX5_copyFrom 50 = .ok (.putfield 21, 3) := by decide +kernel
theorem dX5_copyFrom_53 : decode cX5_copyFrom 53 = .ok (.aload_n 0, 1) := by decide +kernel
theorem dX5_copyFrom_54 : decode cX5_copyFrom 54 = .ok (.aload_n 1, 1) := by decide +kernel
theorem dX5_copyFrom_55 : decode cX5_copyFrom 55 = .ok (.getfield 25, 3) := by decide +kernel
theorem dX5_copyFrom_58 : decode cX5_copyFrom 58 = .ok (.putfield 25, 3) := by decide +kernel
theorem dX5_copyFrom_61 : decode cX5_copyFrom 61 = .ok (.return_, 1) := by decide +kernel
theorem dX5_startAs_0 : decode cX5_startAs 0 = .ok (.aload_n 0, 1) := by decide +kernel
theorem dX5_startAs_1 : decode cX5_startAs 1 = .ok (.iconst 0, 1) := by decide +kernel
theorem dX5_startAs_2 : decode cX5_startAs 2 = .ok (.putfield 21, 3) := by decide +kernel
theorem dX5_startAs_5 : decode cX5_startAs 5 = .ok (.aload_n 0, 1) := by decide +kernel
theorem dX5_startAs_6 : decode cX5_startAs 6 = .ok (.aload_n 1, 1) := by decide +kernel
theorem dX5_startAs_7 : decode cX5_startAs 7 = .ok (.getfield 34, 3) := by decide +kernel
theorem dX5_startAs_10 : decode cX5_startAs 10 = .ok (.putfield 25, 3) := by decide +kernel
theorem dX5_startAs_13 : decode cX5_startAs 13 = .ok (.iconst 0, 1) := by decide +kernel
theorem dX5_startAs_14 : decode cX5_startAs 14 = .ok (.istore_n 2, 1) := by decide +kernel
theorem dX5_startAs_15 : decode cX5_startAs 15 = .ok (.iload_n 2, 1) := by decide +kernel
theorem dX5_startAs_16 : decode cX5_startAs 16 = .ok (.aload_n 1, 1) := by decide +kernel
theorem dX5_startAs_17 : decode cX5_startAs 17 = .ok (.getfield 39, 3) := by decide +kernel
theorem dX5_startAs_20 : decode cX5_startAs 20 = .ok (.if_icmp .ge 40, 3) := by decide +kernel
theorem dX5_startAs_23 : decode cX5_startAs 23 = .ok (.aload_n 1, 1) := by decide +kernel
theorem dX5_startAs_24 : decode cX5_startAs 24 = .ok (.getfield 42, 3) := by decide +kernel
theorem dX5_startAs_27 : decode cX5_startAs 27 = .ok (.iload_n 2, 1) := by decide +kernel
theorem dX5_startAs_28 : decode cX5_startAs 28 = .ok (.iaload, 1) := by decide +kernel
theorem dX5_startAs_29 : decode cX5_startAs 29 = .ok (.istore_n 3, 1) := by decide +kernel
theorem dX5_startAs_30 : decode cX5_startAs 30 = .ok (.aload_n 0, 1) := by decide +kernel
theorem dX5_startAs_31 : decode cX5_startAs 31 = .ok (.getfield 15, 3) := by decide +kernel
theorem dX5_startAs_34 : decode cX5_startAs 34 = .ok (.iload_n 2, 1) := by decide +kernel
theorem dX5_startAs_35 : decode cX5_startAs 35 = .ok (.iload_n 3, 1) := by decide +kernel
theorem dX5_startAs_36 : decode cX5_startAs 36 = .ok (.iastore, 1) := by decide +kernel
theorem dX5_startAs_37 : decode cX5_startAs 37 = .ok (.aload_n 0, 1) := by decide +kernel
theorem dX5_startAs_38 : decode cX5_startAs 38 = .ok (.iload_n 2, 1) := by decide +kernel
theorem dX5_startAs_39 : decode cX5_startAs 39 = .ok (.aload_n 1, 1) := by decide +kernel
theorem dX5_startAs_40 : decode cX5_startAs 40 = .ok (.getfield 45, 3) := by decide +kernel
theorem dX5_startAs_43 : decode cX5_startAs 43 = .ok (.iload_n 3, 1) := by decide +kernel
theorem dX5_startAs_44 : decode cX5_startAs 44 = .ok (.iaload, 1) := by decide +kernel
theorem dX5_startAs_45 : decode cX5_startAs 45 = .ok (.aload_n 1, 1) := by decide +kernel
theorem dX5_startAs_46 : decode cX5_startAs 46 = .ok (.getfield 48, 3) := by decide +kernel
theorem dX5_startAs_49 : decode cX5_startAs 49 = .ok (.iload_n 2, 1) := by decide +kernel
theorem dX5_startAs_50 : decode cX5_startAs 50 = .ok (.iaload, 1) := by decide +kernel
theorem dX5_startAs_51 : decode cX5_startAs 51 = .ok (.invokevirtual 51, 3) := by decide +kernel
theorem dX5_startAs_54 : decode cX5_startAs 54 = .ok (.iinc 2 1, 3) := by decide +kernel
theorem dX5_startAs_57 : decode cX5_startAs 57 = .ok (.goto (-42), 3) := by decide +kernel
theorem dX5_startAs_60 : decode cX5_startAs 60 = .ok (.return_, 1) := by decide +kernel
theorem dX5_rebrand_0 : decode cX5_rebrand 0 = .ok (.aload_n 0, 1) := by decide +kernel
theorem dX5_rebrand_1 : decode cX5_rebrand 1 = .ok (.getfield 9, 3) := by decide +kernel
theorem dX5_rebrand_4 : decode cX5_rebrand 4 = .ok (.iload_n 1, 1) := by decide +kernel
theorem dX5_rebrand_5 : decode cX5_rebrand 5 = .ok (.iload_n 2, 1) := by decide +kernel
theorem dX5_rebrand_6 : decode cX5_rebrand 6 = .ok (.iastore, 1) := by decide +kernel
theorem dX5_rebrand_7 : decode cX5_rebrand 7 = .ok (.iconst 0, 1) := by decide +kernel
theorem dX5_rebrand_8 : decode cX5_rebrand 8 = .ok (.istore 4, 2) := by decide +kernel
theorem dX5_rebrand_10 : decode cX5_rebrand 10 = .ok (.iload 4, 2) := by decide +kernel
theorem dX5_rebrand_12 : decode cX5_rebrand 12 = .ok (.bipush 12, 2) := by decide +kernel
theorem dX5_rebrand_14 : decode cX5_rebrand 14 = .ok (.if_icmp .ge 22, 3) := by decide +kernel
theorem dX5_rebrand_17 : decode cX5_rebrand 17 = .ok (.aload_n 0, 1) := by decide +kernel
theorem dX5_rebrand_18 : decode cX5_rebrand 18 = .ok (.getfield 18, 3) := by decide +kernel
theorem dX5_rebrand_21 : decode cX5_rebrand 21 = .ok (.iload_n 1, 1) := by decide +kernel
theorem dX5_rebrand_22 : decode cX5_rebrand 22 = .ok (.bipush 12, 2) := by decide +kernel
theorem dX5_rebrand_24 : decode cX5_rebrand 24 = .ok (.imul, 1) := by decide +kernel
theorem dX5_rebrand_25 : decode cX5_rebrand 25 = .ok (.iload 4, 2) := by decide +kernel
theorem dX5_rebrand_27 : decode cX5_rebrand 27 = .ok (.iadd, 1) := by decide +kernel
theorem dX5_rebrand_28 : decode cX5_rebrand 28 = .ok (.iload_n 3, 1) := by decide +kernel
theorem dX5_rebrand_29 : decode cX5_rebrand 29 = .ok (.iastore, 1) := by decide +kernel
theorem dX5_rebrand_30 : decode cX5_rebrand 30 = .ok (.iinc 4 1, 3) := by decide +kernel
theorem dX5_rebrand_33 : decode cX5_rebrand 33 = .ok (.goto (-23), 3) := by decide +kernel
theorem dX5_rebrand_36 : decode cX5_rebrand 36 = .ok (.return_, 1) := by decide +kernel
theorem dX5_ageOf_0 : decode cX5_ageOf 0 = .ok (.aload_n 0, 1) := by decide +kernel
theorem dX5_ageOf_1 : decode cX5_ageOf 1 = .ok (.getfield 9, 3) := by decide +kernel
theorem dX5_ageOf_4 : decode cX5_ageOf 4 = .ok (.iload_n 1, 1) := by decide +kernel
theorem dX5_ageOf_5 : decode cX5_ageOf 5 = .ok (.iaload, 1) := by decide +kernel
theorem dX5_ageOf_6 : decode cX5_ageOf 6 = .ok (.iconst 1, 1) := by decide +kernel
theorem dX5_ageOf_7 : decode cX5_ageOf 7 = .ok (.iload_n 2, 1) := by decide +kernel
theorem dX5_ageOf_8 : decode cX5_ageOf 8 = .ok (.ishl, 1) := by decide +kernel
theorem dX5_ageOf_9 : decode cX5_ageOf 9 = .ok (.iand, 1) := by decide +kernel
theorem dX5_ageOf_10 : decode cX5_ageOf 10 = .ok (.ifCond .eq 17, 3) := by decide +kernel
theorem dX5_ageOf_13 : decode cX5_ageOf 13 = .ok (.aload_n 0, 1) := by decide +kernel
theorem dX5_ageOf_14 : decode cX5_ageOf 14 = .ok (.getfield 18, 3) := by decide +kernel
theorem dX5_ageOf_17 : decode cX5_ageOf 17 = .ok (.iload_n 1, 1) := by decide +kernel
theorem dX5_ageOf_18 : decode cX5_ageOf 18 = .ok (.bipush 12, 2) := by decide +kernel
theorem dX5_ageOf_20 : decode cX5_ageOf 20 = .ok (.imul, 1) := by decide +kernel
theorem dX5_ageOf_21 : decode cX5_ageOf 21 = .ok (.iload_n 2, 1) := by decide +kernel
theorem dX5_ageOf_22 : decode cX5_ageOf 22 = .ok (.iadd, 1) := by decide +kernel
theorem dX5_ageOf_23 : decode cX5_ageOf 23 = .ok (.iaload, 1) := by decide +kernel
theorem dX5_ageOf_24 : decode cX5_ageOf 24 = .ok (.goto 4, 3) := by decide +kernel
theorem dX5_ageOf_27 : decode cX5_ageOf 27 = .ok (.iconst (-1), 1) := by decide +kernel
theorem dX5_ageOf_28 : decode cX5_ageOf 28 = .ok (.ireturn, 1) := by decide +kernel
theorem dX5_oldestAge_0 : decode cX5_oldestAge 0 = .ok (.iconst (-1), 1) := by decide +kernel
theorem dX5_oldestAge_1 : decode cX5_oldestAge 1 = .ok (.istore_n 2, 1) := by decide +kernel
theorem dX5_oldestAge_2 : decode cX5_oldestAge 2 = .ok (.iconst 0, 1) := by decide +kernel
theorem dX5_oldestAge_3 : decode cX5_oldestAge 3 = .ok (.istore_n 3, 1) := by decide +kernel
theorem dX5_oldestAge_4 : decode cX5_oldestAge 4 = .ok (.iload_n 3, 1) := by decide +kernel
theorem dX5_oldestAge_5 : decode cX5_oldestAge 5 = .ok (.bipush 12, 2) := by decide +kernel
theorem dX5_oldestAge_7 : decode cX5_oldestAge 7 = .ok (.if_icmp .ge 20, 3) := by decide +kernel
theorem dX5_oldestAge_10 : decode cX5_oldestAge 10 = .ok (.iload_n 2, 1) := by decide +kernel
theorem dX5_oldestAge_11 : decode cX5_oldestAge 11 = .ok (.aload_n 0, 1) := by decide +kernel
theorem dX5_oldestAge_12 : decode cX5_oldestAge 12 = .ok (.iload_n 1, 1) := by decide +kernel
theorem dX5_oldestAge_13 : decode cX5_oldestAge 13 = .ok (.iload_n 3, 1) := by decide +kernel
theorem dX5_oldestAge_14 : decode cX5_oldestAge 14 = .ok (.invokevirtual 55, 3) := by decide +kernel
theorem dX5_oldestAge_17 : decode cX5_oldestAge 17 = .ok (.invokestatic 59, 3) := by decide +kernel
theorem dX5_oldestAge_20 : decode cX5_oldestAge 20 = .ok (.istore_n 2, 1) := by decide +kernel
theorem dX5_oldestAge_21 : decode cX5_oldestAge 21 = .ok (.iinc 3 1, 3) := by decide +kernel
theorem dX5_oldestAge_24 : decode cX5_oldestAge 24 = .ok (.goto (-20), 3) := by decide +kernel
theorem dX5_oldestAge_27 : decode cX5_oldestAge 27 = .ok (.iload_n 2, 1) := by decide +kernel
theorem dX5_oldestAge_28 : decode cX5_oldestAge 28 = .ok (.ireturn, 1) := by decide +kernel
theorem dX5_addStrokes_0 : decode cX5_addStrokes 0 = .ok (.iload_n 2, 1) := by decide +kernel
theorem dX5_addStrokes_1 : decode cX5_addStrokes 1 = .ok (.aload_n 0, 1) := by decide +kernel
theorem dX5_addStrokes_2 : decode cX5_addStrokes 2 = .ok (.getfield 9, 3) := by decide +kernel
theorem dX5_addStrokes_5 : decode cX5_addStrokes 5 = .ok (.iload_n 1, 1) := by decide +kernel
theorem dX5_addStrokes_6 : decode cX5_addStrokes 6 = .ok (.iaload, 1) := by decide +kernel
theorem dX5_addStrokes_7 : decode cX5_addStrokes 7 = .ok (.iconst (-1), 1) := by decide +kernel
theorem dX5_addStrokes_8 : decode cX5_addStrokes 8 = .ok (.ixor, 1) := by decide +kernel
theorem dX5_addStrokes_9 : decode cX5_addStrokes 9 = .ok (.iand, 1) := by decide +kernel
theorem dX5_addStrokes_10 : decode cX5_addStrokes 10 = .ok (.istore_n 3, 1) := by decide +kernel
theorem dX5_addStrokes_11 : decode cX5_addStrokes 11 = .ok (.iconst 0, 1) := by decide +kernel
theorem dX5_addStrokes_12 : decode cX5_addStrokes 12 = .ok (.istore 4, 2) := by decide +kernel
theorem dX5_addStrokes_14 : decode cX5_addStrokes 14 = .ok (.iload 4, 2) := by decide +kernel
theorem dX5_addStrokes_16 : decode cX5_addStrokes 16 = .ok (.bipush 12, 2) := by decide +kernel
theorem dX5_addStrokes_18 : decode cX5_addStrokes 18 = .ok (.if_icmp .ge 31, 3) := by decide +kernel
theorem dX5_addStrokes_21 : decode cX5_addStrokes 21 = .ok (.iload_n 3, 1) := by decide +kernel
theorem dX5_addStrokes_22 : decode cX5_addStrokes 22 = .ok (.iconst 1, 1) := by decide +kernel
theorem dX5_addStrokes_23 : decode cX5_addStrokes 23 = .ok (.iload 4, 2) := by decide +kernel
theorem dX5_addStrokes_25 : decode cX5_addStrokes 25 = .ok (.ishl, 1) := by decide +kernel
theorem dX5_addStrokes_26 : decode cX5_addStrokes 26 = .ok (.iand, 1) := by decide +kernel
theorem dX5_addStrokes_27 : decode cX5_addStrokes 27 = .ok (.ifCond .eq 16, 3) := by decide +kernel
theorem dX5_addStrokes_30 : decode cX5_addStrokes 30 = .ok (.aload_n 0, 1) := by decide +kernel
theorem dX5_addStrokes_31 : decode cX5_addStrokes 31 = .ok (.getfield 18, 3) := by decide +kernel
theorem dX5_addStrokes_34 : decode cX5_addStrokes 34 = .ok (.iload_n 1, 1) := by decide +kernel
theorem dX5_addStrokes_35 : decode cX5_addStrokes 35 = .ok (.bipush 12, 2) := by decide +kernel
theorem dX5_addStrokes_37 : decode cX5_addStrokes 37 = .ok (.imul, 1) := by decide +kernel
theorem dX5_addStrokes_38 : decode cX5_addStrokes 38 = .ok (.iload 4, 2) := by decide +kernel
theorem dX5_addStrokes_40 : decode cX5_addStrokes 40 = .ok (.iadd, 1) := by decide +kernel
theorem dX5_addStrokes_41 : decode cX5_addStrokes 41 = .ok (.iconst 0, 1) := by decide +kernel
theorem dX5_addStrokes_42 : decode cX5_addStrokes 42 = .ok (.iastore, 1) := by decide +kernel
theorem dX5_addStrokes_43 : decode cX5_addStrokes 43 = .ok (.iinc 4 1, 3) := by decide +kernel
theorem dX5_addStrokes_46 : decode cX5_addStrokes 46 = .ok (.goto (-32), 3) := by decide +kernel
theorem dX5_addStrokes_49 : decode cX5_addStrokes 49 = .ok (.aload_n 0, 1) := by decide +kernel
theorem dX5_addStrokes_50 : decode cX5_addStrokes 50 = .ok (.getfield 9, 3) := by decide +kernel
theorem dX5_addStrokes_53 : decode cX5_addStrokes 53 = .ok (.iload_n 1, 1) := by decide +kernel
theorem dX5_addStrokes_54 : decode cX5_addStrokes 54 = .ok (.dup2, 1) := by decide +kernel
theorem dX5_addStrokes_55 : decode cX5_addStrokes 55 = .ok (.iaload, 1) := by decide +kernel
theorem dX5_addStrokes_56 : decode cX5_addStrokes 56 = .ok (.iload_n 3, 1) := by decide +kernel
theorem dX5_addStrokes_57 : decode cX5_addStrokes 57 = .ok (.ior, 1) := by decide +kernel
theorem dX5_addStrokes_58 : decode cX5_addStrokes 58 = .ok (.iastore, 1) := by decide +kernel
theorem dX5_addStrokes_59 : decode cX5_addStrokes 59 = .ok (.iload_n 3, 1) := by decide +kernel
theorem dX5_addStrokes_60 : decode cX5_addStrokes 60 = .ok (.invokestatic 64, 3) := by decide +kernel
theorem dX5_addStrokes_63 : decode cX5_addStrokes 63 = .ok (.ireturn, 1) := by decide +kernel
theorem dX5_growOld_0 : decode cX5_growOld 0 = .ok (.aload_n 0, 1) := by decide +kernel
theorem dX5_growOld_1 : decode cX5_growOld 1 = .ok (.dup, 1) := by decide +kernel
theorem dX5_growOld_2 : decode cX5_growOld 2 = .ok (.getfield 21, 3) := by decide +kernel
theorem dX5_growOld_5 : decode cX5_growOld 5 = .ok (.iconst 1, 1) := by decide +kernel
theorem dX5_growOld_6 : decode cX5_growOld 6 = .ok (.iadd, 1) := by decide +kernel
theorem dX5_growOld_7 : decode cX5_growOld 7 = .ok (.putfield 21, 3) := by decide +kernel
theorem dX5_growOld_10 : decode cX5_growOld 10 = .ok (.iconst 0, 1) := by decide +kernel
theorem dX5_growOld_11 : decode cX5_growOld 11 = .ok (.istore_n 1, 1) := by decide +kernel
theorem dX5_growOld_12 : decode cX5_growOld 12 = .ok (.iload_n 1, 1) := by decide +kernel
theorem dX5_growOld_13 : decode cX5_growOld 13 = .ok (.aload_n 0, 1) := by decide +kernel
theorem dX5_growOld_14 : decode cX5_growOld 14 = .ok (.getfield 18, 3) := by decide +kernel
theorem dX5_growOld_17 : decode cX5_growOld 17 = .ok (.arraylength, 1) := by decide +kernel
theorem dX5_growOld_18 : decode cX5_growOld 18 = .ok (.if_icmp .ge 29, 3) := by decide +kernel
theorem dX5_growOld_21 : decode cX5_growOld 21 = .ok (.aload_n 0, 1) := by decide +kernel
theorem dX5_growOld_22 : decode cX5_growOld 22 = .ok (.getfield 18, 3) := by decide +kernel
theorem dX5_growOld_25 : decode cX5_growOld 25 = .ok (.iload_n 1, 1) := by decide +kernel
theorem dX5_growOld_26 : decode cX5_growOld 26 = .ok (.aload_n 0, 1) := by decide +kernel
theorem dX5_growOld_27 : decode cX5_growOld 27 = .ok (.getfield 18, 3) := by decide +kernel
theorem dX5_growOld_30 : decode cX5_growOld 30 = .ok (.iload_n 1, 1) := by decide +kernel
theorem dX5_growOld_31 : decode cX5_growOld 31 = .ok (.iaload, 1) := by decide +kernel
theorem dX5_growOld_32 : decode cX5_growOld 32 = .ok (.iconst 1, 1) := by decide +kernel
theorem dX5_growOld_33 : decode cX5_growOld 33 = .ok (.iadd, 1) := by decide +kernel
theorem dX5_growOld_34 : decode cX5_growOld 34 = .ok (.sipush 999, 3) := by decide +kernel
theorem dX5_growOld_37 : decode cX5_growOld 37 = .ok (.invokestatic 70, 3) := by decide +kernel
theorem dX5_growOld_40 : decode cX5_growOld 40 = .ok (.iastore, 1) := by decide +kernel
theorem dX5_growOld_41 : decode cX5_growOld 41 = .ok (.iinc 1 1, 3) := by decide +kernel
theorem dX5_growOld_44 : decode cX5_growOld 44 = .ok (.goto (-32), 3) := by decide +kernel
theorem dX5_growOld_47 : decode cX5_growOld 47 = .ok (.return_, 1) := by decide +kernel
theorem dX5_passNights_0 : decode cX5_passNights 0 = .ok (.iconst 0, 1) := by decide +kernel
theorem dX5_passNights_1 : decode cX5_passNights 1 = .ok (.istore_n 2, 1) := by decide +kernel
theorem dX5_passNights_2 : decode cX5_passNights 2 = .ok (.iconst 0, 1) := by decide +kernel
theorem dX5_passNights_3 : decode cX5_passNights 3 = .ok (.istore_n 3, 1) := by decide +kernel
theorem dX5_passNights_4 : decode cX5_passNights 4 = .ok (.iload_n 3, 1) := by decide +kernel
theorem dX5_passNights_5 : decode cX5_passNights 5 = .ok (.aload_n 1, 1) := by decide +kernel
theorem dX5_passNights_6 : decode cX5_passNights 6 = .ok (.getfield 39, 3) := by decide +kernel
theorem dX5_passNights_9 : decode cX5_passNights 9 = .ok (.if_icmp .ge 63, 3) := by decide +kernel
theorem dX5_passNights_12 : decode cX5_passNights 12 = .ok (.aload_n 0, 1) := by decide +kernel
theorem dX5_passNights_13 : decode cX5_passNights 13 = .ok (.sipush 137, 3) := by decide +kernel
theorem dX5_passNights_16 : decode cX5_passNights 16 = .ok (.aload_n 0, 1) := by decide +kernel
theorem dX5_passNights_17 : decode cX5_passNights 17 = .ok (.getfield 25, 3) := by decide +kernel
theorem dX5_passNights_20 : decode cX5_passNights 20 = .ok (.imul, 1) := by decide +kernel
theorem dX5_passNights_21 : decode cX5_passNights 21 = .ok (.bipush 71, 2) := by decide +kernel
theorem dX5_passNights_23 : decode cX5_passNights 23 = .ok (.iadd, 1) := by decide +kernel
theorem dX5_passNights_24 : decode cX5_passNights 24 = .ok (.sipush 1000, 3) := by decide +kernel
theorem dX5_passNights_27 : decode cX5_passNights 27 = .ok (.irem, 1) := by decide +kernel
theorem dX5_passNights_28 : decode cX5_passNights 28 = .ok (.putfield 25, 3) := by decide +kernel
theorem dX5_passNights_31 : decode cX5_passNights 31 = .ok (.aload_n 0, 1) := by decide +kernel
theorem dX5_passNights_32 : decode cX5_passNights 32 = .ok (.getfield 25, 3) := by decide +kernel
theorem dX5_passNights_35 : decode cX5_passNights 35 = .ok (.bipush 100, 2) := by decide +kernel
theorem dX5_passNights_37 : decode cX5_passNights 37 = .ok (.irem, 1) := by decide +kernel
theorem dX5_passNights_38 : decode cX5_passNights 38 = .ok (.aload_n 1, 1) := by decide +kernel
theorem dX5_passNights_39 : decode cX5_passNights 39 = .ok (.getfield 73, 3) := by decide +kernel
theorem dX5_passNights_42 : decode cX5_passNights 42 = .ok (.if_icmp .ge 24, 3) := by decide +kernel
theorem dX5_passNights_45 : decode cX5_passNights 45 = .ok (.iload_n 2, 1) := by decide +kernel
theorem dX5_passNights_46 : decode cX5_passNights 46 = .ok (.iconst 1, 1) := by decide +kernel
theorem dX5_passNights_47 : decode cX5_passNights 47 = .ok (.iload_n 3, 1) := by decide +kernel
theorem dX5_passNights_48 : decode cX5_passNights 48 = .ok (.ishl, 1) := by decide +kernel
theorem dX5_passNights_49 : decode cX5_passNights 49 = .ok (.ior, 1) := by decide +kernel
theorem dX5_passNights_50 : decode cX5_passNights 50 = .ok (.istore_n 2, 1) := by decide +kernel
theorem dX5_passNights_51 : decode cX5_passNights 51 = .ok (.aload_n 0, 1) := by decide +kernel
theorem dX5_passNights_52 : decode cX5_passNights 52 = .ok (.iload_n 3, 1) := by decide +kernel
theorem dX5_passNights_53 : decode cX5_passNights 53 = .ok (.iconst 1, 1) := by decide +kernel
theorem dX5_passNights_54 : decode cX5_passNights 54 = .ok (.aload_n 0, 1) := by decide +kernel
theorem dX5_passNights_55 : decode cX5_passNights 55 = .ok (.getfield 25, 3) := by decide +kernel
theorem dX5_passNights_58 : decode cX5_passNights 58 = .ok (.bipush 12, 2) := by decide +kernel
theorem dX5_passNights_60 : decode cX5_passNights 60 = .ok (.irem, 1) := by decide +kernel
theorem dX5_passNights_61 : decode cX5_passNights 61 = .ok (.ishl, 1) := by decide +kernel
theorem dX5_passNights_62 : decode cX5_passNights 62 = .ok (.invokevirtual 76, 3) := by decide +kernel
theorem dX5_passNights_65 : decode cX5_passNights 65 = .ok (.pop, 1) := by decide +kernel
theorem dX5_passNights_66 : decode cX5_passNights 66 = .ok (.iinc 3 1, 3) := by decide +kernel
theorem dX5_passNights_69 : decode cX5_passNights 69 = .ok (.goto (-65), 3) := by decide +kernel
theorem dX5_passNights_72 : decode cX5_passNights 72 = .ok (.iload_n 2, 1) := by decide +kernel
theorem dX5_passNights_73 : decode cX5_passNights 73 = .ok (.ireturn, 1) := by decide +kernel
theorem dX6_init_0 : decode cX6_init 0 = .ok (.aload_n 0, 1) := by decide +kernel
theorem dX6_init_1 : decode cX6_init 1 = .ok (.invokespecial 3, 3) := by decide +kernel
theorem dX6_init_4 : decode cX6_init 4 = .ok (.aload_n 0, 1) := by decide +kernel
theorem dX6_init_5 : decode cX6_init 5 = .ok (.bipush 48, 2) := by decide +kernel
theorem dX6_init_7 : decode cX6_init 7 = .ok (.newarray .int, 2) := by decide +kernel
theorem dX6_init_9 : decode cX6_init 9 = .ok (.putfield 9, 3) := by decide +kernel
theorem dX6_init_12 : decode cX6_init 12 = .ok (.aload_n 0, 1) := by decide +kernel
theorem dX6_init_13 : decode cX6_init 13 = .ok (.bipush 48, 2) := by decide +kernel
theorem dX6_init_15 : decode cX6_init 15 = .ok (.newarray .int, 2) := by decide +kernel
theorem dX6_init_17 : decode cX6_init 17 = .ok (.putfield 15, 3) := by decide +kernel
theorem dX6_init_20 : decode cX6_init 20 = .ok (.aload_n 0, 1) := by decide +kernel
theorem dX6_init_21 : decode cX6_init 21 = .ok (.sipush 4096, 3) := by decide +kernel
theorem dX6_init_24 : decode cX6_init 24 = .ok (.newarray .byte, 2) := by decide +kernel
theorem dX6_init_26 : decode cX6_init 26 = .ok (.putfield 18, 3) := by decide +kernel
theorem dX6_init_29 : decode cX6_init 29 = .ok (.aload_n 0, 1) := by decide +kernel
theorem dX6_init_30 : decode cX6_init 30 = .ok (.iconst 0, 1) := by decide +kernel
theorem dX6_init_31 : decode cX6_init 31 = .ok (.putfield 22, 3) := by decide +kernel
theorem dX6_init_34 : decode cX6_init 34 = .ok (.aload_n 0, 1) := by decide +kernel
theorem dX6_init_35 : decode cX6_init 35 = .ok (.iconst (-1), 1) := by decide +kernel
theorem dX6_init_36 : decode cX6_init 36 = .ok (.putfield 26, 3) := by decide +kernel
theorem dX6_init_39 : decode cX6_init 39 = .ok (.aload_n 0, 1) := by decide +kernel
theorem dX6_init_40 : decode cX6_init 40 = .ok (.aload_n 1, 1) := by decide +kernel
theorem dX6_init_41 : decode cX6_init 41 = .ok (.putfield 29, 3) := by decide +kernel
theorem dX6_init_44 : decode cX6_init 44 = .ok (.return_, 1) := by decide +kernel
theorem dX6_layOut_0 : decode cX6_layOut 0 = .ok (.aload_n 0, 1) := by decide +kernel
theorem dX6_layOut_1 : decode cX6_layOut 1 = .ok (.aload_n 1, 1) := by decide +kernel
theorem dX6_layOut_2 : decode cX6_layOut 2 = .ok (.getfield 33, 3) := by decide +kernel
theorem dX6_layOut_5 : decode cX6_layOut 5 = .ok (.putfield 22, 3) := by decide +kernel
theorem dX6_layOut_8 : decode cX6_layOut 8 = .ok (.aload_n 0, 1) := by decide +kernel
theorem dX6_layOut_9 : decode cX6_layOut 9 = .ok (.iconst (-1), 1) := by decide +kernel
theorem dX6_layOut_10 : decode cX6_layOut 10 = .ok (.putfield 26, 3) := by decide +kernel
theorem dX6_layOut_13 : decode cX6_layOut 13 = .ok (.iconst 0, 1) := by decide +kernel
theorem dX6_layOut_14 : decode cX6_layOut 14 = .ok (.istore_n 2, 1) := by decide +kernel
theorem dX6_layOut_15 : decode cX6_layOut 15 = .ok (.iload_n 2, 1) := by decide +kernel
theorem dX6_layOut_16 : decode cX6_layOut 16 = .ok (.aload_n 0, 1) := by decide +kernel
theorem dX6_layOut_17 : decode cX6_layOut 17 = .ok (.getfield 22, 3) := by decide +kernel
theorem dX6_layOut_20 : decode cX6_layOut 20 = .ok (.if_icmp .ge 53, 3) := by decide +kernel
theorem dX6_layOut_23 : decode cX6_layOut 23 = .ok (.iconst 0, 1) := by decide +kernel
theorem dX6_layOut_24 : decode cX6_layOut 24 = .ok (.istore_n 3, 1) := by decide +kernel
theorem dX6_layOut_25 : decode cX6_layOut 25 = .ok (.iload_n 3, 1) := by decide +kernel
theorem dX6_layOut_26 : decode cX6_layOut 26 = .ok (.aload_n 0, 1) := by decide +kernel
theorem dX6_layOut_27 : decode cX6_layOut 27 = .ok (.getfield 29, 3) := by decide +kernel
theorem dX6_layOut_30 : decode cX6_layOut 30 = .ok (.invokevirtual 36, 3) := by decide +kernel
theorem dX6_layOut_33 : decode cX6_layOut 33 = .ok (.if_icmp .ge 34, 3) := by decide +kernel
theorem dX6_layOut_36 : decode cX6_layOut 36 = .ok (.aload_n 0, 1) := by decide +kernel
theorem dX6_layOut_37 : decode cX6_layOut 37 = .ok (.getfield 9, 3) := by decide +kernel
theorem dX6_layOut_40 : decode cX6_layOut 40 = .ok (.iload_n 2, 1) := by decide +kernel
theorem dX6_layOut_41 : decode cX6_layOut 41 = .ok (.bipush 8, 2) := by decide +kernel
theorem dX6_layOut_43 : decode cX6_layOut 43 = .ok (.imul, 1) := by decide +kernel
theorem dX6_layOut_44 : decode cX6_layOut 44 = .ok (.iload_n 3, 1) := by decide +kernel
theorem dX6_layOut_45 : decode cX6_layOut 45 = .ok (.iadd, 1) := by decide +kernel
theorem dX6_layOut_46 : decode cX6_layOut 46 = .ok (.aload_n 0, 1) := by decide +kernel
theorem dX6_layOut_47 : decode cX6_layOut 47 = .ok (.getfield 29, 3) := by decide +kernel
theorem dX6_layOut_50 : decode cX6_layOut 50 = .ok (.aload_n 1, 1) := by decide +kernel
theorem dX6_layOut_51 : decode cX6_layOut 51 = .ok (.getfield 42, 3) := by decide +kernel
theorem dX6_layOut_54 : decode cX6_layOut 54 = .ok (.iload_n 2, 1) := by decide +kernel
theorem dX6_layOut_55 : decode cX6_layOut 55 = .ok (.iaload, 1) := by decide +kernel
theorem dX6_layOut_56 : decode cX6_layOut 56 = .ok (.iload_n 3, 1) := by decide +kernel
theorem dX6_layOut_57 : decode cX6_layOut 57 = .ok (.invokevirtual 45, 3) := by decide +kernel
theorem dX6_layOut_60 : decode cX6_layOut 60 = .ok (.iastore, 1) := by decide +kernel
theorem dX6_layOut_61 : decode cX6_layOut 61 = .ok (.iinc 3 1, 3) := by decide +kernel
theorem dX6_layOut_64 : decode cX6_layOut 64 = .ok (.goto (-39), 3) := by decide +kernel
theorem dX6_layOut_67 : decode cX6_layOut 67 = .ok (.iinc 2 1, 3) := by decide +kernel
theorem dX6_layOut_70 : decode cX6_layOut 70 = .ok (.goto (-55), 3) := by decide +kernel
theorem dX6_layOut_73 : decode cX6_layOut 73 = .ok (.return_, 1) := by decide +kernel
theorem dX6_irons_0 : decode cX6_irons 0 = .ok (.aload_n 0, 1) := by decide +kernel
theorem dX6_irons_1 : decode cX6_irons 1 = .ok (.getfield 22, 3) := by decide +kernel
theorem dX6_irons_4 : decode cX6_irons 4 = .ok (.ireturn, 1) := by decide +kernel
theorem dX6_placements_0 : decode cX6_placements 0 = .ok (.aload_n 0, 1) := by decide +kernel
theorem dX6_placements_1 : decode cX6_placements 1 = .ok (.getfield 29, 3) := by decide +kernel
theorem dX6_placements_4 : decode cX6_placements 4 = .ok (.invokevirtual 36, 3) := by decide +kernel
theorem dX6_placements_7 : decode cX6_placements 7 = .ok (.ireturn, 1) := by decide +kernel
theorem dX6_placedIron_0 : decode cX6_placedIron 0 = .ok (.aload_n 0, 1) := by decide +kernel
theorem dX6_placedIron_1 : decode cX6_placedIron 1 = .ok (.getfield 9, 3) := by decide +kernel
theorem dX6_placedIron_4 : decode cX6_placedIron 4 = .ok (.iload_n 1, 1) := by decide +kernel
theorem dX6_placedIron_5 : decode cX6_placedIron 5 = .ok (.bipush 8, 2) := by decide +kernel
theorem dX6_placedIron_7 : decode cX6_placedIron 7 = .ok (.imul, 1) := by decide +kernel
theorem dX6_placedIron_8 : decode cX6_placedIron 8 = .ok (.iload_n 2, 1) := by decide +kernel
theorem dX6_placedIron_9 : decode cX6_placedIron 9 = .ok (.iadd, 1) := by decide +kernel
theorem dX6_placedIron_10 : decode cX6_placedIron 10 = .ok (.iaload, 1) := by decide +kernel
theorem dX6_placedIron_11 : decode cX6_placedIron 11 = .ok (.ireturn, 1) := by decide +kernel
theorem dX6_fewest_0 : decode cX6_fewest 0 = .ok (.bipush 100, 2) := by decide +kernel
theorem dX6_fewest_2 : decode cX6_fewest 2 = .ok (.istore_n 3, 1) := by decide +kernel
theorem dX6_fewest_3 : decode cX6_fewest 3 = .ok (.iconst 0, 1) := by decide +kernel
theorem dX6_fewest_4 : decode cX6_fewest 4 = .ok (.istore 4, 2) := by decide +kernel
theorem dX6_fewest_6 : decode cX6_fewest 6 = .ok (.iload 4, 2) := by decide +kernel
theorem dX6_fewest_8 : decode cX6_fewest 8 = .ok (.aload_n 0, 1) := by decide +kernel
theorem dX6_fewest_9 : decode cX6_fewest 9 = .ok (.getfield 29, 3) := by decide +kernel
theorem dX6_fewest_12 : decode cX6_fewest 12 = .ok (.invokevirtual 36, 3) := by decide +kernel
theorem dX6_fewest_15 : decode cX6_fewest 15 = .ok (.if_icmp .ge 51, 3) := by decide +kernel
theorem dX6_fewest_18 : decode cX6_fewest 18 = .ok (.aload_n 0, 1) := by decide +kernel
theorem dX6_fewest_19 : decode cX6_fewest 19 = .ok (.getfield 29, 3) := by decide +kernel
theorem dX6_fewest_22 : decode cX6_fewest 22 = .ok (.iload_n 1, 1) := by decide +kernel
theorem dX6_fewest_23 : decode cX6_fewest 23 = .ok (.iload 4, 2) := by decide +kernel
theorem dX6_fewest_25 : decode cX6_fewest 25 = .ok (.invokevirtual 45, 3) := by decide +kernel
theorem dX6_fewest_28 : decode cX6_fewest 28 = .ok (.istore 5, 2) := by decide +kernel
theorem dX6_fewest_30 : decode cX6_fewest 30 = .ok (.iload 5, 2) := by decide +kernel
theorem dX6_fewest_32 : decode cX6_fewest 32 = .ok (.iload_n 2, 1) := by decide +kernel
theorem dX6_fewest_33 : decode cX6_fewest 33 = .ok (.iconst (-1), 1) := by decide +kernel
theorem dX6_fewest_34 : decode cX6_fewest 34 = .ok (.ixor, 1) := by decide +kernel
theorem dX6_fewest_35 : decode cX6_fewest 35 = .ok (.iand, 1) := by decide +kernel
theorem dX6_fewest_36 : decode cX6_fewest 36 = .ok (.ifCond .ne 24, 3) := by decide +kernel
theorem dX6_fewest_39 : decode cX6_fewest 39 = .ok (.aload_n 0, 1) := by decide +kernel
theorem dX6_fewest_40 : decode cX6_fewest 40 = .ok (.iload_n 2, 1) := by decide +kernel
theorem dX6_fewest_41 : decode cX6_fewest 41 = .ok (.invokevirtual 49, 3) := by decide +kernel
theorem dX6_fewest_44 : decode cX6_fewest 44 = .ok (.iload_n 3, 1) := by decide +kernel
theorem dX6_fewest_45 : decode cX6_fewest 45 = .ok (.aload_n 0, 1) := by decide +kernel
theorem dX6_fewest_46 : decode cX6_fewest 46 = .ok (.getfield 18, 3) := by decide +kernel
theorem dX6_fewest_49 : decode cX6_fewest 49 = .ok (.iload_n 2, 1) := by decide +kernel
theorem dX6_fewest_50 : decode cX6_fewest 50 = .ok (.iload 5, 2) := by decide +kernel
theorem dX6_fewest_52 : decode cX6_fewest 52 = .ok (.iconst (-1), 1) := by decide +kernel
theorem dX6_fewest_53 : decode cX6_fewest 53 = .ok (.ixor, 1) := by decide +kernel
theorem dX6_fewest_54 : decode cX6_fewest 54 = .ok (.iand, 1) := by decide +kernel
theorem dX6_fewest_55 : decode cX6_fewest 55 = .ok (.baload, 1) := by decide +kernel
theorem dX6_fewest_56 : decode cX6_fewest 56 = .ok (.invokestatic 53, 3) := by decide +kernel
theorem dX6_fewest_59 : decode cX6_fewest 59 = .ok (.istore_n 3, 1) := by decide +kernel
theorem dX6_fewest_60 : decode cX6_fewest 60 = .ok (.iinc 4 1, 3) := by decide +kernel
theorem dX6_fewest_63 : decode cX6_fewest 63 = .ok (.goto (-57), 3) := by decide +kernel
theorem dX6_fewest_66 : decode cX6_fewest 66 = .ok (.iload_n 3, 1) := by decide +kernel
theorem dX6_fewest_67 : decode cX6_fewest 67 = .ok (.iconst 4, 1) := by decide +kernel
theorem dX6_fewest_68 : decode cX6_fewest 68 = .ok (.if_icmp .gt 7, 3) := by decide +kernel
theorem dX6_fewest_71 : decode cX6_fewest 71 = .ok (.iload_n 3, 1) := by decide +kernel
theorem dX6_fewest_72 : decode cX6_fewest 72 = .ok (.goto 4, 3) := by decide +kernel
theorem dX6_fewest_75 : decode cX6_fewest 75 = .ok (.iconst (-1), 1) := by decide +kernel
theorem dX6_fewest_76 : decode cX6_fewest 76 = .ok (.ireturn, 1) := by decide +kernel
theorem dX6_aimAt_0 : decode cX6_aimAt 0 = .ok (.aload_n 0, 1) := by decide +kernel
theorem dX6_aimAt_1 : decode cX6_aimAt 1 = .ok (.getfield 26, 3) := by decide +kernel
theorem dX6_aimAt_4 : decode cX6_aimAt 4 = .ok (.iload_n 1, 1) := by decide +kernel
theorem dX6_aimAt_5 : decode cX6_aimAt 5 = .ok (.if_icmp .ne 4, 3) := by decide +kernel
theorem dX6_aimAt_8 : decode cX6_aimAt 8 = .ok (.return_, 1) := by decide +kernel
theorem dX6_aimAt_9 : decode cX6_aimAt 9 = .ok (.aload_n 0, 1) := by decide +kernel
theorem dX6_aimAt_10 : decode cX6_aimAt 10 = .ok (.iload_n 1, 1) := by decide +kernel
theorem dX6_aimAt_11 : decode cX6_aimAt 11 = .ok (.putfield 26, 3) := by decide +kernel
theorem dX6_aimAt_14 : decode cX6_aimAt 14 = .ok (.aload_n 0, 1) := by decide +kernel
theorem dX6_aimAt_15 : decode cX6_aimAt 15 = .ok (.iload_n 1, 1) := by decide +kernel
theorem dX6_aimAt_16 : decode cX6_aimAt 16 = .ok (.invokevirtual 58, 3) := by decide +kernel
theorem dX6_aimAt_19 : decode cX6_aimAt 19 = .ok (.istore_n 2, 1) := by decide +kernel
theorem dX6_aimAt_20 : decode cX6_aimAt 20 = .ok (.iconst 1, 1) := by decide +kernel
theorem dX6_aimAt_21 : decode cX6_aimAt 21 = .ok (.iload_n 1, 1) := by decide +kernel
theorem dX6_aimAt_22 : decode cX6_aimAt 22 = .ok (.invokestatic 62, 3) := by decide +kernel
theorem dX6_aimAt_25 : decode cX6_aimAt 25 = .ok (.ishl, 1) := by decide +kernel
theorem dX6_aimAt_26 : decode cX6_aimAt 26 = .ok (.istore_n 3, 1) := by decide +kernel
theorem dX6_aimAt_27 : decode cX6_aimAt 27 = .ok (.iconst 0, 1) := by decide +kernel
theorem dX6_aimAt_28 : decode cX6_aimAt 28 = .ok (.istore 4, 2) := by decide +kernel
theorem dX6_aimAt_30 : decode cX6_aimAt 30 = .ok (.aload_n 0, 1) := by decide +kernel
theorem dX6_aimAt_31 : decode cX6_aimAt 31 = .ok (.getfield 18, 3) := by decide +kernel
theorem dX6_aimAt_34 : decode cX6_aimAt 34 = .ok (.iconst 0, 1) := by decide +kernel
theorem dX6_aimAt_35 : decode cX6_aimAt 35 = .ok (.iconst 0, 1) := by decide +kernel
theorem dX6_aimAt_36 : decode cX6_aimAt 36 = .ok (.bastore, 1) := by decide +kernel
theorem dX6_aimAt_37 : decode cX6_aimAt 37 = .ok (.iconst 1, 1) := by decide +kernel
theorem dX6_aimAt_38 : decode cX6_aimAt 38 = .ok (.istore 5, 2) := by decide +kernel
theorem dX6_aimAt_40 : decode cX6_aimAt 40 = .ok (.iload 5, 2) := by decide +kernel
theorem dX6_aimAt_42 : decode cX6_aimAt 42 = .ok (.iload_n 3, 1) := by decide +kernel
theorem dX6_aimAt_43 : decode cX6_aimAt 43 = .ok (.if_icmp .ge 93, 3) := by decide +kernel
theorem dX6_aimAt_46 : decode cX6_aimAt 46 = .ok (.iload 4, 2) := by decide +kernel
theorem dX6_aimAt_48 : decode cX6_aimAt 48 = .ok (.iload_n 1, 1) := by decide +kernel
theorem dX6_aimAt_49 : decode cX6_aimAt 49 = .ok (.isub, 1) := by decide +kernel
theorem dX6_aimAt_50 : decode cX6_aimAt 50 = .ok (.iload_n 1, 1) := by decide +kernel
theorem dX6_aimAt_51 : decode cX6_aimAt 51 = .ok (.iand, 1) := by decide +kernel
theorem dX6_aimAt_52 : decode cX6_aimAt 52 = .ok (.istore 4, 2) := by decide +kernel
theorem dX6_aimAt_54 : decode cX6_aimAt 54 = .ok (.iload 4, 2) := by decide +kernel
theorem dX6_aimAt_56 : decode cX6_aimAt 56 = .ok (.iload 4, 2) := by decide +kernel
theorem dX6_aimAt_58 : decode cX6_aimAt 58 = .ok (.ineg, 1) := by decide +kernel
theorem dX6_aimAt_59 : decode cX6_aimAt 59 = .ok (.iand, 1) := by decide +kernel
theorem dX6_aimAt_60 : decode cX6_aimAt 60 = .ok (.istore 6, 2) := by decide +kernel
theorem dX6_aimAt_62 : decode cX6_aimAt 62 = .ok (.bipush 100, 2) := by decide +kernel
theorem dX6_aimAt_64 : decode cX6_aimAt 64 = .ok (.istore 7, 2) := by decide +kernel
theorem dX6_aimAt_66 : decode cX6_aimAt 66 = .ok (.iconst 0, 1) := by decide +kernel
theorem dX6_aimAt_67 : decode cX6_aimAt 67 = .ok (.istore 8, 2) := by decide +kernel
theorem dX6_aimAt_69 : decode cX6_aimAt 69 = .ok (.iload 8, 2) := by decide +kernel
theorem dX6_aimAt_71 : decode cX6_aimAt 71 = .ok (.iload_n 2, 1) := by decide +kernel
theorem dX6_aimAt_72 : decode cX6_aimAt 72 = .ok (.if_icmp .ge 48, 3) := by decide +kernel
theorem dX6_aimAt_75 : decode cX6_aimAt 75 = .ok (.aload_n 0, 1) := by decide +kernel
theorem dX6_aimAt_76 : decode cX6_aimAt 76 = .ok (.getfield 15, 3) := by decide +kernel
theorem dX6_aimAt_79 : decode cX6_aimAt 79 = .ok (.iload 8, 2) := by decide +kernel
theorem dX6_aimAt_81 : decode cX6_aimAt 81 = .ok (.iaload, 1) := by decide +kernel
theorem dX6_aimAt_82 : decode cX6_aimAt 82 = .ok (.iload 6, 2) := by decide +kernel
theorem dX6_aimAt_84 : decode cX6_aimAt 84 = .ok (.iand, 1) := by decide +kernel
theorem dX6_aimAt_85 : decode cX6_aimAt 85 = .ok (.ifCond .eq 29, 3) := by decide +kernel
theorem dX6_aimAt_88 : decode cX6_aimAt 88 = .ok (.iload 7, 2) := by decide +kernel
theorem dX6_aimAt_90 : decode cX6_aimAt 90 = .ok (.aload_n 0, 1) := by decide +kernel
theorem dX6_aimAt_91 : decode cX6_aimAt 91 = .ok (.getfield 18, 3) := by decide +kernel
theorem dX6_aimAt_94 : decode cX6_aimAt 94 = .ok (.iload 4, 2) := by decide +kernel
theorem dX6_aimAt_96 : decode cX6_aimAt 96 = .ok (.aload_n 0, 1) := by decide +kernel
theorem dX6_aimAt_97 : decode cX6_aimAt 97 = .ok (.getfield 15, 3) := by decide +kernel
theorem dX6_aimAt_100 : decode cX6_aimAt 100 = .ok (.iload 8, 2) := by decide +kernel
theorem dX6_aimAt_102 : decode cX6_aimAt 102 = .ok (.iaload, 1) := by decide +kernel
theorem dX6_aimAt_103 : decode cX6_aimAt 103 = .ok (.iconst (-1), 1) := by decide +kernel
theorem dX6_aimAt_104 : decode cX6_aimAt 104 = .ok (.ixor, 1) := by decide +kernel
theorem dX6_aimAt_105 : decode cX6_aimAt 105 = .ok (.iand, 1) := by decide +kernel
theorem dX6_aimAt_106 : decode cX6_aimAt 106 = .ok (.baload, 1) := by decide +kernel
theorem dX6_aimAt_107 : decode cX6_aimAt 107 = .ok (.iconst 1, 1) := by decide +kernel
theorem dX6_aimAt_108 : decode cX6_aimAt 108 = .ok (.iadd, 1) := by decide +kernel
theorem dX6_aimAt_109 : decode cX6_aimAt 109 = .ok (.invokestatic 53, 3) := by decide +kernel
theorem dX6_aimAt_112 : decode cX6_aimAt 112 = .ok (.istore 7, 2) := by decide +kernel
theorem dX6_aimAt_114 : decode cX6_aimAt 114 = .ok (.iinc 8 1, 3) := by decide +kernel
theorem dX6_aimAt_117 : decode cX6_aimAt 117 = .ok (.goto (-48), 3) := by decide +kernel
theorem dX6_aimAt_120 : decode cX6_aimAt 120 = .ok (.aload_n 0, 1) := by decide +kernel
theorem dX6_aimAt_121 : decode cX6_aimAt 121 = .ok (.getfield 18, 3) := by decide +kernel
theorem dX6_aimAt_124 : decode cX6_aimAt 124 = .ok (.iload 4, 2) := by decide +kernel
theorem dX6_aimAt_126 : decode cX6_aimAt 126 = .ok (.iload 7, 2) := by decide +kernel
theorem dX6_aimAt_128 : decode cX6_aimAt 128 = .ok (.i2b, 1) := by decide +kernel
theorem dX6_aimAt_129 : decode cX6_aimAt 129 = .ok (.bastore, 1) := by decide +kernel
theorem dX6_aimAt_130 : decode cX6_aimAt 130 = .ok (.iinc 5 1, 3) := by decide +kernel
theorem dX6_aimAt_133 : decode cX6_aimAt 133 = .ok (.goto (-93), 3) := by decide +kernel
theorem dX6_aimAt_136 : decode cX6_aimAt 136 = .ok (.return_, 1) := by decide +kernel
theorem dX6_gatherWithin_0 : decode cX6_gatherWithin 0 = .ok (.iconst 0, 1) := by decide +kernel
theorem dX6_gatherWithin_1 : decode cX6_gatherWithin 1 = .ok (.istore_n 2, 1) := by decide +kernel
theorem dX6_gatherWithin_2 : decode cX6_gatherWithin 2 = .ok (.iconst 0, 1) := by decide +kernel
theorem dX6_gatherWithin_3 : decode cX6_gatherWithin 3 = .ok (.istore_n 3, 1) := by decide +kernel
theorem dX6_gatherWithin_4 : decode cX6_gatherWithin 4 = .ok (.iload_n 3, 1) := by decide +kernel
theorem dX6_gatherWithin_5 : decode cX6_gatherWithin 5 = .ok (.aload_n 0, 1) := by decide +kernel
theorem dX6_gatherWithin_6 : decode cX6_gatherWithin 6 = .ok (.getfield 22, 3) := by decide +kernel
theorem dX6_gatherWithin_9 : decode cX6_gatherWithin 9 = .ok (.if_icmp .ge 64, 3) := by decide +kernel
theorem dX6_gatherWithin_12 : decode cX6_gatherWithin 12 = .ok (.iconst 0, 1) := by decide +kernel
theorem dX6_gatherWithin_13 : decode cX6_gatherWithin 13 = .ok (.istore 4, 2) := by decide +kernel
theorem dX6_gatherWithin_15 : decode cX6_gatherWithin 15 = .ok (.iload 4, 2) := by decide +kernel
theorem dX6_gatherWithin_17 : decode cX6_gatherWithin 17 = .ok (.aload_n 0, 1) := by decide +kernel
theorem dX6_gatherWithin_18 : decode cX6_gatherWithin 18 = .ok (.getfield 29, 3) := by decide +kernel
theorem dX6_gatherWithin_21 : decode cX6_gatherWithin 21 = .ok (.invokevirtual 36, 3) := by decide +kernel
theorem dX6_gatherWithin_24 : decode cX6_gatherWithin 24 = .ok (.if_icmp .ge 43, 3) := by decide +kernel
theorem dX6_gatherWithin_27 : decode cX6_gatherWithin 27 = .ok (.aload_n 0, 1) := by decide +kernel
theorem dX6_gatherWithin_28 : decode cX6_gatherWithin 28 = .ok (.getfield 9, 3) := by decide +kernel
theorem dX6_gatherWithin_31 : decode cX6_gatherWithin 31 = .ok (.iload_n 3, 1) := by decide +kernel
theorem dX6_gatherWithin_32 : decode cX6_gatherWithin 32 = .ok (.bipush 8, 2) := by decide +kernel
theorem dX6_gatherWithin_34 : decode cX6_gatherWithin 34 = .ok (.imul, 1) := by decide +kernel
theorem dX6_gatherWithin_35 : decode cX6_gatherWithin 35 = .ok (.iload 4, 2) := by decide +kernel
theorem dX6_gatherWithin_37 : decode cX6_gatherWithin 37 = .ok (.iadd, 1) := by decide +kernel
theorem dX6_gatherWithin_38 : decode cX6_gatherWithin 38 = .ok (.iaload, 1) := by decide +kernel
theorem dX6_gatherWithin_39 : decode cX6_gatherWithin 39 = .ok (.istore 5, 2) := by decide +kernel
theorem dX6_gatherWithin_41 : decode cX6_gatherWithin 41 = .ok (.iload 5, 2) := by decide +kernel
theorem dX6_gatherWithin_43 : decode cX6_gatherWithin 43 = .ok (.iload_n 1, 1) := by decide +kernel
theorem dX6_gatherWithin_44 : decode cX6_gatherWithin 44 = .ok (.iconst (-1), 1) := by decide +kernel
theorem dX6_gatherWithin_45 : decode cX6_gatherWithin 45 = .ok (.ixor, 1) := by decide +kernel
theorem dX6_gatherWithin_46 : decode cX6_gatherWithin 46 = .ok (.iand, 1) := by decide +kernel
theorem dX6_gatherWithin_47 : decode cX6_gatherWithin 47 = .ok (.ifCond .ne 14, 3) := by decide +kernel
theorem dX6_gatherWithin_50 : decode cX6_gatherWithin 50 = .ok (.aload_n 0, 1) := by decide +kernel
theorem dX6_gatherWithin_51 : decode cX6_gatherWithin 51 = .ok (.getfield 15, 3) := by decide +kernel
theorem dX6_gatherWithin_54 : decode cX6_gatherWithin 54 = .ok (.iload_n 2, 1) := by decide +kernel
theorem dX6_gatherWithin_55 : decode cX6_gatherWithin 55 = .ok (.iload 5, 2) := by decide +kernel
theorem dX6_gatherWithin_57 : decode cX6_gatherWithin 57 = .ok (.iastore, 1) := by decide +kernel
theorem dX6_gatherWithin_58 : decode cX6_gatherWithin 58 = .ok (.iinc 2 1, 3) := by decide +kernel
theorem dX6_gatherWithin_61 : decode cX6_gatherWithin 61 = .ok (.iinc 4 1, 3) := by decide +kernel
theorem dX6_gatherWithin_64 : decode cX6_gatherWithin 64 = .ok (.goto (-49), 3) := by decide +kernel
theorem dX6_gatherWithin_67 : decode cX6_gatherWithin 67 = .ok (.iinc 3 1, 3) := by decide +kernel
theorem dX6_gatherWithin_70 : decode cX6_gatherWithin 70 = .ok (.goto (-66), 3) := by decide +kernel
theorem dX6_gatherWithin_73 : decode cX6_gatherWithin 73 = .ok (.iload_n 2, 1) := by decide +kernel
theorem dX6_gatherWithin_74 : decode cX6_gatherWithin 74 = .ok (.ireturn, 1) := by decide +kernel
theorem dX6_firstRow_0 : decode cX6_firstRow 0 = .ok (.iload_n 1, 1) := by decide +kernel
theorem dX6_firstRow_1 : decode cX6_firstRow 1 = .ok (.istore 5, 2) := by decide +kernel
theorem dX6_firstRow_3 : decode cX6_firstRow 3 = .ok (.iconst 0, 1) := by decide +kernel
theorem dX6_firstRow_4 : decode cX6_firstRow 4 = .ok (.istore 6, 2) := by decide +kernel
theorem dX6_firstRow_6 : decode cX6_firstRow 6 = .ok (.iload_n 3, 1) := by decide +kernel
theorem dX6_firstRow_7 : decode cX6_firstRow 7 = .ok (.iconst 1, 1) := by decide +kernel
theorem dX6_firstRow_8 : decode cX6_firstRow 8 = .ok (.isub, 1) := by decide +kernel
theorem dX6_firstRow_9 : decode cX6_firstRow 9 = .ok (.istore 7, 2) := by decide +kernel
theorem dX6_firstRow_11 : decode cX6_firstRow 11 = .ok (.iload 7, 2) := by decide +kernel
theorem dX6_firstRow_13 : decode cX6_firstRow 13 = .ok (.ifCond .lt 75, 3) := by decide +kernel
theorem dX6_firstRow_16 : decode cX6_firstRow 16 = .ok (.iload 6, 2) := by decide +kernel
theorem dX6_firstRow_18 : decode cX6_firstRow 18 = .ok (.iconst 1, 1) := by decide +kernel
theorem dX6_firstRow_19 : decode cX6_firstRow 19 = .ok (.iadd, 1) := by decide +kernel
theorem dX6_firstRow_20 : decode cX6_firstRow 20 = .ok (.aload 4, 2) := by decide +kernel
theorem dX6_firstRow_22 : decode cX6_firstRow 22 = .ok (.arraylength, 1) := by decide +kernel
theorem dX6_firstRow_23 : decode cX6_firstRow 23 = .ok (.if_icmp .ge 65, 3) := by decide +kernel
theorem dX6_firstRow_26 : decode cX6_firstRow 26 = .ok (.aload_n 0, 1) := by decide +kernel
theorem dX6_firstRow_27 : decode cX6_firstRow 27 = .ok (.iload 5, 2) := by decide +kernel
theorem dX6_firstRow_29 : decode cX6_firstRow 29 = .ok (.iload_n 2, 1) := by decide +kernel
theorem dX6_firstRow_30 : decode cX6_firstRow 30 = .ok (.iload 7, 2) := by decide +kernel
theorem dX6_firstRow_32 : decode cX6_firstRow 32 = .ok (.invokevirtual 67, 3) := by decide +kernel
theorem dX6_firstRow_35 : decode cX6_firstRow 35 = .ok (.istore 8, 2) := by decide +kernel
theorem dX6_firstRow_37 : decode cX6_firstRow 37 = .ok (.iload 8, 2) := by decide +kernel
theorem dX6_firstRow_39 : decode cX6_firstRow 39 = .ok (.iconst (-1), 1) := by decide +kernel
theorem dX6_firstRow_40 : decode cX6_firstRow 40 = .ok (.if_icmp .ne 5, 3) := by decide +kernel
theorem dX6_firstRow_43 : decode cX6_firstRow 43 = .ok (.iconst 0, 1) := by decide +kernel
theorem dX6_firstRow_44 : decode cX6_firstRow 44 = .ok (.ireturn, 1) := by decide +kernel
theorem dX6_firstRow_45 : decode cX6_firstRow 45 = .ok (.aload 4, 2) := by decide +kernel
theorem dX6_firstRow_47 : decode cX6_firstRow 47 = .ok (.iload 6, 2) := by decide +kernel
theorem dX6_firstRow_49 : decode cX6_firstRow 49 = .ok (.iload 8, 2) := by decide +kernel
theorem dX6_firstRow_51 : decode cX6_firstRow 51 = .ok (.bipush 8, 2) := by decide +kernel
theorem dX6_firstRow_53 : decode cX6_firstRow 53 = .ok (.idiv, 1) := by decide +kernel
theorem dX6_firstRow_54 : decode cX6_firstRow 54 = .ok (.iastore, 1) := by decide +kernel
theorem dX6_firstRow_55 : decode cX6_firstRow 55 = .ok (.aload 4, 2) := by decide +kernel
theorem dX6_firstRow_57 : decode cX6_firstRow 57 = .ok (.iload 6, 2) := by decide +kernel
theorem dX6_firstRow_59 : decode cX6_firstRow 59 = .ok (.iconst 1, 1) := by decide +kernel
theorem dX6_firstRow_60 : decode cX6_firstRow 60 = .ok (.iadd, 1) := by decide +kernel
theorem dX6_firstRow_61 : decode cX6_firstRow 61 = .ok (.iload 8, 2) := by decide +kernel
theorem dX6_firstRow_63 : decode cX6_firstRow 63 = .ok (.bipush 8, 2) := by decide +kernel
theorem dX6_firstRow_65 : decode cX6_firstRow 65 = .ok (.irem, 1) := by decide +kernel
theorem dX6_firstRow_66 : decode cX6_firstRow 66 = .ok (.iastore, 1) := by decide +kernel
theorem dX6_firstRow_67 : decode cX6_firstRow 67 = .ok (.iinc 6 2, 3) := by decide +kernel
theorem dX6_firstRow_70 : decode cX6_firstRow 70 = .ok (.iload 5, 2) := by decide +kernel
theorem dX6_firstRow_72 : decode cX6_firstRow 72 = .ok (.aload_n 0, 1) := by decide +kernel
theorem dX6_firstRow_73 : decode cX6_firstRow 73 = .ok (.getfield 9, 3) := by decide +kernel
theorem dX6_firstRow_76 : decode cX6_firstRow 76 = .ok (.iload 8, 2) := by decide +kernel
theorem dX6_firstRow_78 : decode cX6_firstRow 78 = .ok (.iaload, 1) := by decide +kernel
theorem dX6_firstRow_79 : decode cX6_firstRow 79 = .ok (.ior, 1) := by decide +kernel
theorem dX6_firstRow_80 : decode cX6_firstRow 80 = .ok (.istore 5, 2) := by decide +kernel
theorem dX6_firstRow_82 : decode cX6_firstRow 82 = .ok (.iinc 7 (-1), 3) := by decide +kernel
theorem dX6_firstRow_85 : decode cX6_firstRow 85 = .ok (.goto (-74), 3) := by decide +kernel
theorem dX6_firstRow_88 : decode cX6_firstRow 88 = .ok (.iload 6, 2) := by decide +kernel
theorem dX6_firstRow_90 : decode cX6_firstRow 90 = .ok (.ireturn, 1) := by decide +kernel
theorem dX6_firstStep_0 : decode cX6_firstStep 0 = .ok (.iconst 0, 1) := by decide +kernel
theorem dX6_firstStep_1 : decode cX6_firstStep 1 = .ok (.istore 4, 2) := by decide +kernel
theorem dX6_firstStep_3 : decode cX6_firstStep 3 = .ok (.iload 4, 2) := by decide +kernel
theorem dX6_firstStep_5 : decode cX6_firstStep 5 = .ok (.aload_n 0, 1) := by decide +kernel
theorem dX6_firstStep_6 : decode cX6_firstStep 6 = .ok (.getfield 22, 3) := by decide +kernel
theorem dX6_firstStep_9 : decode cX6_firstStep 9 = .ok (.if_icmp .ge 58, 3) := by decide +kernel
theorem dX6_firstStep_12 : decode cX6_firstStep 12 = .ok (.iconst 0, 1) := by decide +kernel
theorem dX6_firstStep_13 : decode cX6_firstStep 13 = .ok (.istore 5, 2) := by decide +kernel
theorem dX6_firstStep_15 : decode cX6_firstStep 15 = .ok (.iload 5, 2) := by decide +kernel
theorem dX6_firstStep_17 : decode cX6_firstStep 17 = .ok (.aload_n 0, 1) := by decide +kernel
theorem dX6_firstStep_18 : decode cX6_firstStep 18 = .ok (.getfield 29, 3) := by decide +kernel
theorem dX6_firstStep_21 : decode cX6_firstStep 21 = .ok (.invokevirtual 36, 3) := by decide +kernel
theorem dX6_firstStep_24 : decode cX6_firstStep 24 = .ok (.if_icmp .ge 37, 3) := by decide +kernel
theorem dX6_firstStep_27 : decode cX6_firstStep 27 = .ok (.aload_n 0, 1) := by decide +kernel
theorem dX6_firstStep_28 : decode cX6_firstStep 28 = .ok (.iload_n 1, 1) := by decide +kernel
theorem dX6_firstStep_29 : decode cX6_firstStep 29 = .ok (.aload_n 0, 1) := by decide +kernel
theorem dX6_firstStep_30 : decode cX6_firstStep 30 = .ok (.iload 4, 2) := by decide +kernel
theorem dX6_firstStep_32 : decode cX6_firstStep 32 = .ok (.iload 5, 2) := by decide +kernel
theorem dX6_firstStep_34 : decode cX6_firstStep 34 = .ok (.invokevirtual 71, 3) := by decide +kernel
theorem dX6_firstStep_37 : decode cX6_firstStep 37 = .ok (.ior, 1) := by decide +kernel
theorem dX6_firstStep_38 : decode cX6_firstStep 38 = .ok (.iload_n 2, 1) := by decide +kernel
theorem dX6_firstStep_39 : decode cX6_firstStep 39 = .ok (.invokevirtual 74, 3) := by decide +kernel
theorem dX6_firstStep_42 : decode cX6_firstStep 42 = .ok (.iload_n 3, 1) := by decide +kernel
theorem dX6_firstStep_43 : decode cX6_firstStep 43 = .ok (.if_icmp .ne 12, 3) := by decide +kernel
theorem dX6_firstStep_46 : decode cX6_firstStep 46 = .ok (.iload 4, 2) := by decide +kernel
theorem dX6_firstStep_48 : decode cX6_firstStep 48 = .ok (.bipush 8, 2) := by decide +kernel
theorem dX6_firstStep_50 : decode cX6_firstStep 50 = .ok (.imul, 1) := by decide +kernel
theorem dX6_firstStep_51 : decode cX6_firstStep 51 = .ok (.iload 5, 2) := by decide +kernel
theorem dX6_firstStep_53 : decode cX6_firstStep 53 = .ok (.iadd, 1) := by decide +kernel
theorem dX6_firstStep_54 : decode cX6_firstStep 54 = .ok (.ireturn, 1) := by decide +kernel
theorem dX6_firstStep_55 : decode cX6_firstStep 55 = .ok (.iinc 5 1, 3) := by decide +kernel
theorem dX6_firstStep_58 : decode cX6_firstStep 58 = .ok (.goto (-43), 3) := by decide +kernel
theorem dX6_firstStep_61 : decode cX6_firstStep 61 = .ok (.iinc 4 1, 3) := by decide +kernel
theorem dX6_firstStep_64 : decode cX6_firstStep 64 = .ok (.goto (-61), 3) := by decide +kernel
theorem dX6_firstStep_67 : decode cX6_firstStep 67 = .ok (.iconst (-1), 1) := by decide +kernel
theorem dX6_firstStep_68 : decode cX6_firstStep 68 = .ok (.ireturn, 1) := by decide +kernel
theorem dX7_init_0 : decode cX7_init 0 = .ok (.aload_n 0, 1) := by decide +kernel
theorem dX7_init_1 : decode cX7_init 1 = .ok (.invokespecial 5, 3) := by decide +kernel
theorem dX7_init_4 : decode cX7_init 4 = .ok (.aload_n 0, 1) := by decide +kernel
theorem dX7_init_5 : decode cX7_init 5 = .ok (.sipush 1600, 3) := by decide +kernel
theorem dX7_init_8 : decode cX7_init 8 = .ok (.newarray .byte, 2) := by decide +kernel
theorem dX7_init_10 : decode cX7_init 10 = .ok (.putfield 11, 3) := by decide +kernel
theorem dX7_init_13 : decode cX7_init 13 = .ok (.aload_n 0, 1) := by decide +kernel
theorem dX7_init_14 : decode cX7_init 14 = .ok (.bipush 18, 2) := by decide +kernel
theorem dX7_init_16 : decode cX7_init 16 = .ok (.newarray .long, 2) := by decide +kernel
theorem dX7_init_18 : decode cX7_init 18 = .ok (.putfield 15, 3) := by decide +kernel
theorem dX7_init_21 : decode cX7_init 21 = .ok (.aload_n 0, 1) := by decide +kernel
theorem dX7_init_22 : decode cX7_init 22 = .ok (.iconst 0, 1) := by decide +kernel
theorem dX7_init_23 : decode cX7_init 23 = .ok (.putfield 19, 3) := by decide +kernel
theorem dX7_init_26 : decode cX7_init 26 = .ok (.aload_n 0, 1) := by decide +kernel
theorem dX7_init_27 : decode cX7_init 27 = .ok (.iconst 0, 1) := by decide +kernel
theorem dX7_init_28 : decode cX7_init 28 = .ok (.putfield 23, 3) := by decide +kernel
theorem dX7_init_31 : decode cX7_init 31 = .ok (.aload_n 0, 1) := by decide +kernel
theorem dX7_init_32 : decode cX7_init 32 = .ok (.sipush 202, 3) := by decide +kernel
theorem dX7_init_35 : decode cX7_init 35 = .ok (.putfield 26, 3) := by decide +kernel
theorem dX7_init_38 : decode cX7_init 38 = .ok (.aload_n 0, 1) := by decide +kernel
theorem dX7_init_39 : decode cX7_init 39 = .ok (.iconst 0, 1) := by decide +kernel
theorem dX7_init_40 : decode cX7_init 40 = .ok (.putfield 29, 3) := by decide +kernel
theorem dX7_init_43 : decode cX7_init 43 = .ok (.aload_n 0, 1) := by decide +kernel
theorem dX7_init_44 : decode cX7_init 44 = .ok (.iconst 0, 1) := by decide +kernel
theorem dX7_init_45 : decode cX7_init 45 = .ok (.putfield 32, 3) := by decide +kernel
theorem dX7_init_48 : decode cX7_init 48 = .ok (.aload_n 0, 1) := by decide +kernel
theorem dX7_init_49 : decode cX7_init 49 = .ok (.lconst 0, 1) := by decide +kernel
theorem dX7_init_50 : decode cX7_init 50 = .ok (.putfield 35, 3) := by decide +kernel
theorem dX7_init_53 : decode cX7_init 53 = .ok (.aload_n 0, 1) := by decide +kernel
theorem dX7_init_54 : decode cX7_init 54 = .ok (.iconst 0, 1) := by decide +kernel
theorem dX7_init_55 : decode cX7_init 55 = .ok (.putfield 39, 3) := by decide +kernel
theorem dX7_init_58 : decode cX7_init 58 = .ok (.aload_n 0, 1) := by decide +kernel
theorem dX7_init_59 : decode cX7_init 59 = .ok (.iconst (-1), 1) := by decide +kernel
theorem dX7_init_60 : decode cX7_init 60 = .ok (.putfield 42, 3) := by decide +kernel
theorem dX7_init_63 : decode cX7_init 63 = .ok (.iconst 0, 1) := by decide +kernel
theorem dX7_init_64 : decode cX7_init 64 = .ok (.istore_n 1, 1) := by decide +kernel
theorem dX7_init_65 : decode cX7_init 65 = .ok (.iload_n 1, 1) := by decide +kernel
theorem dX7_init_66 : decode cX7_init 66 = .ok (.sipush 144, 3) := by decide +kernel
theorem dX7_init_69 : decode cX7_init 69 = .ok (.if_icmp .ge 61, 3) := by decide +kernel
theorem dX7_init_72 : decode cX7_init 72 = .ok (.iload_n 1, 1) := by decide +kernel
theorem dX7_init_73 : decode cX7_init 73 = .ok (.ldc 45, 2) := by decide +kernel
theorem dX7_init_75 : decode cX7_init 75 = .ok (.invokevirtual 47, 3) := by decide +kernel
theorem dX7_init_78 : decode cX7_init 78 = .ok (.if_icmp .ge 52, 3) := by decide +kernel
theorem dX7_init_81 : decode cX7_init 81 = .ok (.ldc 45, 2) := by decide +kernel
theorem dX7_init_83 : decode cX7_init 83 = .ok (.iload_n 1, 1) := by decide +kernel
theorem dX7_init_84 : decode cX7_init 84 = .ok (.invokevirtual 52, 3) := by decide +kernel
theorem dX7_init_87 : decode cX7_init 87 = .ok (.istore_n 2, 1) := by decide +kernel
theorem dX7_init_88 : decode cX7_init 88 = .ok (.iload_n 1, 1) := by decide +kernel
theorem dX7_init_89 : decode cX7_init 89 = .ok (.bipush 8, 2) := by decide +kernel
