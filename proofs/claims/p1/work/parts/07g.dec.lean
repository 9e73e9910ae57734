theorem dX3_init_45 : decode cX3_init 45 = .ok (.iload_n 1, 1) := by decide +kernel
theorem dX3_init_46 : decode cX3_init 46 = .ok (.bipush 41, 2) := by decide +kernel
theorem dX3_init_48 : decode cX3_init 48 = .ok (.if_icmp .ge 22, 3) := by decide +kernel
theorem dX3_init_51 : decode cX3_init 51 = .ok (.aload_n 0, 1) := by decide +kernel
theorem dX3_init_52 : decode cX3_init 52 = .ok (.getfield 13, 3) := by decide +kernel
theorem dX3_init_55 : decode cX3_init 55 = .ok (.iload_n 1, 1) := by decide +kernel
theorem dX3_init_56 : decode cX3_init 56 = .ok (.new 11, 3) := by decide +kernel
theorem dX3_init_59 : decode cX3_init 59 = .ok (.dup, 1) := by decide +kernel
theorem dX3_init_60 : decode cX3_init 60 = .ok (.invokespecial 34, 3) := by decide +kernel
theorem dX3_init_63 : decode cX3_init 63 = .ok (.aastore, 1) := by decide +kernel
theorem dX3_init_64 : decode cX3_init 64 = .ok (.iinc 1 1, 3) := by decide +kernel
theorem dX3_init_67 : decode cX3_init 67 = .ok (.goto (-22), 3) := by decide +kernel
theorem dX3_init_70 : decode cX3_init 70 = .ok (.iconst 0, 1) := by decide +kernel
theorem dX3_init_71 : decode cX3_init 71 = .ok (.istore_n 1, 1) := by decide +kernel
theorem dX3_init_72 : decode cX3_init 72 = .ok (.iload_n 1, 1) := by decide +kernel
theorem dX3_init_73 : decode cX3_init 73 = .ok (.iconst 3, 1) := by decide +kernel
theorem dX3_init_74 : decode cX3_init 74 = .ok (.if_icmp .ge 22, 3) := by decide +kernel
theorem dX3_init_77 : decode cX3_init 77 = .ok (.aload_n 0, 1) := by decide +kernel
theorem dX3_init_78 : decode cX3_init 78 = .ok (.getfield 17, 3) := by decide +kernel
theorem dX3_init_81 : decode cX3_init 81 = .ok (.iload_n 1, 1) := by decide +kernel
theorem dX3_init_82 : decode cX3_init 82 = .ok (.new 11, 3) := by decide +kernel
theorem dX3_init_85 : decode cX3_init 85 = .ok (.dup, 1) := by decide +kernel
theorem dX3_init_86 : decode cX3_init 86 = .ok (.invokespecial 34, 3) := by decide +kernel
theorem dX3_init_89 : decode cX3_init 89 = .ok (.aastore, 1) := by decide +kernel
theorem dX3_init_90 : decode cX3_init 90 = .ok (.iinc 1 1, 3) := by decide +kernel
theorem dX3_init_93 : decode cX3_init 93 = .ok (.goto (-21), 3) := by decide +kernel
theorem dX3_init_96 : decode cX3_init 96 = .ok (.return_, 1) := by decide +kernel
theorem dX3_keep_0 : decode cX3_keep 0 = .ok (.aload_n 0, 1) := by decide +kernel
theorem dX3_keep_1 : decode cX3_keep 1 = .ok (.getfield 17, 3) := by decide +kernel
theorem dX3_keep_4 : decode cX3_keep 4 = .ok (.iload_n 1, 1) := by decide +kernel
theorem dX3_keep_5 : decode cX3_keep 5 = .ok (.aaload, 1) := by decide +kernel
theorem dX3_keep_6 : decode cX3_keep 6 = .ok (.aload_n 0, 1) := by decide +kernel
theorem dX3_keep_7 : decode cX3_keep 7 = .ok (.invokevirtual 38, 3) := by decide +kernel
theorem dX3_keep_10 : decode cX3_keep 10 = .ok (.invokevirtual 46, 3) := by decide +kernel
theorem dX3_keep_13 : decode cX3_keep 13 = .ok (.aload_n 0, 1) := by decide +kernel
theorem dX3_keep_14 : decode cX3_keep 14 = .ok (.getfield 20, 3) := by decide +kernel
theorem dX3_keep_17 : decode cX3_keep 17 = .ok (.iload_n 1, 1) := by decide +kernel
theorem dX3_keep_18 : decode cX3_keep 18 = .ok (.iconst 1, 1) := by decide +kernel
theorem dX3_keep_19 : decode cX3_keep 19 = .ok (.bastore, 1) := by decide +kernel
theorem dX3_keep_20 : decode cX3_keep 20 = .ok (.aload_n 0, 1) := by decide +kernel
theorem dX3_keep_21 : decode cX3_keep 21 = .ok (.invokevirtual 38, 3) := by decide +kernel
theorem dX3_keep_24 : decode cX3_keep 24 = .ok (.getfield 56, 3) := by decide +kernel
theorem dX3_keep_27 : decode cX3_keep 27 = .ok (.ireturn, 1) := by decide +kernel
theorem dX3_now_0 : decode cX3_now 0 = .ok (.aload_n 0, 1) := by decide +kernel
theorem dX3_now_1 : decode cX3_now 1 = .ok (.getfield 13, 3) := by decide +kernel
theorem dX3_now_4 : decode cX3_now 4 = .ok (.aload_n 0, 1) := by decide +kernel
theorem dX3_now_5 : decode cX3_now 5 = .ok (.getfield 24, 3) := by decide +kernel
theorem dX3_now_8 : decode cX3_now 8 = .ok (.aaload, 1) := by decide +kernel
theorem dX3_now_9 : decode cX3_now 9 = .ok (.areturn, 1) := by decide +kernel
theorem dX3_redoable_0 : decode cX3_redoable 0 = .ok (.aload_n 0, 1) := by decide +kernel
theorem dX3_redoable_1 : decode cX3_redoable 1 = .ok (.getfield 31, 3) := by decide +kernel
theorem dX3_redoable_4 : decode cX3_redoable 4 = .ok (.ireturn, 1) := by decide +kernel
theorem dX3_restart_0 : decode cX3_restart 0 = .ok (.aload_n 0, 1) := by decide +kernel
theorem dX3_restart_1 : decode cX3_restart 1 = .ok (.invokevirtual 35, 3) := by decide +kernel
theorem dX3_restart_4 : decode cX3_restart 4 = .ok (.iconst 0, 1) := by decide +kernel
theorem dX3_restart_5 : decode cX3_restart 5 = .ok (.istore_n 2, 1) := by decide +kernel
theorem dX3_restart_6 : decode cX3_restart 6 = .ok (.iload_n 2, 1) := by decide +kernel
theorem dX3_restart_7 : decode cX3_restart 7 = .ok (.iconst 3, 1) := by decide +kernel
theorem dX3_restart_8 : decode cX3_restart 8 = .ok (.if_icmp .ge 16, 3) := by decide +kernel
theorem dX3_restart_11 : decode cX3_restart 11 = .ok (.aload_n 0, 1) := by decide +kernel
theorem dX3_restart_12 : decode cX3_restart 12 = .ok (.getfield 20, 3) := by decide +kernel
theorem dX3_restart_15 : decode cX3_restart 15 = .ok (.iload_n 2, 1) := by decide +kernel
theorem dX3_restart_16 : decode cX3_restart 16 = .ok (.iconst 0, 1) := by decide +kernel
theorem dX3_restart_17 : decode cX3_restart 17 = .ok (.bastore, 1) := by decide +kernel
theorem dX3_restart_18 : decode cX3_restart 18 = .ok (.iinc 2 1, 3) := by decide +kernel
theorem dX3_restart_21 : decode cX3_restart 21 = .ok (.goto (-15), 3) := by decide +kernel
theorem dX3_restart_24 : decode cX3_restart 24 = .ok (.aload_n 0, 1) := by decide +kernel
theorem dX3_restart_25 : decode cX3_restart 25 = .ok (.invokevirtual 38, 3) := by decide +kernel
theorem dX3_restart_28 : decode cX3_restart 28 = .ok (.aload_n 1, 1) := by decide +kernel
theorem dX3_restart_29 : decode cX3_restart 29 = .ok (.invokevirtual 42, 3) := by decide +kernel
theorem dX3_restart_32 : decode cX3_restart 32 = .ok (.return_, 1) := by decide +kernel
theorem dX3_stepBack_0 : decode cX3_stepBack 0 = .ok (.aload_n 0, 1) := by decide +kernel
theorem dX3_stepBack_1 : decode cX3_stepBack 1 = .ok (.getfield 28, 3) := by decide +kernel
theorem dX3_stepBack_4 : decode cX3_stepBack 4 = .ok (.ifCond .ne 5, 3) := by decide +kernel
theorem dX3_stepBack_7 : decode cX3_stepBack 7 = .ok (.iconst 0, 1) := by decide +kernel
theorem dX3_stepBack_8 : decode cX3_stepBack 8 = .ok (.ireturn, 1) := by decide +kernel
theorem dX3_stepOn_0 : decode cX3_stepOn 0 = .ok (.aload_n 0, 1) := by decide +kernel
theorem dX3_stepOn_1 : decode cX3_stepOn 1 = .ok (.getfield 31, 3) := by decide +kernel
theorem dX3_stepOn_4 : decode cX3_stepOn 4 = .ok (.ifCond .ne 5, 3) := by decide +kernel
theorem dX3_stepOn_7 : decode cX3_stepOn 7 = .ok (.iconst 0, 1) := by decide +kernel
theorem dX3_stepOn_8 : decode cX3_stepOn 8 = .ok (.ireturn, 1) := by decide +kernel
theorem dX3_undoable_0 : decode cX3_undoable 0 = .ok (.aload_n 0, 1) := by decide +kernel
theorem dX3_undoable_1 : decode cX3_undoable 1 = .ok (.getfield 28, 3) := by decide +kernel
theorem dX3_undoable_4 : decode cX3_undoable 4 = .ok (.ireturn, 1) := by decide +kernel
theorem dX4_choose_0 : decode cX4_choose 0 = .ok (.iload_n 1, 1) := by decide +kernel
theorem dX4_choose_1 : decode cX4_choose 1 = .ok (.iconst 4, 1) := by decide +kernel
theorem dX4_choose_2 : decode cX4_choose 2 = .ok (.if_icmp .ne 7, 3) := by decide +kernel
theorem dX4_choose_9 : decode cX4_choose 9 = .ok (.iload_n 1, 1) := by decide +kernel
theorem dX4_choose_10 : decode cX4_choose 10 = .ok (.iconst 2, 1) := by decide +kernel
theorem dX4_choose_11 : decode cX4_choose 11 = .ok (.if_icmp .ne 7, 3) := by decide +kernel
theorem dX4_choose_18 : decode cX4_choose 18 = .ok (.iconst 4, 1) := by decide +kernel
theorem dX4_choose_19 : decode cX4_choose 19 = .ok (.istore_n 3, 1) := by decide +kernel
theorem dX4_choose_20 : decode cX4_choose 20 = .ok (.aload_n 0, 1) := by decide +kernel
theorem dX4_choose_21 : decode cX4_choose 21 = .ok (.iconst 0, 1) := by decide +kernel
theorem dX4_choose_22 : decode cX4_choose 22 = .ok (.putfield 21, 3) := by decide +kernel
theorem dX4_choose_25 : decode cX4_choose 25 = .ok (.iconst 0, 1) := by decide +kernel
theorem dX4_choose_26 : decode cX4_choose 26 = .ok (.istore 4, 2) := by decide +kernel
theorem dX4_choose_28 : decode cX4_choose 28 = .ok (.iload 4, 2) := by decide +kernel
theorem dX4_choose_30 : decode cX4_choose 30 = .ok (.iload_n 2, 1) := by decide +kernel
theorem dX4_choose_31 : decode cX4_choose 31 = .ok (.ifCond .eq 8, 3) := by decide +kernel
theorem dX4_choose_39 : decode cX4_choose 39 = .ok (.iconst 4, 1) := by decide +kernel
theorem dX4_choose_40 : decode cX4_choose 40 = .ok (.if_icmp .ge 33, 3) := by decide +kernel
theorem dX4_choose_43 : decode cX4_choose 43 = .ok (.aload_n 0, 1) := by decide +kernel
theorem dX4_choose_44 : decode cX4_choose 44 = .ok (.getfield 18, 3) := by decide +kernel
theorem dX4_choose_47 : decode cX4_choose 47 = .ok (.aload_n 0, 1) := by decide +kernel
theorem dX4_choose_48 : decode cX4_choose 48 = .ok (.getfield 21, 3) := by decide +kernel
theorem dX4_choose_51 : decode cX4_choose 51 = .ok (.iload 4, 2) := by decide +kernel
theorem dX4_choose_53 : decode cX4_choose 53 = .ok (.iastore, 1) := by decide +kernel
theorem dX4_choose_54 : decode cX4_choose 54 = .ok (.aload_n 0, 1) := by decide +kernel
theorem dX4_choose_55 : decode cX4_choose 55 = .ok (.dup, 1) := by decide +kernel
theorem dX4_choose_56 : decode cX4_choose 56 = .ok (.getfield 21, 3) := by decide +kernel
theorem dX4_choose_59 : decode cX4_choose 59 = .ok (.iconst 1, 1) := by decide +kernel
theorem dX4_choose_60 : decode cX4_choose 60 = .ok (.iadd, 1) := by decide +kernel
theorem dX4_choose_61 : decode cX4_choose 61 = .ok (.putfield 21, 3) := by decide +kernel
theorem dX4_choose_64 : decode cX4_choose 64 = .ok (.iload 4, 2) := by decide +kernel
theorem dX4_choose_66 : decode cX4_choose 66 = .ok (.iload_n 3, 1) := by decide +kernel
theorem dX4_choose_67 : decode cX4_choose 67 = .ok (.iadd, 1) := by decide +kernel
theorem dX4_choose_68 : decode cX4_choose 68 = .ok (.istore 4, 2) := by decide +kernel
theorem dX4_choose_70 : decode cX4_choose 70 = .ok (.goto (-42), 3) := by decide +kernel
theorem dX4_choose_73 : decode cX4_choose 73 = .ok (.return_, 1) := by decide +kernel
theorem dX4_enter_0 : decode cX4_enter 0 = .ok (.iload_n 1, 1) := by decide +kernel
theorem dX4_enter_1 : decode cX4_enter 1 = .ok (.bipush 64, 2) := by decide +kernel
theorem dX4_enter_3 : decode cX4_enter 3 = .ok (.imul, 1) := by decide +kernel
theorem dX4_enter_4 : decode cX4_enter 4 = .ok (.istore 4, 2) := by decide +kernel
theorem dX4_enter_6 : decode cX4_enter 6 = .ok (.iconst 0, 1) := by decide +kernel
theorem dX4_enter_7 : decode cX4_enter 7 = .ok (.istore 5, 2) := by decide +kernel
theorem dX4_enter_9 : decode cX4_enter 9 = .ok (.iload 5, 2) := by decide +kernel
theorem dX4_enter_11 : decode cX4_enter 11 = .ok (.iconst 1, 1) := by decide +kernel
theorem dX4_enter_12 : decode cX4_enter 12 = .ok (.iload_n 2, 1) := by decide +kernel
theorem dX4_enter_13 : decode cX4_enter 13 = .ok (.ishl, 1) := by decide +kernel
theorem dX4_enter_14 : decode cX4_enter 14 = .ok (.if_icmp .ge 31, 3) := by decide +kernel
theorem dX4_enter_17 : decode cX4_enter 17 = .ok (.aload_n 0, 1) := by decide +kernel
theorem dX4_enter_18 : decode cX4_enter 18 = .ok (.iload 4, 2) := by decide +kernel
theorem dX4_enter_20 : decode cX4_enter 20 = .ok (.iconst 1, 1) := by decide +kernel
theorem dX4_enter_21 : decode cX4_enter 21 = .ok (.iload_n 2, 1) := by decide +kernel
theorem dX4_enter_22 : decode cX4_enter 22 = .ok (.ishl, 1) := by decide +kernel
theorem dX4_enter_23 : decode cX4_enter 23 = .ok (.iadd, 1) := by decide +kernel
theorem dX4_enter_24 : decode cX4_enter 24 = .ok (.iload 5, 2) := by decide +kernel
theorem dX4_enter_26 : decode cX4_enter 26 = .ok (.iadd, 1) := by decide +kernel
theorem dX4_enter_27 : decode cX4_enter 27 = .ok (.aload_n 0, 1) := by decide +kernel
theorem dX4_enter_28 : decode cX4_enter 28 = .ok (.iload 4, 2) := by decide +kernel
theorem dX4_enter_30 : decode cX4_enter 30 = .ok (.iload 5, 2) := by decide +kernel
theorem dX4_enter_32 : decode cX4_enter 32 = .ok (.iadd, 1) := by decide +kernel
theorem dX4_enter_33 : decode cX4_enter 33 = .ok (.iaload, 1) := by decide +kernel
theorem dX4_enter_34 : decode cX4_enter 34 = .ok (.iconst 1, 1) := by decide +kernel
theorem dX4_enter_35 : decode cX4_enter 35 = .ok (.iload_n 3, 1) := by decide +kernel
theorem dX4_enter_36 : decode cX4_enter 36 = .ok (.ishl, 1) := by decide +kernel
theorem dX4_enter_37 : decode cX4_enter 37 = .ok (.ior, 1) := by decide +kernel
theorem dX4_enter_38 : decode cX4_enter 38 = .ok (.iastore, 1) := by decide +kernel
theorem dX4_enter_39 : decode cX4_enter 39 = .ok (.iinc 5 1, 3) := by decide +kernel
theorem dX4_enter_42 : decode cX4_enter 42 = .ok (.goto (-33), 3) := by decide +kernel
theorem dX4_enter_45 : decode cX4_enter 45 = .ok (.return_, 1) := by decide +kernel
theorem dX4_fits_0 : decode cX4_fits 0 = .ok (.iconst 0, 1) := by decide +kernel
theorem dX4_fits_1 : decode cX4_fits 1 = .ok (.istore_n 3, 1) := by decide +kernel
theorem dX4_fits_2 : decode cX4_fits 2 = .ok (.iload_n 3, 1) := by decide +kernel
theorem dX4_fits_3 : decode cX4_fits 3 = .ok (.aload_n 0, 1) := by decide +kernel
theorem dX4_fits_4 : decode cX4_fits 4 = .ok (.getfield 21, 3) := by decide +kernel
theorem dX4_fits_7 : decode cX4_fits 7 = .ok (.if_icmp .ge 24, 3) := by decide +kernel
theorem dX4_fits_10 : decode cX4_fits 10 = .ok (.aload_n 0, 1) := by decide +kernel
theorem dX4_fits_11 : decode cX4_fits 11 = .ok (.iload_n 1, 1) := by decide +kernel
theorem dX4_fits_12 : decode cX4_fits 12 = .ok (.iload_n 3, 1) := by decide +kernel
theorem dX4_fits_13 : decode cX4_fits 13 = .ok (.invokevirtual 33, 3) := by decide +kernel
theorem dX4_fits_16 : decode cX4_fits 16 = .ok (.iload_n 2, 1) := by decide +kernel
theorem dX4_fits_17 : decode cX4_fits 17 = .ok (.iconst (-1), 1) := by decide +kernel
theorem dX4_fits_18 : decode cX4_fits 18 = .ok (.ixor, 1) := by decide +kernel
theorem dX4_fits_19 : decode cX4_fits 19 = .ok (.iand, 1) := by decide +kernel
theorem dX4_fits_20 : decode cX4_fits 20 = .ok (.ifCond .ne 5, 3) := by decide +kernel
theorem dX4_fits_23 : decode cX4_fits 23 = .ok (.iconst 1, 1) := by decide +kernel
theorem dX4_fits_24 : decode cX4_fits 24 = .ok (.ireturn, 1) := by decide +kernel
theorem dX4_fits_25 : decode cX4_fits 25 = .ok (.iinc 3 1, 3) := by decide +kernel
theorem dX4_fits_28 : decode cX4_fits 28 = .ok (.goto (-26), 3) := by decide +kernel
theorem dX4_fits_31 : decode cX4_fits 31 = .ok (.iconst 0, 1) := by decide +kernel
theorem dX4_fits_32 : decode cX4_fits 32 = .ok (.ireturn, 1) := by decide +kernel
theorem dX4_init_0 : decode cX4_init 0 = .ok (.aload_n 0, 1) := by decide +kernel
theorem dX4_init_1 : decode cX4_init 1 = .ok (.invokespecial 5, 3) := by decide +kernel
theorem dX4_init_4 : decode cX4_init 4 = .ok (.aload_n 0, 1) := by decide +kernel
theorem dX4_init_5 : decode cX4_init 5 = .ok (.sipush 512, 3) := by decide +kernel
theorem dX4_init_8 : decode cX4_init 8 = .ok (.newarray .int, 2) := by decide +kernel
theorem dX4_init_10 : decode cX4_init 10 = .ok (.putfield 11, 3) := by decide +kernel
theorem dX4_init_13 : decode cX4_init 13 = .ok (.aload_n 0, 1) := by decide +kernel
theorem dX4_init_14 : decode cX4_init 14 = .ok (.sipush 512, 3) := by decide +kernel
theorem dX4_init_17 : decode cX4_init 17 = .ok (.newarray .int, 2) := by decide +kernel
theorem dX4_init_19 : decode cX4_init 19 = .ok (.putfield 15, 3) := by decide +kernel
theorem dX4_init_22 : decode cX4_init 22 = .ok (.aload_n 0, 1) := by decide +kernel
theorem dX4_init_23 : decode cX4_init 23 = .ok (.bipush 8, 2) := by decide +kernel
theorem dX4_init_25 : decode cX4_init 25 = .ok (.newarray .int, 2) := by decide +kernel
theorem dX4_init_27 : decode cX4_init 27 = .ok (.putfield 18, 3) := by decide +kernel
theorem dX4_init_30 : decode cX4_init 30 = .ok (.aload_n 0, 1) := by decide +kernel
theorem dX4_init_31 : decode cX4_init 31 = .ok (.iconst 1, 1) := by decide +kernel
theorem dX4_init_32 : decode cX4_init 32 = .ok (.putfield 21, 3) := by decide +kernel
theorem dX4_init_35 : decode cX4_init 35 = .ok (.iconst 0, 1) := by decide +kernel
theorem dX4_init_36 : decode cX4_init 36 = .ok (.istore_n 1, 1) := by decide +kernel
theorem dX4_init_37 : decode cX4_init 37 = .ok (.iload_n 1, 1) := by decide +kernel
theorem dX4_init_38 : decode cX4_init 38 = .ok (.bipush 8, 2) := by decide +kernel
theorem dX4_init_40 : decode cX4_init 40 = .ok (.if_icmp .ge 54, 3) := by decide +kernel
theorem dX4_init_43 : decode cX4_init 43 = .ok (.iconst 0, 1) := by decide +kernel
theorem dX4_init_44 : decode cX4_init 44 = .ok (.istore_n 2, 1) := by decide +kernel
theorem dX4_init_45 : decode cX4_init 45 = .ok (.iload_n 2, 1) := by decide +kernel
theorem dX4_init_46 : decode cX4_init 46 = .ok (.bipush 6, 2) := by decide +kernel
theorem dX4_init_48 : decode cX4_init 48 = .ok (.if_icmp .ge 40, 3) := by decide +kernel
theorem dX4_init_51 : decode cX4_init 51 = .ok (.aload_n 0, 1) := by decide +kernel
theorem dX4_init_52 : decode cX4_init 52 = .ok (.getfield 11, 3) := by decide +kernel
theorem dX4_init_55 : decode cX4_init 55 = .ok (.iload_n 1, 1) := by decide +kernel
theorem dX4_init_56 : decode cX4_init 56 = .ok (.iload_n 2, 1) := by decide +kernel
theorem dX4_init_57 : decode cX4_init 57 = .ok (.iload_n 2, 1) := by decide +kernel
theorem dX4_init_58 : decode cX4_init 58 = .ok (.iload_n 1, 1) := by decide +kernel
theorem dX4_init_59 : decode cX4_init 59 = .ok (.invokestatic 25, 3) := by decide +kernel
theorem dX4_init_62 : decode cX4_init 62 = .ok (.invokestatic 29, 3) := by decide +kernel
theorem dX4_init_65 : decode cX4_init 65 = .ok (.aload_n 0, 1) := by decide +kernel
theorem dX4_init_66 : decode cX4_init 66 = .ok (.getfield 15, 3) := by decide +kernel
theorem dX4_init_69 : decode cX4_init 69 = .ok (.iload_n 1, 1) := by decide +kernel
theorem dX4_init_70 : decode cX4_init 70 = .ok (.iload_n 2, 1) := by decide +kernel
theorem dX4_init_71 : decode cX4_init 71 = .ok (.iload_n 2, 1) := by decide +kernel
theorem dX4_init_72 : decode cX4_init 72 = .ok (.bipush 6, 2) := by decide +kernel
theorem dX4_init_74 : decode cX4_init 74 = .ok (.iadd, 1) := by decide +kernel
theorem dX4_init_75 : decode cX4_init 75 = .ok (.iload_n 1, 1) := by decide +kernel
theorem dX4_init_76 : decode cX4_init 76 = .ok (.invokestatic 25, 3) := by decide +kernel
theorem dX4_init_79 : decode cX4_init 79 = .ok (.invokestatic 29, 3) := by decide +kernel
theorem dX4_init_82 : decode cX4_init 82 = .ok (.iinc 2 1, 3) := by decide +kernel
theorem dX4_init_85 : decode cX4_init 85 = .ok (.goto (-40), 3) := by decide +kernel
theorem dX4_init_88 : decode cX4_init 88 = .ok (.iinc 1 1, 3) := by decide +kernel
theorem dX4_init_91 : decode cX4_init 91 = .ok (.goto (-54), 3) := by decide +kernel
theorem dX4_init_94 : decode cX4_init 94 = .ok (.return_, 1) := by decide +kernel
theorem dX4_least_0 : decode cX4_least 0 = .ok (.iload_n 1, 1) := by decide +kernel
theorem dX4_least_1 : decode cX4_least 1 = .ok (.istore_n 2, 1) := by decide +kernel
theorem dX4_least_2 : decode cX4_least 2 = .ok (.iconst 1, 1) := by decide +kernel
theorem dX4_least_3 : decode cX4_least 3 = .ok (.istore_n 3, 1) := by decide +kernel
theorem dX4_least_4 : decode cX4_least 4 = .ok (.iload_n 3, 1) := by decide +kernel
theorem dX4_least_5 : decode cX4_least 5 = .ok (.aload_n 0, 1) := by decide +kernel
theorem dX4_least_6 : decode cX4_least 6 = .ok (.getfield 21, 3) := by decide +kernel
theorem dX4_least_9 : decode cX4_least 9 = .ok (.if_icmp .ge 20, 3) := by decide +kernel
theorem dX4_least_29 : decode cX4_least 29 = .ok (.iload_n 2, 1) := by decide +kernel
theorem dX4_least_30 : decode cX4_least 30 = .ok (.ireturn, 1) := by decide +kernel
theorem dX4_moved_0 : decode cX4_moved 0 = .ok (.aload_n 0, 1) := by decide +kernel
theorem dX4_moved_1 : decode cX4_moved 1 = .ok (.getfield 18, 3) := by decide +kernel
theorem dX4_moved_4 : decode cX4_moved 4 = .ok (.iload_n 2, 1) := by decide +kernel
theorem dX4_moved_5 : decode cX4_moved 5 = .ok (.iaload, 1) := by decide +kernel
theorem dX4_moved_6 : decode cX4_moved 6 = .ok (.bipush 64, 2) := by decide +kernel
theorem dX4_moved_8 : decode cX4_moved 8 = .ok (.imul, 1) := by decide +kernel
theorem dX4_moved_9 : decode cX4_moved 9 = .ok (.istore_n 3, 1) := by decide +kernel
theorem dX4_moved_10 : decode cX4_moved 10 = .ok (.aload_n 0, 1) := by decide +kernel
theorem dX4_moved_11 : decode cX4_moved 11 = .ok (.getfield 11, 3) := by decide +kernel
theorem dX4_moved_14 : decode cX4_moved 14 = .ok (.iload_n 3, 1) := by decide +kernel
theorem dX4_moved_15 : decode cX4_moved 15 = .ok (.iload_n 1, 1) := by decide +kernel
theorem dX4_moved_16 : decode cX4_moved 16 = .ok (.bipush 63, 2) := by decide +kernel
theorem dX4_moved_18 : decode cX4_moved 18 = .ok (.iand, 1) := by decide +kernel
theorem dX4_moved_19 : decode cX4_moved 19 = .ok (.iadd, 1) := by decide +kernel
theorem dX4_moved_20 : decode cX4_moved 20 = .ok (.iaload, 1) := by decide +kernel
theorem dX4_moved_21 : decode cX4_moved 21 = .ok (.aload_n 0, 1) := by decide +kernel
theorem dX4_moved_22 : decode cX4_moved 22 = .ok (.getfield 15, 3) := by decide +kernel
theorem dX4_moved_25 : decode cX4_moved 25 = .ok (.iload_n 3, 1) := by decide +kernel
theorem dX4_moved_26 : decode cX4_moved 26 = .ok (.iload_n 1, 1) := by decide +kernel
theorem dX4_moved_27 : decode cX4_moved 27 = .ok (.bipush 6, 2) := by decide +kernel
theorem dX4_moved_29 : decode cX4_moved 29 = .ok (.ishr, 1) := by decide +kernel
theorem dX4_moved_30 : decode cX4_moved 30 = .ok (.bipush 63, 2) := by decide +kernel
theorem dX4_moved_32 : decode cX4_moved 32 = .ok (.iand, 1) := by decide +kernel
theorem dX4_moved_33 : decode cX4_moved 33 = .ok (.iadd, 1) := by decide +kernel
theorem dX4_moved_34 : decode cX4_moved 34 = .ok (.iaload, 1) := by decide +kernel
theorem dX4_moved_35 : decode cX4_moved 35 = .ok (.ior, 1) := by decide +kernel
theorem dX4_moved_36 : decode cX4_moved 36 = .ok (.ireturn, 1) := by decide +kernel
theorem dX4_movedStroke_0 : decode cX4_movedStroke 0 = .ok (.iload_n 0, 1) := by decide +kernel
theorem dX4_movedStroke_1 : decode cX4_movedStroke 1 = .ok (.bipush 6, 2) := by decide +kernel
theorem dX4_movedStroke_3 : decode cX4_movedStroke 3 = .ok (.isub, 1) := by decide +kernel
theorem dX4_movedStroke_4 : decode cX4_movedStroke 4 = .ok (.istore_n 2, 1) := by decide +kernel
theorem dX4_movedStroke_5 : decode cX4_movedStroke 5 = .ok (.iload_n 2, 1) := by decide +kernel
theorem dX4_movedStroke_6 : decode cX4_movedStroke 6 = .ok (.ifCond .ge 13, 3) := by decide +kernel
theorem dX4_movedStroke_9 : decode cX4_movedStroke 9 = .ok (.iconst 2, 1) := by decide +kernel
theorem dX4_movedStroke_10 : decode cX4_movedStroke 10 = .ok (.iload_n 0, 1) := by decide +kernel
theorem dX4_movedStroke_11 : decode cX4_movedStroke 11 = .ok (.iconst 2, 1) := by decide +kernel
theorem dX4_movedStroke_12 : decode cX4_movedStroke 12 = .ok (.irem, 1) := by decide +kernel
theorem dX4_movedStroke_13 : decode cX4_movedStroke 13 = .ok (.imul, 1) := by decide +kernel
theorem dX4_movedStroke_14 : decode cX4_movedStroke 14 = .ok (.iconst 1, 1) := by decide +kernel
theorem dX4_movedStroke_15 : decode cX4_movedStroke 15 = .ok (.iadd, 1) := by decide +kernel
theorem dX4_movedStroke_16 : decode cX4_movedStroke 16 = .ok (.goto 8, 3) := by decide +kernel
theorem dX4_movedStroke_19 : decode cX4_movedStroke 19 = .ok (.iconst 2, 1) := by decide +kernel
theorem dX4_movedStroke_20 : decode cX4_movedStroke 20 = .ok (.iload_n 2, 1) := by decide +kernel
theorem dX4_movedStroke_21 : decode cX4_movedStroke 21 = .ok (.iconst 3, 1) := by decide +kernel
theorem dX4_movedStroke_22 : decode cX4_movedStroke 22 = .ok (.irem, 1) := by decide +kernel
theorem dX4_movedStroke_23 : decode cX4_movedStroke 23 = .ok (.imul, 1) := by decide +kernel
theorem dX4_movedStroke_24 : decode cX4_movedStroke 24 = .ok (.istore_n 3, 1) := by decide +kernel
theorem dX4_movedStroke_25 : decode cX4_movedStroke 25 = .ok (.iload_n 2, 1) := by decide +kernel
theorem dX4_movedStroke_26 : decode cX4_movedStroke 26 = .ok (.ifCond .ge 11, 3) := by decide +kernel
theorem dX4_movedStroke_29 : decode cX4_movedStroke 29 = .ok (.iconst 2, 1) := by decide +kernel
theorem dX4_movedStroke_30 : decode cX4_movedStroke 30 = .ok (.iload_n 0, 1) := by decide +kernel
theorem dX4_movedStroke_31 : decode cX4_movedStroke 31 = .ok (.iconst 2, 1) := by decide +kernel
theorem dX4_movedStroke_32 : decode cX4_movedStroke 32 = .ok (.idiv, 1) := by decide +kernel
theorem dX4_movedStroke_33 : decode cX4_movedStroke 33 = .ok (.imul, 1) := by decide +kernel
theorem dX4_movedStroke_34 : decode cX4_movedStroke 34 = .ok (.goto 10, 3) := by decide +kernel
theorem dX4_movedStroke_37 : decode cX4_movedStroke 37 = .ok (.iconst 2, 1) := by decide +kernel
theorem dX4_movedStroke_38 : decode cX4_movedStroke 38 = .ok (.iload_n 2, 1) := by decide +kernel
theorem dX4_movedStroke_39 : decode cX4_movedStroke 39 = .ok (.iconst 3, 1) := by decide +kernel
theorem dX4_movedStroke_40 : decode cX4_movedStroke 40 = .ok (.idiv, 1) := by decide +kernel
theorem dX4_movedStroke_41 : decode cX4_movedStroke 41 = .ok (.imul, 1) := by decide +kernel
theorem dX4_movedStroke_42 : decode cX4_movedStroke 42 = .ok (.iconst 1, 1) := by decide +kernel
theorem dX4_movedStroke_43 : decode cX4_movedStroke 43 = .ok (.iadd, 1) := by decide +kernel
theorem dX4_movedStroke_44 : decode cX4_movedStroke 44 = .ok (.istore 4, 2) := by decide +kernel
theorem dX4_movedStroke_46 : decode cX4_movedStroke 46 = .ok (.iload_n 1, 1) := by decide +kernel
theorem dX4_movedStroke_47 : decode cX4_movedStroke 47 = .ok (.iconst 4, 1) := by decide +kernel
theorem dX4_movedStroke_48 : decode cX4_movedStroke 48 = .ok (.if_icmp .lt 7, 3) := by decide +kernel
theorem dX4_movedStroke_51 : decode cX4_movedStroke 51 = .ok (.iconst 4, 1) := by decide +kernel
theorem dX4_movedStroke_52 : decode cX4_movedStroke 52 = .ok (.iload_n 3, 1) := by decide +kernel
theorem dX4_movedStroke_53 : decode cX4_movedStroke 53 = .ok (.isub, 1) := by decide +kernel
theorem dX4_movedStroke_54 : decode cX4_movedStroke 54 = .ok (.istore_n 3, 1) := by decide +kernel
theorem dX4_movedStroke_55 : decode cX4_movedStroke 55 = .ok (.iconst 0, 1) := by decide +kernel
theorem dX4_movedStroke_56 : decode cX4_movedStroke 56 = .ok (.istore 5, 2) := by decide +kernel
theorem dX4_movedStroke_58 : decode cX4_movedStroke 58 = .ok (.iload 5, 2) := by decide +kernel
theorem dX4_movedStroke_60 : decode cX4_movedStroke 60 = .ok (.iload_n 1, 1) := by decide +kernel
theorem dX4_movedStroke_61 : decode cX4_movedStroke 61 = .ok (.iconst 4, 1) := by decide +kernel
theorem dX4_movedStroke_62 : decode cX4_movedStroke 62 = .ok (.irem, 1) := by decide +kernel
theorem dX4_movedStroke_63 : decode cX4_movedStroke 63 = .ok (.if_icmp .ge 21, 3) := by decide +kernel
theorem dX4_movedStroke_66 : decode cX4_movedStroke 66 = .ok (.iload_n 3, 1) := by decide +kernel
theorem dX4_movedStroke_67 : decode cX4_movedStroke 67 = .ok (.istore 6, 2) := by decide +kernel
theorem dX4_movedStroke_69 : decode cX4_movedStroke 69 = .ok (.iconst 4, 1) := by decide +kernel
theorem dX4_movedStroke_70 : decode cX4_movedStroke 70 = .ok (.iload 4, 2) := by decide +kernel
theorem dX4_movedStroke_72 : decode cX4_movedStroke 72 = .ok (.isub, 1) := by decide +kernel
theorem dX4_movedStroke_73 : decode cX4_movedStroke 73 = .ok (.istore_n 3, 1) := by decide +kernel
theorem dX4_movedStroke_74 : decode cX4_movedStroke 74 = .ok (.iload 6, 2) := by decide +kernel
theorem dX4_movedStroke_76 : decode cX4_movedStroke 76 = .ok (.istore 4, 2) := by decide +kernel
theorem dX4_movedStroke_78 : decode cX4_movedStroke 78 = .ok (.iinc 5 1, 3) := by decide +kernel
theorem dX4_movedStroke_81 : decode cX4_movedStroke 81 = .ok (.goto (-23), 3) := by decide +kernel
theorem dX4_movedStroke_84 : decode cX4_movedStroke 84 = .ok (.iload 4, 2) := by decide +kernel
theorem dX4_movedStroke_86 : decode cX4_movedStroke 86 = .ok (.iconst 2, 1) := by decide +kernel
theorem dX4_movedStroke_87 : decode cX4_movedStroke 87 = .ok (.irem, 1) := by decide +kernel
theorem dX4_movedStroke_88 : decode cX4_movedStroke 88 = .ok (.ifCond .ne 12, 3) := by decide +kernel
theorem dX4_movedStroke_91 : decode cX4_movedStroke 91 = .ok (.iload 4, 2) := by decide +kernel
theorem dX4_movedStroke_93 : decode cX4_movedStroke 93 = .ok (.iload_n 3, 1) := by decide +kernel
theorem dX4_movedStroke_94 : decode cX4_movedStroke 94 = .ok (.iconst 2, 1) := by decide +kernel
theorem dX4_movedStroke_95 : decode cX4_movedStroke 95 = .ok (.idiv, 1) := by decide +kernel
theorem dX4_movedStroke_96 : decode cX4_movedStroke 96 = .ok (.iadd, 1) := by decide +kernel
theorem dX4_movedStroke_97 : decode cX4_movedStroke 97 = .ok (.goto 16, 3) := by decide +kernel
theorem dX4_movedStroke_100 : decode cX4_movedStroke 100 = .ok (.bipush 6, 2) := by decide +kernel
theorem dX4_movedStroke_102 : decode cX4_movedStroke 102 = .ok (.iconst 3, 1) := by decide +kernel
theorem dX4_movedStroke_103 : decode cX4_movedStroke 103 = .ok (.iload 4, 2) := by decide +kernel
theorem dX4_movedStroke_105 : decode cX4_movedStroke 105 = .ok (.iconst 2, 1) := by decide +kernel
theorem dX4_movedStroke_106 : decode cX4_movedStroke 106 = .ok (.idiv, 1) := by decide +kernel
theorem dX4_movedStroke_107 : decode cX4_movedStroke 107 = .ok (.imul, 1) := by decide +kernel
theorem dX4_movedStroke_108 : decode cX4_movedStroke 108 = .ok (.iadd, 1) := by decide +kernel
theorem dX4_movedStroke_109 : decode cX4_movedStroke 109 = .ok (.iload_n 3, 1) := by decide +kernel
theorem dX4_movedStroke_110 : decode cX4_movedStroke 110 = .ok (.iconst 2, 1) := by decide +kernel
theorem dX4_movedStroke_111 : decode cX4_movedStroke 111 = .ok (.idiv, 1) := by decide +kernel
theorem dX4_movedStroke_112 : decode cX4_movedStroke 112 = .ok (.iadd, 1) := by decide +kernel
theorem dX4_movedStroke_113 : decode cX4_movedStroke 113 = .ok (.ireturn, 1) := by decide +kernel
theorem dX4_placements_0 : decode cX4_placements 0 = .ok (.aload_n 0, 1) := by decide +kernel
theorem dX4_placements_1 : decode cX4_placements 1 = .ok (.getfield 21, 3) := by decide +kernel
theorem dX4_placements_4 : decode cX4_placements 4 = .ok (.ireturn, 1) := by decide +kernel
theorem dX4_unlikePlacements_0 : decode cX4_unlikePlacements 0 = .ok (.iconst 0, 1) := by decide +kernel
theorem dX4_unlikePlacements_1 : decode cX4_unlikePlacements 1 = .ok (.istore_n 2, 1) := by decide +kernel
theorem dX4_unlikePlacements_2 : decode cX4_unlikePlacements 2 = .ok (.iconst 0, 1) := by decide +kernel
theorem dX4_unlikePlacements_3 : decode cX4_unlikePlacements 3 = .ok (.istore_n 3, 1) := by decide +kernel
theorem dX4_unlikePlacements_4 : decode cX4_unlikePlacements 4 = .ok (.iload_n 3, 1) := by decide +kernel
theorem dX4_unlikePlacements_5 : decode cX4_unlikePlacements 5 = .ok (.aload_n 0, 1) := by decide +kernel
theorem dX4_unlikePlacements_6 : decode cX4_unlikePlacements 6 = .ok (.getfield 21, 3) := by decide +kernel
theorem dX4_unlikePlacements_9 : decode cX4_unlikePlacements 9 = .ok (.if_icmp .ge 72, 3) := by decide +kernel
theorem dX4_unlikePlacements_12 : decode cX4_unlikePlacements 12 = .ok (.aload_n 0, 1) := by decide +kernel
theorem dX4_unlikePlacements_13 : decode cX4_unlikePlacements 13 = .ok (.iload_n 1, 1) := by decide +kernel
theorem dX4_unlikePlacements_14 : decode cX4_unlikePlacements 14 = .ok (.iload_n 3, 1) := by decide +kernel
theorem dX4_unlikePlacements_15 : decode cX4_unlikePlacements 15 = .ok (.invokevirtual 33, 3) := by decide +kernel
theorem dX4_unlikePlacements_18 : decode cX4_unlikePlacements 18 = .ok (.istore 4, 2) := by decide +kernel
theorem dX4_unlikePlacements_20 : decode cX4_unlikePlacements 20 = .ok (.iconst 1, 1) := by decide +kernel
theorem dX4_unlikePlacements_21 : decode cX4_unlikePlacements 21 = .ok (.istore 5, 2) := by decide +kernel
theorem dX4_unlikePlacements_23 : decode cX4_unlikePlacements 23 = .ok (.iconst 0, 1) := by decide +kernel
theorem dX4_unlikePlacements_24 : decode cX4_unlikePlacements 24 = .ok (.istore 6, 2) := by decide +kernel
theorem dX4_unlikePlacements_26 : decode cX4_unlikePlacements 26 = .ok (.iload 6, 2) := by decide +kernel
theorem dX4_unlikePlacements_28 : decode cX4_unlikePlacements 28 = .ok (.iload_n 3, 1) := by decide +kernel
theorem dX4_unlikePlacements_29 : decode cX4_unlikePlacements 29 = .ok (.if_icmp .ge 33, 3) := by decide +kernel
theorem dX4_unlikePlacements_62 : decode cX4_unlikePlacements 62 = .ok (.iload_n 2, 1) := by decide +kernel
theorem dX4_unlikePlacements_63 : decode cX4_unlikePlacements 63 = .ok (.iload 5, 2) := by decide +kernel
theorem dX4_unlikePlacements_65 : decode cX4_unlikePlacements 65 = .ok (.ifCond .eq 7, 3) := by decide +kernel
theorem dX4_unlikePlacements_68 : decode cX4_unlikePlacements 68 = .ok (.iconst 1, 1) := by decide +kernel
theorem dX4_unlikePlacements_69 : decode cX4_unlikePlacements 69 = .ok (.goto 4, 3) := by decide +kernel
theorem dX4_unlikePlacements_73 : decode cX4_unlikePlacements 73 = .ok (.iadd, 1) := by decide +kernel
theorem dX4_unlikePlacements_74 : decode cX4_unlikePlacements 74 = .ok (.istore_n 2, 1) := by decide +kernel
theorem dX4_unlikePlacements_75 : decode cX4_unlikePlacements 75 = .ok (.iinc 3 1, 3) := by decide +kernel
theorem dX4_unlikePlacements_78 : decode cX4_unlikePlacements 78 = .ok (.goto (-74), 3) := by decide +kernel
theorem dX4_unlikePlacements_81 : decode cX4_unlikePlacements 81 = .ok (.iload_n 2, 1) := by decide +kernel
theorem dX4_unlikePlacements_82 : decode cX4_unlikePlacements 82 = .ok (.ireturn, 1) := by decide +kernel
theorem dX5_copyFrom_0 : decode cX5_copyFrom 0 = .ok (.aload_n 1, 1) := by decide +kernel
theorem dX5_copyFrom_1 : decode cX5_copyFrom 1 = .ok (.getfield 9, 3) := by decide +kernel
theorem dX5_copyFrom_4 : decode cX5_copyFrom 4 = .ok (.iconst 0, 1) := by decide +kernel
theorem dX5_copyFrom_5 : decode cX5_copyFrom 5 = .ok (.aload_n 0, 1) := by decide +kernel
theorem dX5_copyFrom_6 : decode cX5_copyFrom 6 = .ok (.getfield 9, 3) := by decide +kernel
theorem dX5_copyFrom_9 : decode cX5_copyFrom 9 = .ok (.iconst 0, 1) := by decide +kernel
theorem dX5_copyFrom_10 : decode cX5_copyFrom 10 = .ok (.bipush 8, 2) := by decide +kernel
theorem dX5_copyFrom_12 : decode cX5_copyFrom 12 = .ok (.invokestatic 28, 3) := by decide +kernel
theorem dX5_copyFrom_15 : decode cX5_copyFrom 15 = .ok (.aload_n 1, 1) := by decide +kernel
theorem dX5_copyFrom_16 : decode cX5_copyFrom 16 = .ok (.getfield 15, 3) := by decide +kernel
theorem dX5_copyFrom_19 : decode cX5_copyFrom 19 = .ok (.iconst 0, 1) := by decide +kernel
theorem dX5_copyFrom_20 : decode cX5_copyFrom 20 = .ok (.aload_n 0, 1) := by decide +kernel
theorem dX5_copyFrom_21 : decode cX5_copyFrom 21 = .ok (.getfield 15, 3) := by decide +kernel
theorem dX5_copyFrom_24 : decode cX5_copyFrom 24 = .ok (.iconst 0, 1) := by decide +kernel
theorem dX5_copyFrom_25 : decode cX5_copyFrom 25 = .ok (.bipush 8, 2) := by decide +kernel
theorem dX5_copyFrom_27 : decode cX5_copyFrom 27 = .ok (.invokestatic 28, 3) := by decide +kernel
theorem dX5_copyFrom_30 : decode cX5_copyFrom 30 = .ok (.aload_n 1, 1) := by decide +kernel
theorem dX5_copyFrom_31 : decode cX5_copyFrom 31 = .ok (.getfield 18, 3) := by decide +kernel
theorem dX5_copyFrom_34 : decode cX5_copyFrom 34 = .ok (.iconst 0, 1) := by decide +kernel
theorem dX5_copyFrom_35 : decode cX5_copyFrom 35 = .ok (.aload_n 0, 1) := by decide +kernel
theorem dX5_copyFrom_36 : decode cX5_copyFrom 36 = .ok (.getfield 18, 3) := by decide +kernel
theorem dX5_copyFrom_39 : decode cX5_copyFrom 39 = .ok (.iconst 0, 1) := by decide +kernel
theorem dX5_copyFrom_40 : decode cX5_copyFrom 40 = .ok (.bipush 96, 2) := by decide +kernel
theorem dX5_copyFrom_42 : decode cX5_copyFrom 42 = .ok (.invokestatic 28, 3) := by decide +kernel
theorem dX5_copyFrom_45 : decode cX5_copyFrom 45 = .ok (.aload_n 0, 1) := by decide +kernel
theorem dX5_copyFrom_46 : decode cX5_copyFrom 46 = .ok (.aload_n 1, 1) := by decide +kernel
theorem dX5_copyFrom_47 : decode cX5_copyFrom 47 = .ok (.getfield 21, 3) := by decide +kernel
theorem dX5_copyFrom_50 : decode cX5_copyFrom 50 = .ok (.putfield 21, 3) := by decide +kernel
theorem dX5_copyFrom_53 : decode cX5_copyFrom 53 = .ok (.aload_n 0, 1) := by decide +kernel
theorem dX5_copyFrom_54 : decode cX5_copyFrom 54 = .ok (.aload_n 1, 1) := by decide +kernel
theorem dX5_copyFrom_55 : decode cX5_copyFrom 55 = .ok (.getfield 25, 3) := by decide +kernel
theorem dX5_copyFrom_58 : decode cX5_copyFrom 58 = .ok (.putfield 25, 3) := by decide +kernel
theorem dX5_copyFrom_61 : decode cX5_copyFrom 61 = .ok (.return_, 1) := by decide +kernel
theorem dX5_growOld_0 : decode cX5_growOld 0 = .ok (.aload_n 0, 1) := by decide +kernel
theorem dX5_growOld_1 : decode cX5_growOld 1 = .ok (.dup, 1) := by decide +kernel
theorem dX5_growOld_2 : decode cX5_growOld 2 = .ok (.getfield 21, 3) := by decide +kernel
theorem dX5_growOld_5 : decode cX5_growOld 5 = .ok (.iconst 1, 1) := by decide +kernel
theorem dX5_growOld_6 : decode cX5_growOld 6 = .ok (.iadd, 1) := by decide +kernel
theorem dX5_growOld_7 : decode cX5_growOld 7 = .ok (.putfield 21, 3) := by decide +kernel
theorem dX5_growOld_10 : decode cX5_growOld 10 = .ok (.iconst 0, 1) := by decide +kernel
theorem dX5_growOld_11 : decode cX5_growOld 11 = .ok (.istore_n 1, 1) := by decide +kernel
theorem dX5_growOld_12 : decode cX5_growOld 12 = .ok (.iload_n 1, 1) := by decide +kernel
theorem dX5_growOld_13 : decode cX5_growOld 13 = .ok (.aload_n 0, 1) := by decide +kernel
theorem dX5_growOld_14 : decode cX5_growOld 14 = .ok (.getfield 18, 3) := by decide +kernel
theorem dX5_growOld_17 : decode cX5_growOld 17 = .ok (.arraylength, 1) := by decide +kernel
theorem dX5_growOld_18 : decode cX5_growOld 18 = .ok (.if_icmp .ge 29, 3) := by decide +kernel
theorem dX5_growOld_21 : decode cX5_growOld 21 = .ok (.aload_n 0, 1) := by decide +kernel
theorem dX5_growOld_22 : decode cX5_growOld 22 = .ok (.getfield 18, 3) := by decide +kernel
theorem dX5_growOld_25 : decode cX5_growOld 25 = .ok (.iload_n 1, 1) := by decide +kernel
theorem dX5_growOld_26 : decode cX5_growOld 26 = .ok (.aload_n 0, 1) := by decide +kernel
theorem dX5_growOld_27 : decode cX5_growOld 27 = .ok (.getfield 18, 3) := by decide +kernel
theorem dX5_growOld_30 : decode cX5_growOld 30 = .ok (.iload_n 1, 1) := by decide +kernel
theorem dX5_growOld_31 : decode cX5_growOld 31 = .ok (.iaload, 1) := by decide +kernel
theorem dX5_growOld_32 : decode cX5_growOld 32 = .ok (.iconst 1, 1) := by decide +kernel
theorem dX5_growOld_33 : decode cX5_growOld 33 = .ok (.iadd, 1) := by decide +kernel
theorem dX5_growOld_34 : decode cX5_growOld 34 = .ok (.sipush 999, 3) := by decide +kernel
theorem dX5_growOld_37 : decode cX5_growOld 37 = .ok (.invokestatic 70, 3) := by decide +kernel
theorem dX5_growOld_40 : decode cX5_growOld 40 = .ok (.iastore, 1) := by decide +kernel
theorem dX5_growOld_41 : decode cX5_growOld 41 = .ok (.iinc 1 1, 3) := by decide +kernel
theorem dX5_growOld_44 : decode cX5_growOld 44 = .ok (.goto (-32), 3) := by decide +kernel
theorem dX5_growOld_47 : decode cX5_growOld 47 = .ok (.return_, 1) := by decide +kernel
theorem dX5_init_0 : decode cX5_init 0 = .ok (.aload_n 0, 1) := by decide +kernel
theorem dX5_init_1 : decode cX5_init 1 = .ok (.invokespecial 3, 3) := by decide +kernel
theorem dX5_init_4 : decode cX5_init 4 = .ok (.aload_n 0, 1) := by decide +kernel
theorem dX5_init_5 : decode cX5_init 5 = .ok (.bipush 8, 2) := by decide +kernel
theorem dX5_init_7 : decode cX5_init 7 = .ok (.newarray .int, 2) := by decide +kernel
theorem dX5_init_9 : decode cX5_init 9 = .ok (.putfield 9, 3) := by decide +kernel
theorem dX5_init_12 : decode cX5_init 12 = .ok (.aload_n 0, 1) := by decide +kernel
theorem dX5_init_13 : decode cX5_init 13 = .ok (.bipush 8, 2) := by decide +kernel
theorem dX5_init_15 : decode cX5_init 15 = .ok (.newarray .int, 2) := by decide +kernel
theorem dX5_init_17 : decode cX5_init 17 = .ok (.putfield 15, 3) := by decide +kernel
theorem dX5_init_20 : decode cX5_init 20 = .ok (.aload_n 0, 1) := by decide +kernel
theorem dX5_init_21 : decode cX5_init 21 = .ok (.bipush 96, 2) := by decide +kernel
theorem dX5_init_23 : decode cX5_init 23 = .ok (.newarray .int, 2) := by decide +kernel
theorem dX5_init_25 : decode cX5_init 25 = .ok (.putfield 18, 3) := by decide +kernel
theorem dX5_init_28 : decode cX5_init 28 = .ok (.aload_n 0, 1) := by decide +kernel
theorem dX5_init_29 : decode cX5_init 29 = .ok (.iconst 0, 1) := by decide +kernel
theorem dX5_init_30 : decode cX5_init 30 = .ok (.putfield 21, 3) := by decide +kernel
theorem dX5_init_33 : decode cX5_init 33 = .ok (.aload_n 0, 1) := by decide +kernel
theorem dX5_init_34 : decode cX5_init 34 = .ok (.iconst 0, 1) := by decide +kernel
theorem dX5_init_35 : decode cX5_init 35 = .ok (.putfield 25, 3) := by decide +kernel
theorem dX5_init_38 : decode cX5_init 38 = .ok (.return_, 1) := by decide +kernel
theorem dX5_passNights_0 : decode cX5_passNights 0 = .ok (.iconst 0, 1) := by decide +kernel
theorem dX5_passNights_1 : decode cX5_passNights 1 = .ok (.istore_n 2, 1) := by decide +kernel
theorem dX5_passNights_2 : decode cX5_passNights 2 = .ok (.iconst 0, 1) := by decide +kernel
theorem dX5_passNights_3 : decode cX5_passNights 3 = .ok (.istore_n 3, 1) := by decide +kernel
theorem dX5_passNights_4 : decode cX5_passNights 4 = .ok (.iload_n 3, 1) := by decide +kernel
theorem dX5_passNights_5 : decode cX5_passNights 5 = .ok (.aload_n 1, 1) := by decide +kernel
theorem dX5_passNights_6 : decode cX5_passNights 6 = .ok (.getfield 39, 3) := by decide +kernel
theorem dX5_passNights_9 : decode cX5_passNights 9 = .ok (.if_icmp .ge 63, 3) := by decide +kernel
theorem dX5_passNights_72 : decode cX5_passNights 72 = .ok (.iload_n 2, 1) := by decide +kernel
theorem dX5_passNights_73 : decode cX5_passNights 73 = .ok (.ireturn, 1) := by decide +kernel
theorem dX5_startAs_0 : decode cX5_startAs 0 = .ok (.aload_n 0, 1) := by decide +kernel
theorem dX5_startAs_1 : decode cX5_startAs 1 = .ok (.iconst 0, 1) := by decide +kernel
theorem dX5_startAs_2 : decode cX5_startAs 2 = .ok (.putfield 21, 3) := by decide +kernel
theorem dX5_startAs_5 : decode cX5_startAs 5 = .ok (.aload_n 0, 1) := by decide +kernel
theorem dX5_startAs_6 : decode cX5_startAs 6 = .ok (.aload_n 1, 1) := by decide +kernel
theorem dX5_startAs_7 : decode cX5_startAs 7 = .ok (.getfield 34, 3) := by decide +kernel
theorem dX5_startAs_10 : decode cX5_startAs 10 = .ok (.putfield 25, 3) := by decide +kernel
theorem dX5_startAs_13 : decode cX5_startAs 13 = .ok (.iconst 0, 1) := by decide +kernel
theorem dX5_startAs_14 : decode cX5_startAs 14 = .ok (.istore_n 2, 1) := by decide +kernel
theorem dX5_startAs_15 : decode cX5_startAs 15 = .ok (.iload_n 2, 1) := by decide +kernel
theorem dX5_startAs_16 : decode cX5_startAs 16 = .ok (.aload_n 1, 1) := by decide +kernel
theorem dX5_startAs_17 : decode cX5_startAs 17 = .ok (.getfield 39, 3) := by decide +kernel
theorem dX5_startAs_20 : decode cX5_startAs 20 = .ok (.if_icmp .ge 40, 3) := by decide +kernel
theorem dX5_startAs_60 : decode cX5_startAs 60 = .ok (.return_, 1) := by decide +kernel
theorem dX6_init_0 : decode cX6_init 0 = .ok (.aload_n 0, 1) := by decide +kernel
theorem dX6_init_1 : decode cX6_init 1 = .ok (.invokespecial 3, 3) := by decide +kernel
theorem dX6_init_4 : decode cX6_init 4 = .ok (.aload_n 0, 1) := by decide +kernel
theorem dX6_init_5 : decode cX6_init 5 = .ok (.bipush 48, 2) := by decide +kernel
theorem dX6_init_7 : decode cX6_init 7 = .ok (.newarray .int, 2) := by decide +kernel
theorem dX6_init_9 : decode cX6_init 9 = .ok (.putfield 9, 3) := by decide +kernel
theorem dX6_init_12 : decode cX6_init 12 = .ok (.aload_n 0, 1) := by decide +kernel
theorem dX6_init_13 : decode cX6_init 13 = .ok (.bipush 48, 2) := by decide +kernel
theorem dX6_init_15 : decode cX6_init 15 = .ok (.newarray .int, 2) := by decide +kernel
theorem dX6_init_17 : decode cX6_init 17 = .ok (.putfield 15, 3) := by decide +kernel
theorem dX6_init_20 : decode cX6_init 20 = .ok (.aload_n 0, 1) := by decide +kernel
theorem dX6_init_21 : decode cX6_init 21 = .ok (.sipush 4096, 3) := by decide +kernel
theorem dX6_init_24 : decode cX6_init 24 = .ok (.newarray .byte, 2) := by decide +kernel
theorem dX6_init_26 : decode cX6_init 26 = .ok (.putfield 18, 3) := by decide +kernel
theorem dX6_init_29 : decode cX6_init 29 = .ok (.aload_n 0, 1) := by decide +kernel
theorem dX6_init_30 : decode cX6_init 30 = .ok (.iconst 0, 1) := by decide +kernel
theorem dX6_init_31 : decode cX6_init 31 = .ok (.putfield 22, 3) := by decide +kernel
theorem dX6_init_34 : decode cX6_init 34 = .ok (.aload_n 0, 1) := by decide +kernel
theorem dX6_init_35 : decode cX6_init 35 = .ok (.iconst (-1), 1) := by decide +kernel
theorem dX6_init_36 : decode cX6_init 36 = .ok (.putfield 26, 3) := by decide +kernel
theorem dX6_init_39 : decode cX6_init 39 = .ok (.aload_n 0, 1) := by decide +kernel
theorem dX6_init_40 : decode cX6_init 40 = .ok (.aload_n 1, 1) := by decide +kernel
theorem dX6_init_41 : decode cX6_init 41 = .ok (.putfield 29, 3) := by decide +kernel
theorem dX6_init_44 : decode cX6_init 44 = .ok (.return_, 1) := by decide +kernel
theorem dX6_layOut_0 : decode cX6_layOut 0 = .ok (.aload_n 0, 1) := by decide +kernel
theorem dX6_layOut_1 : decode cX6_layOut 1 = .ok (.aload_n 1, 1) := by decide +kernel
theorem dX6_layOut_2 : decode cX6_layOut 2 = .ok (.getfield 33, 3) := by decide +kernel
theorem dX6_layOut_5 : decode cX6_layOut 5 = .ok (.putfield 22, 3) := by decide +kernel
theorem dX6_layOut_8 : decode cX6_layOut 8 = .ok (.aload_n 0, 1) := by decide +kernel
theorem dX6_layOut_9 : decode cX6_layOut 9 = .ok (.iconst (-1), 1) := by decide +kernel
theorem dX6_layOut_10 : decode cX6_layOut 10 = .ok (.putfield 26, 3) := by decide +kernel
theorem dX6_layOut_13 : decode cX6_layOut 13 = .ok (.iconst 0, 1) := by decide +kernel
theorem dX6_layOut_14 : decode cX6_layOut 14 = .ok (.istore_n 2, 1) := by decide +kernel
theorem dX6_layOut_15 : decode cX6_layOut 15 = .ok (.iload_n 2, 1) := by decide +kernel
theorem dX6_layOut_16 : decode cX6_layOut 16 = .ok (.aload_n 0, 1) := by decide +kernel
theorem dX6_layOut_17 : decode cX6_layOut 17 = .ok (.getfield 22, 3) := by decide +kernel
theorem dX6_layOut_20 : decode cX6_layOut 20 = .ok (.if_icmp .ge 53, 3) := by decide +kernel
theorem dX6_layOut_73 : decode cX6_layOut 73 = .ok (.return_, 1) := by decide +kernel
theorem dX7_addNumber_0 : decode cX7_addNumber 0 = .ok (.bipush 24, 2) := by decide +kernel
theorem dX7_addNumber_2 : decode cX7_addNumber 2 = .ok (.istore_n 2, 1) := by decide +kernel
theorem dX7_addNumber_3 : decode cX7_addNumber 3 = .ok (.iload_n 2, 1) := by decide +kernel
theorem dX7_addNumber_4 : decode cX7_addNumber 4 = .ok (.ifCond .lt 42, 3) := by decide +kernel
theorem dX7_addNumber_7 : decode cX7_addNumber 7 = .ok (.aload_n 0, 1) := by decide +kernel
theorem dX7_addNumber_8 : decode cX7_addNumber 8 = .ok (.getfield 19, 3) := by decide +kernel
theorem dX7_addNumber_11 : decode cX7_addNumber 11 = .ok (.sipush 1600, 3) := by decide +kernel
theorem dX7_addNumber_14 : decode cX7_addNumber 14 = .ok (.if_icmp .ge 26, 3) := by decide +kernel
theorem dX7_addNumber_17 : decode cX7_addNumber 17 = .ok (.aload_n 0, 1) := by decide +kernel
theorem dX7_addNumber_18 : decode cX7_addNumber 18 = .ok (.getfield 11, 3) := by decide +kernel
theorem dX7_addNumber_21 : decode cX7_addNumber 21 = .ok (.aload_n 0, 1) := by decide +kernel
theorem dX7_addNumber_22 : decode cX7_addNumber 22 = .ok (.getfield 19, 3) := by decide +kernel
theorem dX7_addNumber_25 : decode cX7_addNumber 25 = .ok (.iload_n 1, 1) := by decide +kernel
theorem dX7_addNumber_26 : decode cX7_addNumber 26 = .ok (.iload_n 2, 1) := by decide +kernel
theorem dX7_addNumber_27 : decode cX7_addNumber 27 = .ok (.ishr, 1) := by decide +kernel
theorem dX7_addNumber_28 : decode cX7_addNumber 28 = .ok (.i2b, 1) := by decide +kernel
theorem dX7_addNumber_29 : decode cX7_addNumber 29 = .ok (.bastore, 1) := by decide +kernel
theorem dX7_addNumber_30 : decode cX7_addNumber 30 = .ok (.aload_n 0, 1) := by decide +kernel
theorem dX7_addNumber_31 : decode cX7_addNumber 31 = .ok (.dup, 1) := by decide +kernel
theorem dX7_addNumber_32 : decode cX7_addNumber 32 = .ok (.getfield 19, 3) := by decide +kernel
theorem dX7_addNumber_35 : decode cX7_addNumber 35 = .ok (.iconst 1, 1) := by decide +kernel
theorem dX7_addNumber_36 : decode cX7_addNumber 36 = .ok (.iadd, 1) := by decide +kernel
theorem dX7_addNumber_37 : decode cX7_addNumber 37 = .ok (.putfield 19, 3) := by decide +kernel
theorem dX7_addNumber_40 : decode cX7_addNumber 40 = .ok (.iinc 2 (-8), 3) := by decide +kernel
theorem dX7_addNumber_43 : decode cX7_addNumber 43 = .ok (.goto (-40), 3) := by decide +kernel
theorem dX7_addNumber_46 : decode cX7_addNumber 46 = .ok (.return_, 1) := by decide +kernel
theorem dX7_advance_0 : decode cX7_advance 0 = .ok (.aload_n 0, 1) := by decide +kernel
theorem dX7_advance_1 : decode cX7_advance 1 = .ok (.getfield 39, 3) := by decide +kernel
theorem dX7_advance_4 : decode cX7_advance 4 = .ok (.ifCond .eq 4, 3) := by decide +kernel
theorem dX7_advance_8 : decode cX7_advance 8 = .ok (.aload_n 0, 1) := by decide +kernel
theorem dX7_advance_9 : decode cX7_advance 9 = .ok (.getfield 23, 3) := by decide +kernel
theorem dX7_advance_12 : decode cX7_advance 12 = .ok (.istore_n 1, 1) := by decide +kernel
theorem dX7_advance_13 : decode cX7_advance 13 = .ok (.iload_n 1, 1) := by decide +kernel
theorem dX7_advance_14 : decode cX7_advance 14 = .ok (.aload_n 0, 1) := by decide +kernel
theorem dX7_advance_15 : decode cX7_advance 15 = .ok (.getfield 19, 3) := by decide +kernel
theorem dX7_advance_18 : decode cX7_advance 18 = .ok (.if_icmp .ge 21, 3) := by decide +kernel
theorem dX7_advance_39 : decode cX7_advance 39 = .ok (.aload_n 0, 1) := by decide +kernel
theorem dX7_advance_40 : decode cX7_advance 40 = .ok (.iload_n 1, 1) := by decide +kernel
theorem dX7_advance_41 : decode cX7_advance 41 = .ok (.putfield 29, 3) := by decide +kernel
theorem dX7_advance_44 : decode cX7_advance 44 = .ok (.aload_n 0, 1) := by decide +kernel
theorem dX7_advance_45 : decode cX7_advance 45 = .ok (.iload_n 1, 1) := by decide +kernel
theorem dX7_advance_46 : decode cX7_advance 46 = .ok (.putfield 23, 3) := by decide +kernel
theorem dX7_advance_49 : decode cX7_advance 49 = .ok (.iload_n 1, 1) := by decide +kernel
theorem dX7_advance_50 : decode cX7_advance 50 = .ok (.aload_n 0, 1) := by decide +kernel
theorem dX7_advance_51 : decode cX7_advance 51 = .ok (.getfield 19, 3) := by decide +kernel
theorem dX7_advance_54 : decode cX7_advance 54 = .ok (.if_icmp .lt 13, 3) := by decide +kernel
theorem dX7_advance_57 : decode cX7_advance 57 = .ok (.aload_n 0, 1) := by decide +kernel
theorem dX7_advance_58 : decode cX7_advance 58 = .ok (.sipush 202, 3) := by decide +kernel
theorem dX7_advance_61 : decode cX7_advance 61 = .ok (.putfield 26, 3) := by decide +kernel
theorem dX7_advance_64 : decode cX7_advance 64 = .ok (.goto 57, 3) := by decide +kernel
theorem dX7_advance_121 : decode cX7_advance 121 = .ok (.return_, 1) := by decide +kernel
theorem dX7_cutTo_0 : decode cX7_cutTo 0 = .ok (.iload_n 1, 1) := by decide +kernel
theorem dX7_cutTo_1 : decode cX7_cutTo 1 = .ok (.ifCond .lt 16, 3) := by decide +kernel
theorem dX7_cutTo_4 : decode cX7_cutTo 4 = .ok (.iload_n 1, 1) := by decide +kernel
theorem dX7_cutTo_5 : decode cX7_cutTo 5 = .ok (.aload_n 0, 1) := by decide +kernel
theorem dX7_cutTo_6 : decode cX7_cutTo 6 = .ok (.getfield 19, 3) := by decide +kernel
theorem dX7_cutTo_9 : decode cX7_cutTo 9 = .ok (.if_icmp .gt 8, 3) := by decide +kernel
theorem dX7_cutTo_12 : decode cX7_cutTo 12 = .ok (.aload_n 0, 1) := by decide +kernel
theorem dX7_cutTo_13 : decode cX7_cutTo 13 = .ok (.iload_n 1, 1) := by decide +kernel
theorem dX7_cutTo_14 : decode cX7_cutTo 14 = .ok (.putfield 19, 3) := by decide +kernel
theorem dX7_cutTo_17 : decode cX7_cutTo 17 = .ok (.return_, 1) := by decide +kernel
theorem dX7_faultKind_0 : decode cX7_faultKind 0 = .ok (.aload_n 0, 1) := by decide +kernel
theorem dX7_faultKind_1 : decode cX7_faultKind 1 = .ok (.getfield 39, 3) := by decide +kernel
theorem dX7_faultKind_4 : decode cX7_faultKind 4 = .ok (.ireturn, 1) := by decide +kernel
theorem dX7_faultPlace_0 : decode cX7_faultPlace 0 = .ok (.aload_n 0, 1) := by decide +kernel
theorem dX7_faultPlace_1 : decode cX7_faultPlace 1 = .ok (.getfield 42, 3) := by decide +kernel
theorem dX7_faultPlace_4 : decode cX7_faultPlace 4 = .ok (.ireturn, 1) := by decide +kernel
theorem dX7_init_0 : decode cX7_init 0 = .ok (.aload_n 0, 1) := by decide +kernel
theorem dX7_init_1 : decode cX7_init 1 = .ok (.invokespecial 5, 3) := by decide +kernel
theorem dX7_init_4 : decode cX7_init 4 = .ok (.aload_n 0, 1) := by decide +kernel
theorem dX7_init_5 : decode cX7_init 5 = .ok (.sipush 1600, 3) := by decide +kernel
theorem dX7_init_8 : decode cX7_init 8 = .ok (.newarray .byte, 2) := by decide +kernel
theorem dX7_init_10 : decode cX7_init 10 = .ok (.putfield 11, 3) := by decide +kernel
theorem dX7_init_13 : decode cX7_init 13 = .ok (.aload_n 0, 1) := by decide +kernel
theorem dX7_init_14 : decode cX7_init 14 = .ok (.bipush 18, 2) := by decide +kernel
theorem dX7_init_16 : decode cX7_init 16 = .ok (.newarray .long, 2) := by decide +kernel
theorem dX7_init_18 : decode cX7_init 18 = .ok (.putfield 15, 3) := by decide +kernel
theorem dX7_init_21 : decode cX7_init 21 = .ok (.aload_n 0, 1) := by decide +kernel
theorem dX7_init_22 : decode cX7_init 22 = .ok (.iconst 0, 1) := by decide +kernel
theorem dX7_init_23 : decode cX7_init 23 = .ok (.putfield 19, 3) := by decide +kernel
