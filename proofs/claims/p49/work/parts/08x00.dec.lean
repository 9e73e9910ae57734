theorem dX0_init_0 : decode cX0_init 0 = .ok (.aload_n 0, 1) := by decide +kernel
theorem dX0_init_1 : decode cX0_init 1 = .ok (.invokespecial 3, 3) := by decide +kernel
theorem dX0_init_4 : decode cX0_init 4 = .ok (.aload_n 0, 1) := by decide +kernel
theorem dX0_init_5 : decode cX0_init 5 = .ok (.bipush 8, 2) := by decide +kernel
theorem dX0_init_7 : decode cX0_init 7 = .ok (.newarray .int, 2) := by decide +kernel
theorem dX0_init_9 : decode cX0_init 9 = .ok (.putfield 9, 3) := by decide +kernel
theorem dX0_init_12 : decode cX0_init 12 = .ok (.aload_n 0, 1) := by decide +kernel
theorem dX0_init_13 : decode cX0_init 13 = .ok (.bipush 8, 2) := by decide +kernel
theorem dX0_init_15 : decode cX0_init 15 = .ok (.newarray .int, 2) := by decide +kernel
theorem dX0_init_17 : decode cX0_init 17 = .ok (.putfield 15, 3) := by decide +kernel
theorem dX0_init_20 : decode cX0_init 20 = .ok (.aload_n 0, 1) := by decide +kernel
theorem dX0_init_21 : decode cX0_init 21 = .ok (.aload_n 1, 1) := by decide +kernel
theorem dX0_init_22 : decode cX0_init 22 = .ok (.putfield 18, 3) := by decide +kernel
theorem dX0_init_25 : decode cX0_init 25 = .ok (.aload_n 0, 1) := by decide +kernel
theorem dX0_init_26 : decode cX0_init 26 = .ok (.aload_n 2, 1) := by decide +kernel
theorem dX0_init_27 : decode cX0_init 27 = .ok (.putfield 22, 3) := by decide +kernel
theorem dX0_init_30 : decode cX0_init 30 = .ok (.aload_n 0, 1) := by decide +kernel
theorem dX0_init_31 : decode cX0_init 31 = .ok (.aload_n 3, 1) := by decide +kernel
theorem dX0_init_32 : decode cX0_init 32 = .ok (.putfield 26, 3) := by decide +kernel
theorem dX0_init_35 : decode cX0_init 35 = .ok (.return_, 1) := by decide +kernel
theorem dX0_showing_0 : decode cX0_showing 0 = .ok (.iconst 0, 1) := by decide +kernel
theorem dX0_showing_1 : decode cX0_showing 1 = .ok (.istore 4, 2) := by decide +kernel
theorem dX0_showing_3 : decode cX0_showing 3 = .ok (.iconst 0, 1) := by decide +kernel
theorem dX0_showing_4 : decode cX0_showing 4 = .ok (.istore 5, 2) := by decide +kernel
theorem dX0_showing_6 : decode cX0_showing 6 = .ok (.iload 5, 2) := by decide +kernel
theorem dX0_showing_8 : decode cX0_showing 8 = .ok (.bipush 12, 2) := by decide +kernel
theorem dX0_showing_10 : decode cX0_showing 10 = .ok (.if_icmp .ge 55, 3) := by decide +kernel
theorem dX0_showing_13 : decode cX0_showing 13 = .ok (.aload_n 1, 1) := by decide +kernel
theorem dX0_showing_14 : decode cX0_showing 14 = .ok (.iload_n 2, 1) := by decide +kernel
theorem dX0_showing_15 : decode cX0_showing 15 = .ok (.iload 5, 2) := by decide +kernel
theorem dX0_showing_17 : decode cX0_showing 17 = .ok (.invokevirtual 30, 3) := by decide +kernel
theorem dX0_showing_20 : decode cX0_showing 20 = .ok (.istore 6, 2) := by decide +kernel
theorem dX0_showing_22 : decode cX0_showing 22 = .ok (.iload 6, 2) := by decide +kernel
theorem dX0_showing_24 : decode cX0_showing 24 = .ok (.iconst (-1), 1) := by decide +kernel
theorem dX0_showing_25 : decode cX0_showing 25 = .ok (.if_icmp .eq 34, 3) := by decide +kernel
theorem dX0_showing_28 : decode cX0_showing 28 = .ok (.aload_n 0, 1) := by decide +kernel
theorem dX0_showing_29 : decode cX0_showing 29 = .ok (.aload_n 1, 1) := by decide +kernel
theorem dX0_showing_30 : decode cX0_showing 30 = .ok (.iload_n 2, 1) := by decide +kernel
theorem dX0_showing_31 : decode cX0_showing 31 = .ok (.iload 5, 2) := by decide +kernel
theorem dX0_showing_33 : decode cX0_showing 33 = .ok (.iload 6, 2) := by decide +kernel
theorem dX0_showing_35 : decode cX0_showing 35 = .ok (.iload_n 3, 1) := by decide +kernel
theorem dX0_showing_36 : decode cX0_showing 36 = .ok (.iadd, 1) := by decide +kernel
theorem dX0_showing_37 : decode cX0_showing 37 = .ok (.sipush 999, 3) := by decide +kernel
theorem dX0_showing_40 : decode cX0_showing 40 = .ok (.invokestatic 36, 3) := by decide +kernel
theorem dX0_showing_43 : decode cX0_showing 43 = .ok (.iload_n 3, 1) := by decide +kernel
theorem dX0_showing_44 : decode cX0_showing 44 = .ok (.invokevirtual 41, 3) := by decide +kernel
theorem dX0_showing_47 : decode cX0_showing 47 = .ok (.ifCond .eq 12, 3) := by decide +kernel
theorem dX0_showing_50 : decode cX0_showing 50 = .ok (.iload 4, 2) := by decide +kernel
theorem dX0_showing_52 : decode cX0_showing 52 = .ok (.iconst 1, 1) := by decide +kernel
theorem dX0_showing_53 : decode cX0_showing 53 = .ok (.iload 5, 2) := by decide +kernel
theorem dX0_showing_55 : decode cX0_showing 55 = .ok (.ishl, 1) := by decide +kernel
theorem dX0_showing_56 : decode cX0_showing 56 = .ok (.ior, 1) := by decide +kernel
theorem dX0_showing_57 : decode cX0_showing 57 = .ok (.istore 4, 2) := by decide +kernel
theorem dX0_showing_59 : decode cX0_showing 59 = .ok (.iinc 5 1, 3) := by decide +kernel
theorem dX0_showing_62 : decode cX0_showing 62 = .ok (.goto (-56), 3) := by decide +kernel
theorem dX0_showing_65 : decode cX0_showing 65 = .ok (.iload 4, 2) := by decide +kernel
theorem dX0_showing_67 : decode cX0_showing 67 = .ok (.ireturn, 1) := by decide +kernel
theorem dX0_shows_0 : decode cX0_shows 0 = .ok (.aload_n 1, 1) := by decide +kernel
theorem dX0_shows_1 : decode cX0_shows 1 = .ok (.getfield 45, 3) := by decide +kernel
theorem dX0_shows_4 : decode cX0_shows 4 = .ok (.iload_n 2, 1) := by decide +kernel
theorem dX0_shows_5 : decode cX0_shows 5 = .ok (.iaload, 1) := by decide +kernel
theorem dX0_shows_6 : decode cX0_shows 6 = .ok (.invokestatic 48, 3) := by decide +kernel
theorem dX0_shows_9 : decode cX0_shows 9 = .ok (.istore 6, 2) := by decide +kernel
theorem dX0_shows_11 : decode cX0_shows 11 = .ok (.aload_n 0, 1) := by decide +kernel
theorem dX0_shows_12 : decode cX0_shows 12 = .ok (.getfield 18, 3) := by decide +kernel
theorem dX0_shows_15 : decode cX0_shows 15 = .ok (.getfield 54, 3) := by decide +kernel
theorem dX0_shows_18 : decode cX0_shows 18 = .ok (.iload 4, 2) := by decide +kernel
theorem dX0_shows_20 : decode cX0_shows 20 = .ok (.iload 6, 2) := by decide +kernel
theorem dX0_shows_22 : decode cX0_shows 22 = .ok (.iload_n 3, 1) := by decide +kernel
theorem dX0_shows_23 : decode cX0_shows 23 = .ok (.aload_n 0, 1) := by decide +kernel
theorem dX0_shows_24 : decode cX0_shows 24 = .ok (.getfield 18, 3) := by decide +kernel
theorem dX0_shows_27 : decode cX0_shows 27 = .ok (.getfield 59, 3) := by decide +kernel
theorem dX0_shows_30 : decode cX0_shows 30 = .ok (.iload_n 2, 1) := by decide +kernel
theorem dX0_shows_31 : decode cX0_shows 31 = .ok (.iaload, 1) := by decide +kernel
theorem dX0_shows_32 : decode cX0_shows 32 = .ok (.aload_n 1, 1) := by decide +kernel
theorem dX0_shows_33 : decode cX0_shows 33 = .ok (.getfield 62, 3) := by decide +kernel
theorem dX0_shows_36 : decode cX0_shows 36 = .ok (.iload 5, 2) := by decide +kernel
theorem dX0_shows_38 : decode cX0_shows 38 = .ok (.iadd, 1) := by decide +kernel
theorem dX0_shows_39 : decode cX0_shows 39 = .ok (.invokevirtual 66, 3) := by decide +kernel
theorem dX0_shows_42 : decode cX0_shows 42 = .ok (.ireturn, 1) := by decide +kernel
theorem dX0_showingBehind_0 : decode cX0_showingBehind 0 = .ok (.iconst 0, 1) := by decide +kernel
theorem dX0_showingBehind_1 : decode cX0_showingBehind 1 = .ok (.istore_n 3, 1) := by decide +kernel
theorem dX0_showingBehind_2 : decode cX0_showingBehind 2 = .ok (.iconst 0, 1) := by decide +kernel
theorem dX0_showingBehind_3 : decode cX0_showingBehind 3 = .ok (.istore 4, 2) := by decide +kernel
theorem dX0_showingBehind_5 : decode cX0_showingBehind 5 = .ok (.iload 4, 2) := by decide +kernel
theorem dX0_showingBehind_7 : decode cX0_showingBehind 7 = .ok (.aload_n 0, 1) := by decide +kernel
theorem dX0_showingBehind_8 : decode cX0_showingBehind 8 = .ok (.getfield 18, 3) := by decide +kernel
theorem dX0_showingBehind_11 : decode cX0_showingBehind 11 = .ok (.getfield 72, 3) := by decide +kernel
theorem dX0_showingBehind_14 : decode cX0_showingBehind 14 = .ok (.if_icmp .ge 23, 3) := by decide +kernel
theorem dX0_showingBehind_17 : decode cX0_showingBehind 17 = .ok (.iload_n 3, 1) := by decide +kernel
theorem dX0_showingBehind_18 : decode cX0_showingBehind 18 = .ok (.aload_n 0, 1) := by decide +kernel
theorem dX0_showingBehind_19 : decode cX0_showingBehind 19 = .ok (.aload_n 1, 1) := by decide +kernel
theorem dX0_showingBehind_20 : decode cX0_showingBehind 20 = .ok (.iload 4, 2) := by decide +kernel
theorem dX0_showingBehind_22 : decode cX0_showingBehind 22 = .ok (.iload_n 2, 1) := by decide +kernel
theorem dX0_showingBehind_23 : decode cX0_showingBehind 23 = .ok (.invokevirtual 75, 3) := by decide +kernel
theorem dX0_showingBehind_26 : decode cX0_showingBehind 26 = .ok (.invokestatic 48, 3) := by decide +kernel
theorem dX0_showingBehind_29 : decode cX0_showingBehind 29 = .ok (.iadd, 1) := by decide +kernel
theorem dX0_showingBehind_30 : decode cX0_showingBehind 30 = .ok (.istore_n 3, 1) := by decide +kernel
theorem dX0_showingBehind_31 : decode cX0_showingBehind 31 = .ok (.iinc 4 1, 3) := by decide +kernel
theorem dX0_showingBehind_34 : decode cX0_showingBehind 34 = .ok (.goto (-29), 3) := by decide +kernel
theorem dX0_showingBehind_37 : decode cX0_showingBehind 37 = .ok (.iload_n 3, 1) := by decide +kernel
theorem dX0_showingBehind_38 : decode cX0_showingBehind 38 = .ok (.ireturn, 1) := by decide +kernel
theorem dX0_showingAtAge_0 : decode cX0_showingAtAge 0 = .ok (.iconst 0, 1) := by decide +kernel
theorem dX0_showingAtAge_1 : decode cX0_showingAtAge 1 = .ok (.istore_n 3, 1) := by decide +kernel
theorem dX0_showingAtAge_2 : decode cX0_showingAtAge 2 = .ok (.iconst 0, 1) := by decide +kernel
theorem dX0_showingAtAge_3 : decode cX0_showingAtAge 3 = .ok (.istore 4, 2) := by decide +kernel
theorem dX0_showingAtAge_5 : decode cX0_showingAtAge 5 = .ok (.iload 4, 2) := by decide +kernel
theorem dX0_showingAtAge_7 : decode cX0_showingAtAge 7 = .ok (.aload_n 0, 1) := by decide +kernel
theorem dX0_showingAtAge_8 : decode cX0_showingAtAge 8 = .ok (.getfield 18, 3) := by decide +kernel
theorem dX0_showingAtAge_11 : decode cX0_showingAtAge 11 = .ok (.getfield 72, 3) := by decide +kernel
theorem dX0_showingAtAge_14 : decode cX0_showingAtAge 14 = .ok (.if_icmp .ge 74, 3) := by decide +kernel
theorem dX0_showingAtAge_17 : decode cX0_showingAtAge 17 = .ok (.iconst 0, 1) := by decide +kernel
theorem dX0_showingAtAge_18 : decode cX0_showingAtAge 18 = .ok (.istore 5, 2) := by decide +kernel
theorem dX0_showingAtAge_20 : decode cX0_showingAtAge 20 = .ok (.iload 5, 2) := by decide +kernel
theorem dX0_showingAtAge_22 : decode cX0_showingAtAge 22 = .ok (.bipush 12, 2) := by decide +kernel
theorem dX0_showingAtAge_24 : decode cX0_showingAtAge 24 = .ok (.if_icmp .ge 58, 3) := by decide +kernel
theorem dX0_showingAtAge_27 : decode cX0_showingAtAge 27 = .ok (.aload_n 1, 1) := by decide +kernel
theorem dX0_showingAtAge_28 : decode cX0_showingAtAge 28 = .ok (.getfield 45, 3) := by decide +kernel
theorem dX0_showingAtAge_31 : decode cX0_showingAtAge 31 = .ok (.iload 4, 2) := by decide +kernel
theorem dX0_showingAtAge_33 : decode cX0_showingAtAge 33 = .ok (.iaload, 1) := by decide +kernel
theorem dX0_showingAtAge_34 : decode cX0_showingAtAge 34 = .ok (.iconst 1, 1) := by decide +kernel
theorem dX0_showingAtAge_35 : decode cX0_showingAtAge 35 = .ok (.iload 5, 2) := by decide +kernel
theorem dX0_showingAtAge_37 : decode cX0_showingAtAge 37 = .ok (.ishl, 1) := by decide +kernel
theorem dX0_showingAtAge_38 : decode cX0_showingAtAge 38 = .ok (.iand, 1) := by decide +kernel
theorem dX0_showingAtAge_39 : decode cX0_showingAtAge 39 = .ok (.ifCond .eq 7, 3) := by decide +kernel
theorem dX0_showingAtAge_42 : decode cX0_showingAtAge 42 = .ok (.iconst 1, 1) := by decide +kernel
theorem dX0_showingAtAge_43 : decode cX0_showingAtAge 43 = .ok (.goto 4, 3) := by decide +kernel
theorem dX0_showingAtAge_46 : decode cX0_showingAtAge 46 = .ok (.iconst 0, 1) := by decide +kernel
theorem dX0_showingAtAge_47 : decode cX0_showingAtAge 47 = .ok (.istore 6, 2) := by decide +kernel
theorem dX0_showingAtAge_49 : decode cX0_showingAtAge 49 = .ok (.iload_n 3, 1) := by decide +kernel
theorem dX0_showingAtAge_50 : decode cX0_showingAtAge 50 = .ok (.iload 6, 2) := by decide +kernel
theorem dX0_showingAtAge_52 : decode cX0_showingAtAge 52 = .ok (.ifCond .eq 21, 3) := by decide +kernel
theorem dX0_showingAtAge_55 : decode cX0_showingAtAge 55 = .ok (.aload_n 0, 1) := by decide +kernel
theorem dX0_showingAtAge_56 : decode cX0_showingAtAge 56 = .ok (.aload_n 1, 1) := by decide +kernel
theorem dX0_showingAtAge_57 : decode cX0_showingAtAge 57 = .ok (.iload 4, 2) := by decide +kernel
theorem dX0_showingAtAge_59 : decode cX0_showingAtAge 59 = .ok (.iload 5, 2) := by decide +kernel
theorem dX0_showingAtAge_61 : decode cX0_showingAtAge 61 = .ok (.iload_n 2, 1) := by decide +kernel
theorem dX0_showingAtAge_62 : decode cX0_showingAtAge 62 = .ok (.iconst 0, 1) := by decide +kernel
theorem dX0_showingAtAge_63 : decode cX0_showingAtAge 63 = .ok (.invokevirtual 41, 3) := by decide +kernel
theorem dX0_showingAtAge_66 : decode cX0_showingAtAge 66 = .ok (.ifCond .eq 7, 3) := by decide +kernel
theorem dX0_showingAtAge_69 : decode cX0_showingAtAge 69 = .ok (.iconst 1, 1) := by decide +kernel
theorem dX0_showingAtAge_70 : decode cX0_showingAtAge 70 = .ok (.goto 4, 3) := by decide +kernel
theorem dX0_showingAtAge_73 : decode cX0_showingAtAge 73 = .ok (.iconst 0, 1) := by decide +kernel
theorem dX0_showingAtAge_74 : decode cX0_showingAtAge 74 = .ok (.iadd, 1) := by decide +kernel
theorem dX0_showingAtAge_75 : decode cX0_showingAtAge 75 = .ok (.istore_n 3, 1) := by decide +kernel
theorem dX0_showingAtAge_76 : decode cX0_showingAtAge 76 = .ok (.iinc 5 1, 3) := by decide +kernel
theorem dX0_showingAtAge_79 : decode cX0_showingAtAge 79 = .ok (.goto (-59), 3) := by decide +kernel
theorem dX0_showingAtAge_82 : decode cX0_showingAtAge 82 = .ok (.iinc 4 1, 3) := by decide +kernel
theorem dX0_showingAtAge_85 : decode cX0_showingAtAge 85 = .ok (.goto (-80), 3) := by decide +kernel
theorem dX0_showingAtAge_88 : decode cX0_showingAtAge 88 = .ok (.iload_n 3, 1) := by decide +kernel
theorem dX0_showingAtAge_89 : decode cX0_showingAtAge 89 = .ok (.ireturn, 1) := by decide +kernel
theorem dX0_fadesBehind_0 : decode cX0_fadesBehind 0 = .ok (.iconst 0, 1) := by decide +kernel
theorem dX0_fadesBehind_1 : decode cX0_fadesBehind 1 = .ok (.istore_n 3, 1) := by decide +kernel
theorem dX0_fadesBehind_2 : decode cX0_fadesBehind 2 = .ok (.iload_n 3, 1) := by decide +kernel
theorem dX0_fadesBehind_3 : decode cX0_fadesBehind 3 = .ok (.bipush 60, 2) := by decide +kernel
theorem dX0_fadesBehind_5 : decode cX0_fadesBehind 5 = .ok (.if_icmp .gt 21, 3) := by decide +kernel
theorem dX0_fadesBehind_8 : decode cX0_fadesBehind 8 = .ok (.aload_n 0, 1) := by decide +kernel
theorem dX0_fadesBehind_9 : decode cX0_fadesBehind 9 = .ok (.aload_n 1, 1) := by decide +kernel
theorem dX0_fadesBehind_10 : decode cX0_fadesBehind 10 = .ok (.iload_n 2, 1) := by decide +kernel
theorem dX0_fadesBehind_11 : decode cX0_fadesBehind 11 = .ok (.iload_n 3, 1) := by decide +kernel
theorem dX0_fadesBehind_12 : decode cX0_fadesBehind 12 = .ok (.invokevirtual 75, 3) := by decide +kernel
theorem dX0_fadesBehind_15 : decode cX0_fadesBehind 15 = .ok (.ifCond .ne 5, 3) := by decide +kernel
theorem dX0_fadesBehind_18 : decode cX0_fadesBehind 18 = .ok (.iload_n 3, 1) := by decide +kernel
theorem dX0_fadesBehind_19 : decode cX0_fadesBehind 19 = .ok (.ireturn, 1) := by decide +kernel
theorem dX0_fadesBehind_20 : decode cX0_fadesBehind 20 = .ok (.iinc 3 1, 3) := by decide +kernel
theorem dX0_fadesBehind_23 : decode cX0_fadesBehind 23 = .ok (.goto (-21), 3) := by decide +kernel
theorem dX0_fadesBehind_26 : decode cX0_fadesBehind 26 = .ok (.iconst (-1), 1) := by decide +kernel
theorem dX0_fadesBehind_27 : decode cX0_fadesBehind 27 = .ok (.ireturn, 1) := by decide +kernel
theorem dX0_originHerds_0 : decode cX0_originHerds 0 = .ok (.iconst 0, 1) := by decide +kernel
theorem dX0_originHerds_1 : decode cX0_originHerds 1 = .ok (.istore_n 3, 1) := by decide +kernel
theorem dX0_originHerds_2 : decode cX0_originHerds 2 = .ok (.iconst 0, 1) := by decide +kernel
theorem dX0_originHerds_3 : decode cX0_originHerds 3 = .ok (.istore 4, 2) := by decide +kernel
theorem dX0_originHerds_5 : decode cX0_originHerds 5 = .ok (.iload 4, 2) := by decide +kernel
theorem dX0_originHerds_7 : decode cX0_originHerds 7 = .ok (.aload_n 0, 1) := by decide +kernel
theorem dX0_originHerds_8 : decode cX0_originHerds 8 = .ok (.getfield 18, 3) := by decide +kernel
theorem dX0_originHerds_11 : decode cX0_originHerds 11 = .ok (.getfield 79, 3) := by decide +kernel
theorem dX0_originHerds_14 : decode cX0_originHerds 14 = .ok (.if_icmp .ge 43, 3) := by decide +kernel
theorem dX0_originHerds_17 : decode cX0_originHerds 17 = .ok (.aload_n 0, 1) := by decide +kernel
theorem dX0_originHerds_18 : decode cX0_originHerds 18 = .ok (.getfield 26, 3) := by decide +kernel
theorem dX0_originHerds_21 : decode cX0_originHerds 21 = .ok (.aload_n 0, 1) := by decide +kernel
theorem dX0_originHerds_22 : decode cX0_originHerds 22 = .ok (.getfield 18, 3) := by decide +kernel
theorem dX0_originHerds_25 : decode cX0_originHerds 25 = .ok (.getfield 82, 3) := by decide +kernel
theorem dX0_originHerds_28 : decode cX0_originHerds 28 = .ok (.iload 4, 2) := by decide +kernel
theorem dX0_originHerds_30 : decode cX0_originHerds 30 = .ok (.iaload, 1) := by decide +kernel
theorem dX0_originHerds_31 : decode cX0_originHerds 31 = .ok (.aload_n 1, 1) := by decide +kernel
theorem dX0_originHerds_32 : decode cX0_originHerds 32 = .ok (.getfield 45, 3) := by decide +kernel
theorem dX0_originHerds_35 : decode cX0_originHerds 35 = .ok (.iload_n 2, 1) := by decide +kernel
theorem dX0_originHerds_36 : decode cX0_originHerds 36 = .ok (.iaload, 1) := by decide +kernel
theorem dX0_originHerds_37 : decode cX0_originHerds 37 = .ok (.invokevirtual 85, 3) := by decide +kernel
theorem dX0_originHerds_40 : decode cX0_originHerds 40 = .ok (.iconst (-1), 1) := by decide +kernel
theorem dX0_originHerds_41 : decode cX0_originHerds 41 = .ok (.if_icmp .eq 10, 3) := by decide +kernel
theorem dX0_originHerds_44 : decode cX0_originHerds 44 = .ok (.iload_n 3, 1) := by decide +kernel
theorem dX0_originHerds_45 : decode cX0_originHerds 45 = .ok (.iconst 1, 1) := by decide +kernel
theorem dX0_originHerds_46 : decode cX0_originHerds 46 = .ok (.iload 4, 2) := by decide +kernel
theorem dX0_originHerds_48 : decode cX0_originHerds 48 = .ok (.ishl, 1) := by decide +kernel
theorem dX0_originHerds_49 : decode cX0_originHerds 49 = .ok (.ior, 1) := by decide +kernel
theorem dX0_originHerds_50 : decode cX0_originHerds 50 = .ok (.istore_n 3, 1) := by decide +kernel
theorem dX0_originHerds_51 : decode cX0_originHerds 51 = .ok (.iinc 4 1, 3) := by decide +kernel
theorem dX0_originHerds_54 : decode cX0_originHerds 54 = .ok (.goto (-49), 3) := by decide +kernel
theorem dX0_originHerds_57 : decode cX0_originHerds 57 = .ok (.iload_n 3, 1) := by decide +kernel
theorem dX0_originHerds_58 : decode cX0_originHerds 58 = .ok (.ireturn, 1) := by decide +kernel
theorem dX0_readHerds_0 : decode cX0_readHerds 0 = .ok (.aload_n 0, 1) := by decide +kernel
theorem dX0_readHerds_1 : decode cX0_readHerds 1 = .ok (.aload_n 1, 1) := by decide +kernel
theorem dX0_readHerds_2 : decode cX0_readHerds 2 = .ok (.iload_n 2, 1) := by decide +kernel
theorem dX0_readHerds_3 : decode cX0_readHerds 3 = .ok (.iconst 0, 1) := by decide +kernel
theorem dX0_readHerds_4 : decode cX0_readHerds 4 = .ok (.invokevirtual 75, 3) := by decide +kernel
theorem dX0_readHerds_7 : decode cX0_readHerds 7 = .ok (.istore_n 3, 1) := by decide +kernel
theorem dX0_readHerds_8 : decode cX0_readHerds 8 = .ok (.iconst 0, 1) := by decide +kernel
theorem dX0_readHerds_9 : decode cX0_readHerds 9 = .ok (.istore 4, 2) := by decide +kernel
theorem dX0_readHerds_11 : decode cX0_readHerds 11 = .ok (.iconst 0, 1) := by decide +kernel
theorem dX0_readHerds_12 : decode cX0_readHerds 12 = .ok (.istore 5, 2) := by decide +kernel
theorem dX0_readHerds_14 : decode cX0_readHerds 14 = .ok (.iload 5, 2) := by decide +kernel
theorem dX0_readHerds_16 : decode cX0_readHerds 16 = .ok (.aload_n 0, 1) := by decide +kernel
theorem dX0_readHerds_17 : decode cX0_readHerds 17 = .ok (.getfield 18, 3) := by decide +kernel
theorem dX0_readHerds_20 : decode cX0_readHerds 20 = .ok (.getfield 79, 3) := by decide +kernel
theorem dX0_readHerds_23 : decode cX0_readHerds 23 = .ok (.if_icmp .ge 39, 3) := by decide +kernel
theorem dX0_readHerds_26 : decode cX0_readHerds 26 = .ok (.aload_n 0, 1) := by decide +kernel
theorem dX0_readHerds_27 : decode cX0_readHerds 27 = .ok (.getfield 22, 3) := by decide +kernel
theorem dX0_readHerds_30 : decode cX0_readHerds 30 = .ok (.iload_n 3, 1) := by decide +kernel
theorem dX0_readHerds_31 : decode cX0_readHerds 31 = .ok (.aload_n 0, 1) := by decide +kernel
theorem dX0_readHerds_32 : decode cX0_readHerds 32 = .ok (.getfield 18, 3) := by decide +kernel
theorem dX0_readHerds_35 : decode cX0_readHerds 35 = .ok (.getfield 82, 3) := by decide +kernel
theorem dX0_readHerds_38 : decode cX0_readHerds 38 = .ok (.iload 5, 2) := by decide +kernel
theorem dX0_readHerds_40 : decode cX0_readHerds 40 = .ok (.iaload, 1) := by decide +kernel
theorem dX0_readHerds_41 : decode cX0_readHerds 41 = .ok (.invokevirtual 90, 3) := by decide +kernel
theorem dX0_readHerds_44 : decode cX0_readHerds 44 = .ok (.ifCond .eq 12, 3) := by decide +kernel
theorem dX0_readHerds_47 : decode cX0_readHerds 47 = .ok (.iload 4, 2) := by decide +kernel
theorem dX0_readHerds_49 : decode cX0_readHerds 49 = .ok (.iconst 1, 1) := by decide +kernel
theorem dX0_readHerds_50 : decode cX0_readHerds 50 = .ok (.iload 5, 2) := by decide +kernel
theorem dX0_readHerds_52 : decode cX0_readHerds 52 = .ok (.ishl, 1) := by decide +kernel
theorem dX0_readHerds_53 : decode cX0_readHerds 53 = .ok (.ior, 1) := by decide +kernel
theorem dX0_readHerds_54 : decode cX0_readHerds 54 = .ok (.istore 4, 2) := by decide +kernel
theorem dX0_readHerds_56 : decode cX0_readHerds 56 = .ok (.iinc 5 1, 3) := by decide +kernel
theorem dX0_readHerds_59 : decode cX0_readHerds 59 = .ok (.goto (-45), 3) := by decide +kernel
theorem dX0_readHerds_62 : decode cX0_readHerds 62 = .ok (.iload 4, 2) := by decide +kernel
theorem dX0_readHerds_64 : decode cX0_readHerds 64 = .ok (.ireturn, 1) := by decide +kernel
theorem dX0_claimedBy_0 : decode cX0_claimedBy 0 = .ok (.iconst 0, 1) := by decide +kernel
theorem dX0_claimedBy_1 : decode cX0_claimedBy 1 = .ok (.istore_n 3, 1) := by decide +kernel
theorem dX0_claimedBy_2 : decode cX0_claimedBy 2 = .ok (.iconst 0, 1) := by decide +kernel
theorem dX0_claimedBy_3 : decode cX0_claimedBy 3 = .ok (.istore 4, 2) := by decide +kernel
theorem dX0_claimedBy_5 : decode cX0_claimedBy 5 = .ok (.iload 4, 2) := by decide +kernel
theorem dX0_claimedBy_7 : decode cX0_claimedBy 7 = .ok (.aload_n 0, 1) := by decide +kernel
theorem dX0_claimedBy_8 : decode cX0_claimedBy 8 = .ok (.getfield 18, 3) := by decide +kernel
theorem dX0_claimedBy_11 : decode cX0_claimedBy 11 = .ok (.getfield 72, 3) := by decide +kernel
theorem dX0_claimedBy_14 : decode cX0_claimedBy 14 = .ok (.if_icmp .ge 54, 3) := by decide +kernel
theorem dX0_claimedBy_17 : decode cX0_claimedBy 17 = .ok (.aload_n 1, 1) := by decide +kernel
theorem dX0_claimedBy_18 : decode cX0_claimedBy 18 = .ok (.getfield 96, 3) := by decide +kernel
theorem dX0_claimedBy_21 : decode cX0_claimedBy 21 = .ok (.iload 4, 2) := by decide +kernel
theorem dX0_claimedBy_23 : decode cX0_claimedBy 23 = .ok (.iaload, 1) := by decide +kernel
theorem dX0_claimedBy_24 : decode cX0_claimedBy 24 = .ok (.iload_n 2, 1) := by decide +kernel
theorem dX0_claimedBy_25 : decode cX0_claimedBy 25 = .ok (.if_icmp .eq 37, 3) := by decide +kernel
theorem dX0_claimedBy_28 : decode cX0_claimedBy 28 = .ok (.aload_n 0, 1) := by decide +kernel
theorem dX0_claimedBy_29 : decode cX0_claimedBy 29 = .ok (.getfield 26, 3) := by decide +kernel
theorem dX0_claimedBy_32 : decode cX0_claimedBy 32 = .ok (.aload_n 1, 1) := by decide +kernel
theorem dX0_claimedBy_33 : decode cX0_claimedBy 33 = .ok (.getfield 45, 3) := by decide +kernel
theorem dX0_claimedBy_36 : decode cX0_claimedBy 36 = .ok (.iload 4, 2) := by decide +kernel
theorem dX0_claimedBy_38 : decode cX0_claimedBy 38 = .ok (.iaload, 1) := by decide +kernel
theorem dX0_claimedBy_39 : decode cX0_claimedBy 39 = .ok (.aload_n 0, 1) := by decide +kernel
theorem dX0_claimedBy_40 : decode cX0_claimedBy 40 = .ok (.getfield 18, 3) := by decide +kernel
theorem dX0_claimedBy_43 : decode cX0_claimedBy 43 = .ok (.getfield 82, 3) := by decide +kernel
theorem dX0_claimedBy_46 : decode cX0_claimedBy 46 = .ok (.iload_n 2, 1) := by decide +kernel
theorem dX0_claimedBy_47 : decode cX0_claimedBy 47 = .ok (.iaload, 1) := by decide +kernel
theorem dX0_claimedBy_48 : decode cX0_claimedBy 48 = .ok (.invokevirtual 85, 3) := by decide +kernel
theorem dX0_claimedBy_51 : decode cX0_claimedBy 51 = .ok (.iconst (-1), 1) := by decide +kernel
theorem dX0_claimedBy_52 : decode cX0_claimedBy 52 = .ok (.if_icmp .eq 10, 3) := by decide +kernel
theorem dX0_claimedBy_55 : decode cX0_claimedBy 55 = .ok (.iload_n 3, 1) := by decide +kernel
theorem dX0_claimedBy_56 : decode cX0_claimedBy 56 = .ok (.iconst 1, 1) := by decide +kernel
theorem dX0_claimedBy_57 : decode cX0_claimedBy 57 = .ok (.iload 4, 2) := by decide +kernel
theorem dX0_claimedBy_59 : decode cX0_claimedBy 59 = .ok (.ishl, 1) := by decide +kernel
theorem dX0_claimedBy_60 : decode cX0_claimedBy 60 = .ok (.ior, 1) := by decide +kernel
theorem dX0_claimedBy_61 : decode cX0_claimedBy 61 = .ok (.istore_n 3, 1) := by decide +kernel
theorem dX0_claimedBy_62 : decode cX0_claimedBy 62 = .ok (.iinc 4 1, 3) := by decide +kernel
theorem dX0_claimedBy_65 : decode cX0_claimedBy 65 = .ok (.goto (-60), 3) := by decide +kernel
theorem dX0_claimedBy_68 : decode cX0_claimedBy 68 = .ok (.iload_n 3, 1) := by decide +kernel
theorem dX0_claimedBy_69 : decode cX0_claimedBy 69 = .ok (.ireturn, 1) := by decide +kernel
theorem dX0_temptedHerd_0 : decode cX0_temptedHerd 0 = .ok (.iconst (-1), 1) := by decide +kernel
theorem dX0_temptedHerd_1 : decode cX0_temptedHerd 1 = .ok (.istore_n 3, 1) := by decide +kernel
theorem dX0_temptedHerd_2 : decode cX0_temptedHerd 2 = .ok (.iconst 5, 1) := by decide +kernel
theorem dX0_temptedHerd_3 : decode cX0_temptedHerd 3 = .ok (.istore 4, 2) := by decide +kernel
theorem dX0_temptedHerd_5 : decode cX0_temptedHerd 5 = .ok (.iconst 0, 1) := by decide +kernel
theorem dX0_temptedHerd_6 : decode cX0_temptedHerd 6 = .ok (.istore 5, 2) := by decide +kernel
theorem dX0_temptedHerd_8 : decode cX0_temptedHerd 8 = .ok (.iload 5, 2) := by decide +kernel
theorem dX0_temptedHerd_10 : decode cX0_temptedHerd 10 = .ok (.aload_n 0, 1) := by decide +kernel
theorem dX0_temptedHerd_11 : decode cX0_temptedHerd 11 = .ok (.getfield 18, 3) := by decide +kernel
theorem dX0_temptedHerd_14 : decode cX0_temptedHerd 14 = .ok (.getfield 79, 3) := by decide +kernel
theorem dX0_temptedHerd_17 : decode cX0_temptedHerd 17 = .ok (.if_icmp .ge 64, 3) := by decide +kernel
theorem dX0_temptedHerd_20 : decode cX0_temptedHerd 20 = .ok (.aload_n 0, 1) := by decide +kernel
theorem dX0_temptedHerd_21 : decode cX0_temptedHerd 21 = .ok (.getfield 26, 3) := by decide +kernel
theorem dX0_temptedHerd_24 : decode cX0_temptedHerd 24 = .ok (.aload_n 1, 1) := by decide +kernel
theorem dX0_temptedHerd_25 : decode cX0_temptedHerd 25 = .ok (.getfield 45, 3) := by decide +kernel
theorem dX0_temptedHerd_28 : decode cX0_temptedHerd 28 = .ok (.iload_n 2, 1) := by decide +kernel
theorem dX0_temptedHerd_29 : decode cX0_temptedHerd 29 = .ok (.iaload, 1) := by decide +kernel
theorem dX0_temptedHerd_30 : decode cX0_temptedHerd 30 = .ok (.aload_n 0, 1) := by decide +kernel
theorem dX0_temptedHerd_31 : decode cX0_temptedHerd 31 = .ok (.getfield 18, 3) := by decide +kernel
theorem dX0_temptedHerd_34 : decode cX0_temptedHerd 34 = .ok (.getfield 82, 3) := by decide +kernel
theorem dX0_temptedHerd_37 : decode cX0_temptedHerd 37 = .ok (.iload 5, 2) := by decide +kernel
theorem dX0_temptedHerd_39 : decode cX0_temptedHerd 39 = .ok (.iaload, 1) := by decide +kernel
theorem dX0_temptedHerd_40 : decode cX0_temptedHerd 40 = .ok (.invokevirtual 85, 3) := by decide +kernel
theorem dX0_temptedHerd_43 : decode cX0_temptedHerd 43 = .ok (.istore 6, 2) := by decide +kernel
theorem dX0_temptedHerd_45 : decode cX0_temptedHerd 45 = .ok (.iload 5, 2) := by decide +kernel
theorem dX0_temptedHerd_47 : decode cX0_temptedHerd 47 = .ok (.aload_n 1, 1) := by decide +kernel
theorem dX0_temptedHerd_48 : decode cX0_temptedHerd 48 = .ok (.getfield 96, 3) := by decide +kernel
theorem dX0_temptedHerd_51 : decode cX0_temptedHerd 51 = .ok (.iload_n 2, 1) := by decide +kernel
theorem dX0_temptedHerd_52 : decode cX0_temptedHerd 52 = .ok (.iaload, 1) := by decide +kernel
theorem dX0_temptedHerd_53 : decode cX0_temptedHerd 53 = .ok (.if_icmp .eq 22, 3) := by decide +kernel
theorem dX0_temptedHerd_56 : decode cX0_temptedHerd 56 = .ok (.iload 6, 2) := by decide +kernel
theorem dX0_temptedHerd_58 : decode cX0_temptedHerd 58 = .ok (.ifCond .le 17, 3) := by decide +kernel
theorem dX0_temptedHerd_61 : decode cX0_temptedHerd 61 = .ok (.iload 6, 2) := by decide +kernel
theorem dX0_temptedHerd_63 : decode cX0_temptedHerd 63 = .ok (.iload 4, 2) := by decide +kernel
theorem dX0_temptedHerd_65 : decode cX0_temptedHerd 65 = .ok (.if_icmp .ge 10, 3) := by decide +kernel
theorem dX0_temptedHerd_68 : decode cX0_temptedHerd 68 = .ok (.iload 5, 2) := by decide +kernel
theorem dX0_temptedHerd_70 : decode cX0_temptedHerd 70 = .ok (.istore_n 3, 1) := by decide +kernel
theorem dX0_temptedHerd_71 : decode cX0_temptedHerd 71 = .ok (.iload 6, 2) := by decide +kernel
theorem dX0_temptedHerd_73 : decode cX0_temptedHerd 73 = .ok (.istore 4, 2) := by decide +kernel
theorem dX0_temptedHerd_75 : decode cX0_temptedHerd 75 = .ok (.iinc 5 1, 3) := by decide +kernel
theorem dX0_temptedHerd_78 : decode cX0_temptedHerd 78 = .ok (.goto (-70), 3) := by decide +kernel
theorem dX0_temptedHerd_81 : decode cX0_temptedHerd 81 = .ok (.iload_n 3, 1) := by decide +kernel
theorem dX0_temptedHerd_82 : decode cX0_temptedHerd 82 = .ok (.ireturn, 1) := by decide +kernel
theorem dX0_strayBeasts_0 : decode cX0_strayBeasts 0 = .ok (.iconst 0, 1) := by decide +kernel
theorem dX0_strayBeasts_1 : decode cX0_strayBeasts 1 = .ok (.istore_n 2, 1) := by decide +kernel
theorem dX0_strayBeasts_2 : decode cX0_strayBeasts 2 = .ok (.iconst 0, 1) := by decide +kernel
theorem dX0_strayBeasts_3 : decode cX0_strayBeasts 3 = .ok (.istore_n 3, 1) := by decide +kernel
theorem dX0_strayBeasts_4 : decode cX0_strayBeasts 4 = .ok (.iload_n 3, 1) := by decide +kernel
theorem dX0_strayBeasts_5 : decode cX0_strayBeasts 5 = .ok (.aload_n 0, 1) := by decide +kernel
theorem dX0_strayBeasts_6 : decode cX0_strayBeasts 6 = .ok (.getfield 18, 3) := by decide +kernel
theorem dX0_strayBeasts_9 : decode cX0_strayBeasts 9 = .ok (.getfield 72, 3) := by decide +kernel
theorem dX0_strayBeasts_12 : decode cX0_strayBeasts 12 = .ok (.if_icmp .ge 49, 3) := by decide +kernel
theorem dX0_strayBeasts_15 : decode cX0_strayBeasts 15 = .ok (.aload_n 1, 1) := by decide +kernel
theorem dX0_strayBeasts_16 : decode cX0_strayBeasts 16 = .ok (.getfield 96, 3) := by decide +kernel
theorem dX0_strayBeasts_19 : decode cX0_strayBeasts 19 = .ok (.iload_n 3, 1) := by decide +kernel
theorem dX0_strayBeasts_20 : decode cX0_strayBeasts 20 = .ok (.iaload, 1) := by decide +kernel
theorem dX0_strayBeasts_21 : decode cX0_strayBeasts 21 = .ok (.istore 4, 2) := by decide +kernel
theorem dX0_strayBeasts_23 : decode cX0_strayBeasts 23 = .ok (.aload_n 0, 1) := by decide +kernel
theorem dX0_strayBeasts_24 : decode cX0_strayBeasts 24 = .ok (.getfield 22, 3) := by decide +kernel
theorem dX0_strayBeasts_27 : decode cX0_strayBeasts 27 = .ok (.aload_n 1, 1) := by decide +kernel
theorem dX0_strayBeasts_28 : decode cX0_strayBeasts 28 = .ok (.getfield 45, 3) := by decide +kernel
theorem dX0_strayBeasts_31 : decode cX0_strayBeasts 31 = .ok (.iload_n 3, 1) := by decide +kernel
theorem dX0_strayBeasts_32 : decode cX0_strayBeasts 32 = .ok (.iaload, 1) := by decide +kernel
theorem dX0_strayBeasts_33 : decode cX0_strayBeasts 33 = .ok (.aload_n 0, 1) := by decide +kernel
theorem dX0_strayBeasts_34 : decode cX0_strayBeasts 34 = .ok (.getfield 18, 3) := by decide +kernel
theorem dX0_strayBeasts_37 : decode cX0_strayBeasts 37 = .ok (.getfield 82, 3) := by decide +kernel
theorem dX0_strayBeasts_40 : decode cX0_strayBeasts 40 = .ok (.iload 4, 2) := by decide +kernel
theorem dX0_strayBeasts_42 : decode cX0_strayBeasts 42 = .ok (.iaload, 1) := by decide +kernel
theorem dX0_strayBeasts_43 : decode cX0_strayBeasts 43 = .ok (.invokevirtual 90, 3) := by decide +kernel
theorem dX0_strayBeasts_46 : decode cX0_strayBeasts 46 = .ok (.ifCond .ne 9, 3) := by decide +kernel
theorem dX0_strayBeasts_49 : decode cX0_strayBeasts 49 = .ok (.iload_n 2, 1) := by decide +kernel
theorem dX0_strayBeasts_50 : decode cX0_strayBeasts 50 = .ok (.iconst 1, 1) := by decide +kernel
theorem dX0_strayBeasts_51 : decode cX0_strayBeasts 51 = .ok (.iload_n 3, 1) := by decide +kernel
theorem dX0_strayBeasts_52 : decode cX0_strayBeasts 52 = .ok (.ishl, 1) := by decide +kernel
theorem dX0_strayBeasts_53 : decode cX0_strayBeasts 53 = .ok (.ior, 1) := by decide +kernel
theorem dX0_strayBeasts_54 : decode cX0_strayBeasts 54 = .ok (.istore_n 2, 1) := by decide +kernel
theorem dX0_strayBeasts_55 : decode cX0_strayBeasts 55 = .ok (.iinc 3 1, 3) := by decide +kernel
theorem dX0_strayBeasts_58 : decode cX0_strayBeasts 58 = .ok (.goto (-54), 3) := by decide +kernel
theorem dX0_strayBeasts_61 : decode cX0_strayBeasts 61 = .ok (.iload_n 2, 1) := by decide +kernel
theorem dX0_strayBeasts_62 : decode cX0_strayBeasts 62 = .ok (.ireturn, 1) := by decide +kernel
theorem dX0_untouchedStrokes_0 : decode cX0_untouchedStrokes 0 = .ok (.sipush 4095, 3) := by decide +kernel
theorem dX0_untouchedStrokes_3 : decode cX0_untouchedStrokes 3 = .ok (.istore_n 2, 1) := by decide +kernel
theorem dX0_untouchedStrokes_4 : decode cX0_untouchedStrokes 4 = .ok (.iconst 0, 1) := by decide +kernel
theorem dX0_untouchedStrokes_5 : decode cX0_untouchedStrokes 5 = .ok (.istore_n 3, 1) := by decide +kernel
theorem dX0_untouchedStrokes_6 : decode cX0_untouchedStrokes 6 = .ok (.iload_n 3, 1) := by decide +kernel
theorem dX0_untouchedStrokes_7 : decode cX0_untouchedStrokes 7 = .ok (.aload_n 0, 1) := by decide +kernel
theorem dX0_untouchedStrokes_8 : decode cX0_untouchedStrokes 8 = .ok (.getfield 18, 3) := by decide +kernel
theorem dX0_untouchedStrokes_11 : decode cX0_untouchedStrokes 11 = .ok (.getfield 72, 3) := by decide +kernel
theorem dX0_untouchedStrokes_14 : decode cX0_untouchedStrokes 14 = .ok (.if_icmp .ge 20, 3) := by decide +kernel
theorem dX0_untouchedStrokes_17 : decode cX0_untouchedStrokes 17 = .ok (.iload_n 2, 1) := by decide +kernel
theorem dX0_untouchedStrokes_18 : decode cX0_untouchedStrokes 18 = .ok (.aload_n 1, 1) := by decide +kernel
theorem dX0_untouchedStrokes_19 : decode cX0_untouchedStrokes 19 = .ok (.getfield 45, 3) := by decide +kernel
theorem dX0_untouchedStrokes_22 : decode cX0_untouchedStrokes 22 = .ok (.iload_n 3, 1) := by decide +kernel
theorem dX0_untouchedStrokes_23 : decode cX0_untouchedStrokes 23 = .ok (.iaload, 1) := by decide +kernel
theorem dX0_untouchedStrokes_24 : decode cX0_untouchedStrokes 24 = .ok (.iconst (-1), 1) := by decide +kernel
theorem dX0_untouchedStrokes_25 : decode cX0_untouchedStrokes 25 = .ok (.ixor, 1) := by decide +kernel
theorem dX0_untouchedStrokes_26 : decode cX0_untouchedStrokes 26 = .ok (.iand, 1) := by decide +kernel
theorem dX0_untouchedStrokes_27 : decode cX0_untouchedStrokes 27 = .ok (.istore_n 2, 1) := by decide +kernel
theorem dX0_untouchedStrokes_28 : decode cX0_untouchedStrokes 28 = .ok (.iinc 3 1, 3) := by decide +kernel
theorem dX0_untouchedStrokes_31 : decode cX0_untouchedStrokes 31 = .ok (.goto (-25), 3) := by decide +kernel
theorem dX0_untouchedStrokes_34 : decode cX0_untouchedStrokes 34 = .ok (.iload_n 2, 1) := by decide +kernel
theorem dX0_untouchedStrokes_35 : decode cX0_untouchedStrokes 35 = .ok (.ireturn, 1) := by decide +kernel
theorem dX0_tellingStroke_0 : decode cX0_tellingStroke 0 = .ok (.iconst (-1), 1) := by decide +kernel
theorem dX0_tellingStroke_1 : decode cX0_tellingStroke 1 = .ok (.istore_n 2, 1) := by decide +kernel
theorem dX0_tellingStroke_2 : decode cX0_tellingStroke 2 = .ok (.aload_n 0, 1) := by decide +kernel
theorem dX0_tellingStroke_3 : decode cX0_tellingStroke 3 = .ok (.getfield 18, 3) := by decide +kernel
theorem dX0_tellingStroke_6 : decode cX0_tellingStroke 6 = .ok (.getfield 72, 3) := by decide +kernel
theorem dX0_tellingStroke_9 : decode cX0_tellingStroke 9 = .ok (.iconst 1, 1) := by decide +kernel
theorem dX0_tellingStroke_10 : decode cX0_tellingStroke 10 = .ok (.iadd, 1) := by decide +kernel
theorem dX0_tellingStroke_11 : decode cX0_tellingStroke 11 = .ok (.istore_n 3, 1) := by decide +kernel
theorem dX0_tellingStroke_12 : decode cX0_tellingStroke 12 = .ok (.iconst 0, 1) := by decide +kernel
theorem dX0_tellingStroke_13 : decode cX0_tellingStroke 13 = .ok (.istore 4, 2) := by decide +kernel
theorem dX0_tellingStroke_15 : decode cX0_tellingStroke 15 = .ok (.iload 4, 2) := by decide +kernel
theorem dX0_tellingStroke_17 : decode cX0_tellingStroke 17 = .ok (.bipush 12, 2) := by decide +kernel
theorem dX0_tellingStroke_19 : decode cX0_tellingStroke 19 = .ok (.if_icmp .ge 89, 3) := by decide +kernel
theorem dX0_tellingStroke_22 : decode cX0_tellingStroke 22 = .ok (.aload_n 0, 1) := by decide +kernel
theorem dX0_tellingStroke_23 : decode cX0_tellingStroke 23 = .ok (.getfield 18, 3) := by decide +kernel
theorem dX0_tellingStroke_26 : decode cX0_tellingStroke 26 = .ok (.getfield 72, 3) := by decide +kernel
theorem dX0_tellingStroke_29 : decode cX0_tellingStroke 29 = .ok (.ifCond .le 79, 3) := by decide +kernel
theorem dX0_tellingStroke_32 : decode cX0_tellingStroke 32 = .ok (.iconst 0, 1) := by decide +kernel
theorem dX0_tellingStroke_33 : decode cX0_tellingStroke 33 = .ok (.istore 5, 2) := by decide +kernel
theorem dX0_tellingStroke_35 : decode cX0_tellingStroke 35 = .ok (.iconst 0, 1) := by decide +kernel
theorem dX0_tellingStroke_36 : decode cX0_tellingStroke 36 = .ok (.istore 6, 2) := by decide +kernel
theorem dX0_tellingStroke_38 : decode cX0_tellingStroke 38 = .ok (.iload 6, 2) := by decide +kernel
theorem dX0_tellingStroke_40 : decode cX0_tellingStroke 40 = .ok (.aload_n 0, 1) := by decide +kernel
theorem dX0_tellingStroke_41 : decode cX0_tellingStroke 41 = .ok (.getfield 18, 3) := by decide +kernel
theorem dX0_tellingStroke_44 : decode cX0_tellingStroke 44 = .ok (.getfield 72, 3) := by decide +kernel
theorem dX0_tellingStroke_47 : decode cX0_tellingStroke 47 = .ok (.if_icmp .ge 26, 3) := by decide +kernel
theorem dX0_tellingStroke_50 : decode cX0_tellingStroke 50 = .ok (.iload 5, 2) := by decide +kernel
theorem dX0_tellingStroke_52 : decode cX0_tellingStroke 52 = .ok (.aload_n 1, 1) := by decide +kernel
theorem dX0_tellingStroke_53 : decode cX0_tellingStroke 53 = .ok (.getfield 45, 3) := by decide +kernel
theorem dX0_tellingStroke_56 : decode cX0_tellingStroke 56 = .ok (.iload 6, 2) := by decide +kernel
theorem dX0_tellingStroke_58 : decode cX0_tellingStroke 58 = .ok (.iaload, 1) := by decide +kernel
theorem dX0_tellingStroke_59 : decode cX0_tellingStroke 59 = .ok (.iload 4, 2) := by decide +kernel
theorem dX0_tellingStroke_61 : decode cX0_tellingStroke 61 = .ok (.ishr, 1) := by decide +kernel
theorem dX0_tellingStroke_62 : decode cX0_tellingStroke 62 = .ok (.iconst 1, 1) := by decide +kernel
theorem dX0_tellingStroke_63 : decode cX0_tellingStroke 63 = .ok (.iand, 1) := by decide +kernel
theorem dX0_tellingStroke_64 : decode cX0_tellingStroke 64 = .ok (.iadd, 1) := by decide +kernel
theorem dX0_tellingStroke_65 : decode cX0_tellingStroke 65 = .ok (.istore 5, 2) := by decide +kernel
theorem dX0_tellingStroke_67 : decode cX0_tellingStroke 67 = .ok (.iinc 6 1, 3) := by decide +kernel
theorem dX0_tellingStroke_70 : decode cX0_tellingStroke 70 = .ok (.goto (-32), 3) := by decide +kernel
theorem dX0_tellingStroke_73 : decode cX0_tellingStroke 73 = .ok (.iconst 2, 1) := by decide +kernel
theorem dX0_tellingStroke_74 : decode cX0_tellingStroke 74 = .ok (.iload 5, 2) := by decide +kernel
theorem dX0_tellingStroke_76 : decode cX0_tellingStroke 76 = .ok (.imul, 1) := by decide +kernel
theorem dX0_tellingStroke_77 : decode cX0_tellingStroke 77 = .ok (.aload_n 0, 1) := by decide +kernel
theorem dX0_tellingStroke_78 : decode cX0_tellingStroke 78 = .ok (.getfield 18, 3) := by decide +kernel
theorem dX0_tellingStroke_81 : decode cX0_tellingStroke 81 = .ok (.getfield 72, 3) := by decide +kernel
theorem dX0_tellingStroke_84 : decode cX0_tellingStroke 84 = .ok (.isub, 1) := by decide +kernel
theorem dX0_tellingStroke_85 : decode cX0_tellingStroke 85 = .ok (.invokestatic 99, 3) := by decide +kernel
theorem dX0_tellingStroke_88 : decode cX0_tellingStroke 88 = .ok (.istore 6, 2) := by decide +kernel
theorem dX0_tellingStroke_90 : decode cX0_tellingStroke 90 = .ok (.iload 6, 2) := by decide +kernel
theorem dX0_tellingStroke_92 : decode cX0_tellingStroke 92 = .ok (.iload_n 3, 1) := by decide +kernel
theorem dX0_tellingStroke_93 : decode cX0_tellingStroke 93 = .ok (.if_icmp .ge 9, 3) := by decide +kernel
theorem dX0_tellingStroke_96 : decode cX0_tellingStroke 96 = .ok (.iload 4, 2) := by decide +kernel
theorem dX0_tellingStroke_98 : decode cX0_tellingStroke 98 = .ok (.istore_n 2, 1) := by decide +kernel
theorem dX0_tellingStroke_99 : decode cX0_tellingStroke 99 = .ok (.iload 6, 2) := by decide +kernel
theorem dX0_tellingStroke_101 : decode cX0_tellingStroke 101 = .ok (.istore_n 3, 1) := by decide +kernel
theorem dX0_tellingStroke_102 : decode cX0_tellingStroke 102 = .ok (.iinc 4 1, 3) := by decide +kernel
theorem dX0_tellingStroke_105 : decode cX0_tellingStroke 105 = .ok (.goto (-90), 3) := by decide +kernel
theorem dX0_tellingStroke_108 : decode cX0_tellingStroke 108 = .ok (.iload_n 2, 1) := by decide +kernel
theorem dX0_tellingStroke_109 : decode cX0_tellingStroke 109 = .ok (.ireturn, 1) := by decide +kernel
theorem dX0_countRests_0 : decode cX0_countRests 0 = .ok (.aload_n 0, 1) := by decide +kernel
theorem dX0_countRests_1 : decode cX0_countRests 1 = .ok (.aload_n 1, 1) := by decide +kernel
theorem dX0_countRests_2 : decode cX0_countRests 2 = .ok (.iload_n 2, 1) := by decide +kernel
theorem dX0_countRests_3 : decode cX0_countRests 3 = .ok (.aload_n 0, 1) := by decide +kernel
theorem dX0_countRests_4 : decode cX0_countRests 4 = .ok (.getfield 9, 3) := by decide +kernel
theorem dX0_countRests_7 : decode cX0_countRests 7 = .ok (.invokevirtual 102, 3) := by decide +kernel
theorem dX0_countRests_10 : decode cX0_countRests 10 = .ok (.aload_n 0, 1) := by decide +kernel
theorem dX0_countRests_11 : decode cX0_countRests 11 = .ok (.aload_n 1, 1) := by decide +kernel
theorem dX0_countRests_12 : decode cX0_countRests 12 = .ok (.iload_n 3, 1) := by decide +kernel
theorem dX0_countRests_13 : decode cX0_countRests 13 = .ok (.aload_n 0, 1) := by decide +kernel
theorem dX0_countRests_14 : decode cX0_countRests 14 = .ok (.getfield 15, 3) := by decide +kernel
theorem dX0_countRests_17 : decode cX0_countRests 17 = .ok (.invokevirtual 102, 3) := by decide +kernel
theorem dX0_countRests_20 : decode cX0_countRests 20 = .ok (.iconst 0, 1) := by decide +kernel
theorem dX0_countRests_21 : decode cX0_countRests 21 = .ok (.istore 5, 2) := by decide +kernel
theorem dX0_countRests_23 : decode cX0_countRests 23 = .ok (.iconst 0, 1) := by decide +kernel
theorem dX0_countRests_24 : decode cX0_countRests 24 = .ok (.istore 6, 2) := by decide +kernel
theorem dX0_countRests_26 : decode cX0_countRests 26 = .ok (.iload 6, 2) := by decide +kernel
theorem dX0_countRests_28 : decode cX0_countRests 28 = .ok (.aload_n 0, 1) := by decide +kernel
theorem dX0_countRests_29 : decode cX0_countRests 29 = .ok (.getfield 18, 3) := by decide +kernel
theorem dX0_countRests_32 : decode cX0_countRests 32 = .ok (.getfield 72, 3) := by decide +kernel
theorem dX0_countRests_35 : decode cX0_countRests 35 = .ok (.if_icmp .ge 87, 3) := by decide +kernel
theorem dX0_countRests_38 : decode cX0_countRests 38 = .ok (.iconst 0, 1) := by decide +kernel
theorem dX0_countRests_39 : decode cX0_countRests 39 = .ok (.istore 7, 2) := by decide +kernel
theorem dX0_countRests_41 : decode cX0_countRests 41 = .ok (.iload 7, 2) := by decide +kernel
theorem dX0_countRests_43 : decode cX0_countRests 43 = .ok (.aload_n 0, 1) := by decide +kernel
theorem dX0_countRests_44 : decode cX0_countRests 44 = .ok (.getfield 18, 3) := by decide +kernel
theorem dX0_countRests_47 : decode cX0_countRests 47 = .ok (.getfield 72, 3) := by decide +kernel
theorem dX0_countRests_50 : decode cX0_countRests 50 = .ok (.if_icmp .ge 66, 3) := by decide +kernel
theorem dX0_countRests_53 : decode cX0_countRests 53 = .ok (.aload_n 0, 1) := by decide +kernel
theorem dX0_countRests_54 : decode cX0_countRests 54 = .ok (.aload_n 0, 1) := by decide +kernel
theorem dX0_countRests_55 : decode cX0_countRests 55 = .ok (.getfield 9, 3) := by decide +kernel
theorem dX0_countRests_58 : decode cX0_countRests 58 = .ok (.iload 6, 2) := by decide +kernel
theorem dX0_countRests_60 : decode cX0_countRests 60 = .ok (.iload 7, 2) := by decide +kernel
theorem dX0_countRests_62 : decode cX0_countRests 62 = .ok (.invokevirtual 106, 3) := by decide +kernel
theorem dX0_countRests_65 : decode cX0_countRests 65 = .ok (.ifCond .eq 45, 3) := by decide +kernel
theorem dX0_countRests_68 : decode cX0_countRests 68 = .ok (.aload_n 0, 1) := by decide +kernel
theorem dX0_countRests_69 : decode cX0_countRests 69 = .ok (.aload_n 0, 1) := by decide +kernel
theorem dX0_countRests_70 : decode cX0_countRests 70 = .ok (.getfield 15, 3) := by decide +kernel
theorem dX0_countRests_73 : decode cX0_countRests 73 = .ok (.iload 7, 2) := by decide +kernel
theorem dX0_countRests_75 : decode cX0_countRests 75 = .ok (.iload 6, 2) := by decide +kernel
theorem dX0_countRests_77 : decode cX0_countRests 77 = .ok (.invokevirtual 106, 3) := by decide +kernel
theorem dX0_countRests_80 : decode cX0_countRests 80 = .ok (.ifCond .eq 30, 3) := by decide +kernel
theorem dX0_countRests_83 : decode cX0_countRests 83 = .ok (.iload 5, 2) := by decide +kernel
theorem dX0_countRests_85 : decode cX0_countRests 85 = .ok (.ifCond .ne 22, 3) := by decide +kernel
theorem dX0_countRests_88 : decode cX0_countRests 88 = .ok (.aload 4, 2) := by decide +kernel
theorem dX0_countRests_90 : decode cX0_countRests 90 = .ok (.arraylength, 1) := by decide +kernel
theorem dX0_countRests_91 : decode cX0_countRests 91 = .ok (.iconst 2, 1) := by decide +kernel
theorem dX0_countRests_92 : decode cX0_countRests 92 = .ok (.if_icmp .lt 15, 3) := by decide +kernel
theorem dX0_countRests_95 : decode cX0_countRests 95 = .ok (.aload 4, 2) := by decide +kernel
theorem dX0_countRests_97 : decode cX0_countRests 97 = .ok (.iconst 0, 1) := by decide +kernel
theorem dX0_countRests_98 : decode cX0_countRests 98 = .ok (.iload 6, 2) := by decide +kernel
theorem dX0_countRests_100 : decode cX0_countRests 100 = .ok (.iastore, 1) := by decide +kernel
theorem dX0_countRests_101 : decode cX0_countRests 101 = .ok (.aload 4, 2) := by decide +kernel
theorem dX0_countRests_103 : decode cX0_countRests 103 = .ok (.iconst 1, 1) := by decide +kernel
theorem dX0_countRests_104 : decode cX0_countRests 104 = .ok (.iload 7, 2) := by decide +kernel
theorem dX0_countRests_106 : decode cX0_countRests 106 = .ok (.iastore, 1) := by decide +kernel
theorem dX0_countRests_107 : decode cX0_countRests 107 = .ok (.iinc 5 1, 3) := by decide +kernel
theorem dX0_countRests_110 : decode cX0_countRests 110 = .ok (.iinc 7 1, 3) := by decide +kernel
theorem dX0_countRests_113 : decode cX0_countRests 113 = .ok (.goto (-72), 3) := by decide +kernel
theorem dX0_countRests_116 : decode cX0_countRests 116 = .ok (.iinc 6 1, 3) := by decide +kernel
theorem dX0_countRests_119 : decode cX0_countRests 119 = .ok (.goto (-93), 3) := by decide +kernel
theorem dX0_countRests_122 : decode cX0_countRests 122 = .ok (.iload 5, 2) := by decide +kernel
theorem dX0_countRests_124 : decode cX0_countRests 124 = .ok (.ireturn, 1) := by decide +kernel
theorem dX0_fillGains_0 : decode cX0_fillGains 0 = .ok (.iconst 0, 1) := by decide +kernel
theorem dX0_fillGains_1 : decode cX0_fillGains 1 = .ok (.istore 4, 2) := by decide +kernel
theorem dX0_fillGains_3 : decode cX0_fillGains 3 = .ok (.iload 4, 2) := by decide +kernel
theorem dX0_fillGains_5 : decode cX0_fillGains 5 = .ok (.aload_n 0, 1) := by decide +kernel
theorem dX0_fillGains_6 : decode cX0_fillGains 6 = .ok (.getfield 18, 3) := by decide +kernel
theorem dX0_fillGains_9 : decode cX0_fillGains 9 = .ok (.getfield 72, 3) := by decide +kernel
theorem dX0_fillGains_12 : decode cX0_fillGains 12 = .ok (.if_icmp .ge 53, 3) := by decide +kernel
theorem dX0_fillGains_15 : decode cX0_fillGains 15 = .ok (.aload_n 0, 1) := by decide +kernel
theorem dX0_fillGains_16 : decode cX0_fillGains 16 = .ok (.getfield 26, 3) := by decide +kernel
theorem dX0_fillGains_19 : decode cX0_fillGains 19 = .ok (.aload_n 1, 1) := by decide +kernel
theorem dX0_fillGains_20 : decode cX0_fillGains 20 = .ok (.getfield 45, 3) := by decide +kernel
theorem dX0_fillGains_23 : decode cX0_fillGains 23 = .ok (.iload 4, 2) := by decide +kernel
theorem dX0_fillGains_25 : decode cX0_fillGains 25 = .ok (.iaload, 1) := by decide +kernel
theorem dX0_fillGains_26 : decode cX0_fillGains 26 = .ok (.aload_n 0, 1) := by decide +kernel
theorem dX0_fillGains_27 : decode cX0_fillGains 27 = .ok (.getfield 18, 3) := by decide +kernel
theorem dX0_fillGains_30 : decode cX0_fillGains 30 = .ok (.getfield 82, 3) := by decide +kernel
theorem dX0_fillGains_33 : decode cX0_fillGains 33 = .ok (.iload_n 2, 1) := by decide +kernel
theorem dX0_fillGains_34 : decode cX0_fillGains 34 = .ok (.iaload, 1) := by decide +kernel
theorem dX0_fillGains_35 : decode cX0_fillGains 35 = .ok (.invokevirtual 85, 3) := by decide +kernel
theorem dX0_fillGains_38 : decode cX0_fillGains 38 = .ok (.istore 5, 2) := by decide +kernel
theorem dX0_fillGains_40 : decode cX0_fillGains 40 = .ok (.aload_n 3, 1) := by decide +kernel
theorem dX0_fillGains_41 : decode cX0_fillGains 41 = .ok (.iload 4, 2) := by decide +kernel
theorem dX0_fillGains_43 : decode cX0_fillGains 43 = .ok (.iload 5, 2) := by decide +kernel
theorem dX0_fillGains_45 : decode cX0_fillGains 45 = .ok (.iconst (-1), 1) := by decide +kernel
theorem dX0_fillGains_46 : decode cX0_fillGains 46 = .ok (.if_icmp .ne 7, 3) := by decide +kernel
theorem dX0_fillGains_49 : decode cX0_fillGains 49 = .ok (.iconst 0, 1) := by decide +kernel
theorem dX0_fillGains_50 : decode cX0_fillGains 50 = .ok (.goto 8, 3) := by decide +kernel
theorem dX0_fillGains_53 : decode cX0_fillGains 53 = .ok (.bipush 10, 2) := by decide +kernel
theorem dX0_fillGains_55 : decode cX0_fillGains 55 = .ok (.iload 5, 2) := by decide +kernel
theorem dX0_fillGains_57 : decode cX0_fillGains 57 = .ok (.isub, 1) := by decide +kernel
theorem dX0_fillGains_58 : decode cX0_fillGains 58 = .ok (.iastore, 1) := by decide +kernel
theorem dX0_fillGains_59 : decode cX0_fillGains 59 = .ok (.iinc 4 1, 3) := by decide +kernel
theorem dX0_fillGains_62 : decode cX0_fillGains 62 = .ok (.goto (-59), 3) := by decide +kernel
theorem dX0_fillGains_65 : decode cX0_fillGains 65 = .ok (.return_, 1) := by decide +kernel
theorem dX0_staysAt_0 : decode cX0_staysAt 0 = .ok (.iload_n 2, 1) := by decide +kernel
theorem dX0_staysAt_1 : decode cX0_staysAt 1 = .ok (.iload_n 3, 1) := by decide +kernel
theorem dX0_staysAt_2 : decode cX0_staysAt 2 = .ok (.if_icmp .ne 7, 3) := by decide +kernel
theorem dX0_staysAt_5 : decode cX0_staysAt 5 = .ok (.iconst 0, 1) := by decide +kernel
theorem dX0_staysAt_6 : decode cX0_staysAt 6 = .ok (.goto 6, 3) := by decide +kernel
theorem dX0_staysAt_9 : decode cX0_staysAt 9 = .ok (.aload_n 1, 1) := by decide +kernel
theorem dX0_staysAt_10 : decode cX0_staysAt 10 = .ok (.iload_n 2, 1) := by decide +kernel
theorem dX0_staysAt_11 : decode cX0_staysAt 11 = .ok (.iaload, 1) := by decide +kernel
theorem dX0_staysAt_12 : decode cX0_staysAt 12 = .ok (.istore 4, 2) := by decide +kernel
theorem dX0_staysAt_14 : decode cX0_staysAt 14 = .ok (.iconst 0, 1) := by decide +kernel
theorem dX0_staysAt_15 : decode cX0_staysAt 15 = .ok (.istore 5, 2) := by decide +kernel
theorem dX0_staysAt_17 : decode cX0_staysAt 17 = .ok (.iload 5, 2) := by decide +kernel
theorem dX0_staysAt_19 : decode cX0_staysAt 19 = .ok (.aload_n 0, 1) := by decide +kernel
theorem dX0_staysAt_20 : decode cX0_staysAt 20 = .ok (.getfield 18, 3) := by decide +kernel
theorem dX0_staysAt_23 : decode cX0_staysAt 23 = .ok (.getfield 72, 3) := by decide +kernel
theorem dX0_staysAt_26 : decode cX0_staysAt 26 = .ok (.if_icmp .ge 26, 3) := by decide +kernel
theorem dX0_staysAt_29 : decode cX0_staysAt 29 = .ok (.iload 5, 2) := by decide +kernel
theorem dX0_staysAt_31 : decode cX0_staysAt 31 = .ok (.iload_n 3, 1) := by decide +kernel
theorem dX0_staysAt_32 : decode cX0_staysAt 32 = .ok (.if_icmp .eq 14, 3) := by decide +kernel
theorem dX0_staysAt_35 : decode cX0_staysAt 35 = .ok (.aload_n 1, 1) := by decide +kernel
theorem dX0_staysAt_36 : decode cX0_staysAt 36 = .ok (.iload 5, 2) := by decide +kernel
theorem dX0_staysAt_38 : decode cX0_staysAt 38 = .ok (.iaload, 1) := by decide +kernel
theorem dX0_staysAt_39 : decode cX0_staysAt 39 = .ok (.iload 4, 2) := by decide +kernel
theorem dX0_staysAt_41 : decode cX0_staysAt 41 = .ok (.if_icmp .le 5, 3) := by decide +kernel
theorem dX0_staysAt_44 : decode cX0_staysAt 44 = .ok (.iconst 0, 1) := by decide +kernel
theorem dX0_staysAt_45 : decode cX0_staysAt 45 = .ok (.ireturn, 1) := by decide +kernel
theorem dX0_staysAt_46 : decode cX0_staysAt 46 = .ok (.iinc 5 1, 3) := by decide +kernel
theorem dX0_staysAt_49 : decode cX0_staysAt 49 = .ok (.goto (-32), 3) := by decide +kernel
theorem dX0_staysAt_52 : decode cX0_staysAt 52 = .ok (.iconst 1, 1) := by decide +kernel
theorem dX0_staysAt_53 : decode cX0_staysAt 53 = .ok (.ireturn, 1) := by decide +kernel
theorem dX1_init_0 : decode cX1_init 0 = .ok (.aload_n 0, 1) := by decide +kernel
theorem dX1_init_1 : decode cX1_init 1 = .ok (.invokespecial 3, 3) := by decide +kernel
theorem dX1_init_4 : decode cX1_init 4 = .ok (.aload_n 0, 1) := by decide +kernel
theorem dX1_init_5 : decode cX1_init 5 = .ok (.bipush 8, 2) := by decide +kernel
theorem dX1_init_7 : decode cX1_init 7 = .ok (.newarray .int, 2) := by decide +kernel
theorem dX1_init_9 : decode cX1_init 9 = .ok (.putfield 9, 3) := by decide +kernel
theorem dX1_init_12 : decode cX1_init 12 = .ok (.aload_n 0, 1) := by decide +kernel
theorem dX1_init_13 : decode cX1_init 13 = .ok (.bipush 8, 2) := by decide +kernel
theorem dX1_init_15 : decode cX1_init 15 = .ok (.newarray .int, 2) := by decide +kernel
theorem dX1_init_17 : decode cX1_init 17 = .ok (.putfield 15, 3) := by decide +kernel
theorem dX1_init_20 : decode cX1_init 20 = .ok (.aload_n 0, 1) := by decide +kernel
theorem dX1_init_21 : decode cX1_init 21 = .ok (.bipush 8, 2) := by decide +kernel
theorem dX1_init_23 : decode cX1_init 23 = .ok (.newarray .int, 2) := by decide +kernel
theorem dX1_init_25 : decode cX1_init 25 = .ok (.putfield 18, 3) := by decide +kernel
theorem dX1_init_28 : decode cX1_init 28 = .ok (.aload_n 0, 1) := by decide +kernel
theorem dX1_init_29 : decode cX1_init 29 = .ok (.bipush 64, 2) := by decide +kernel
theorem dX1_init_31 : decode cX1_init 31 = .ok (.newarray .int, 2) := by decide +kernel
theorem dX1_init_33 : decode cX1_init 33 = .ok (.putfield 21, 3) := by decide +kernel
theorem dX1_init_36 : decode cX1_init 36 = .ok (.aload_n 0, 1) := by decide +kernel
theorem dX1_init_37 : decode cX1_init 37 = .ok (.iconst 0, 1) := by decide +kernel
theorem dX1_init_38 : decode cX1_init 38 = .ok (.putfield 24, 3) := by decide +kernel
theorem dX1_init_41 : decode cX1_init 41 = .ok (.aload_n 0, 1) := by decide +kernel
theorem dX1_init_42 : decode cX1_init 42 = .ok (.aload_n 1, 1) := by decide +kernel
theorem dX1_init_43 : decode cX1_init 43 = .ok (.putfield 28, 3) := by decide +kernel
theorem dX1_init_46 : decode cX1_init 46 = .ok (.aload_n 0, 1) := by decide +kernel
theorem dX1_init_47 : decode cX1_init 47 = .ok (.aload_n 2, 1) := by decide +kernel
theorem dX1_init_48 : decode cX1_init 48 = .ok (.putfield 32, 3) := by decide +kernel
theorem dX1_init_51 : decode cX1_init 51 = .ok (.aload_n 0, 1) := by decide +kernel
theorem dX1_init_52 : decode cX1_init 52 = .ok (.aload_n 3, 1) := by decide +kernel
theorem dX1_init_53 : decode cX1_init 53 = .ok (.putfield 36, 3) := by decide +kernel
theorem dX1_init_56 : decode cX1_init 56 = .ok (.return_, 1) := by decide +kernel
theorem dX1_compareBrands_0 : decode cX1_compareBrands 0 = .ok (.aload_n 0, 1) := by decide +kernel
theorem dX1_compareBrands_1 : decode cX1_compareBrands 1 = .ok (.iconst 0, 1) := by decide +kernel
theorem dX1_compareBrands_2 : decode cX1_compareBrands 2 = .ok (.putfield 24, 3) := by decide +kernel
theorem dX1_compareBrands_5 : decode cX1_compareBrands 5 = .ok (.iconst 0, 1) := by decide +kernel
theorem dX1_compareBrands_6 : decode cX1_compareBrands 6 = .ok (.istore_n 1, 1) := by decide +kernel
theorem dX1_compareBrands_7 : decode cX1_compareBrands 7 = .ok (.iload_n 1, 1) := by decide +kernel
theorem dX1_compareBrands_8 : decode cX1_compareBrands 8 = .ok (.aload_n 0, 1) := by decide +kernel
theorem dX1_compareBrands_9 : decode cX1_compareBrands 9 = .ok (.getfield 28, 3) := by decide +kernel
theorem dX1_compareBrands_12 : decode cX1_compareBrands 12 = .ok (.getfield 40, 3) := by decide +kernel
theorem dX1_compareBrands_15 : decode cX1_compareBrands 15 = .ok (.if_icmp .ge 86, 3) := by decide +kernel
theorem dX1_compareBrands_18 : decode cX1_compareBrands 18 = .ok (.aload_n 0, 1) := by decide +kernel
theorem dX1_compareBrands_19 : decode cX1_compareBrands 19 = .ok (.getfield 9, 3) := by decide +kernel
theorem dX1_compareBrands_22 : decode cX1_compareBrands 22 = .ok (.iload_n 1, 1) := by decide +kernel
theorem dX1_compareBrands_23 : decode cX1_compareBrands 23 = .ok (.aload_n 0, 1) := by decide +kernel
theorem dX1_compareBrands_24 : decode cX1_compareBrands 24 = .ok (.getfield 32, 3) := by decide +kernel
theorem dX1_compareBrands_27 : decode cX1_compareBrands 27 = .ok (.aload_n 0, 1) := by decide +kernel
theorem dX1_compareBrands_28 : decode cX1_compareBrands 28 = .ok (.getfield 28, 3) := by decide +kernel
theorem dX1_compareBrands_31 : decode cX1_compareBrands 31 = .ok (.getfield 45, 3) := by decide +kernel
theorem dX1_compareBrands_34 : decode cX1_compareBrands 34 = .ok (.iload_n 1, 1) := by decide +kernel
theorem dX1_compareBrands_35 : decode cX1_compareBrands 35 = .ok (.iaload, 1) := by decide +kernel
theorem dX1_compareBrands_36 : decode cX1_compareBrands 36 = .ok (.invokevirtual 48, 3) := by decide +kernel
theorem dX1_compareBrands_39 : decode cX1_compareBrands 39 = .ok (.iastore, 1) := by decide +kernel
theorem dX1_compareBrands_40 : decode cX1_compareBrands 40 = .ok (.iconst 0, 1) := by decide +kernel
theorem dX1_compareBrands_41 : decode cX1_compareBrands 41 = .ok (.istore_n 2, 1) := by decide +kernel
theorem dX1_compareBrands_42 : decode cX1_compareBrands 42 = .ok (.iload_n 2, 1) := by decide +kernel
theorem dX1_compareBrands_43 : decode cX1_compareBrands 43 = .ok (.aload_n 0, 1) := by decide +kernel
theorem dX1_compareBrands_44 : decode cX1_compareBrands 44 = .ok (.getfield 32, 3) := by decide +kernel
theorem dX1_compareBrands_47 : decode cX1_compareBrands 47 = .ok (.invokevirtual 54, 3) := by decide +kernel
theorem dX1_compareBrands_50 : decode cX1_compareBrands 50 = .ok (.if_icmp .ge 45, 3) := by decide +kernel
theorem dX1_compareBrands_53 : decode cX1_compareBrands 53 = .ok (.aload_n 0, 1) := by decide +kernel
theorem dX1_compareBrands_54 : decode cX1_compareBrands 54 = .ok (.getfield 21, 3) := by decide +kernel
theorem dX1_compareBrands_57 : decode cX1_compareBrands 57 = .ok (.aload_n 0, 1) := by decide +kernel
theorem dX1_compareBrands_58 : decode cX1_compareBrands 58 = .ok (.getfield 24, 3) := by decide +kernel
theorem dX1_compareBrands_61 : decode cX1_compareBrands 61 = .ok (.aload_n 0, 1) := by decide +kernel
theorem dX1_compareBrands_62 : decode cX1_compareBrands 62 = .ok (.getfield 32, 3) := by decide +kernel
theorem dX1_compareBrands_65 : decode cX1_compareBrands 65 = .ok (.aload_n 0, 1) := by decide +kernel
theorem dX1_compareBrands_66 : decode cX1_compareBrands 66 = .ok (.getfield 28, 3) := by decide +kernel
theorem dX1_compareBrands_69 : decode cX1_compareBrands 69 = .ok (.getfield 45, 3) := by decide +kernel
theorem dX1_compareBrands_72 : decode cX1_compareBrands 72 = .ok (.iload_n 1, 1) := by decide +kernel
theorem dX1_compareBrands_73 : decode cX1_compareBrands 73 = .ok (.iaload, 1) := by decide +kernel
theorem dX1_compareBrands_74 : decode cX1_compareBrands 74 = .ok (.iload_n 2, 1) := by decide +kernel
theorem dX1_compareBrands_75 : decode cX1_compareBrands 75 = .ok (.invokevirtual 58, 3) := by decide +kernel
theorem dX1_compareBrands_78 : decode cX1_compareBrands 78 = .ok (.iastore, 1) := by decide +kernel
theorem dX1_compareBrands_79 : decode cX1_compareBrands 79 = .ok (.aload_n 0, 1) := by decide +kernel
theorem dX1_compareBrands_80 : decode cX1_compareBrands 80 = .ok (.dup, 1) := by decide +kernel
theorem dX1_compareBrands_81 : decode cX1_compareBrands 81 = .ok (.getfield 24, 3) := by decide +kernel
theorem dX1_compareBrands_84 : decode cX1_compareBrands 84 = .ok (.iconst 1, 1) := by decide +kernel
theorem dX1_compareBrands_85 : decode cX1_compareBrands 85 = .ok (.iadd, 1) := by decide +kernel
theorem dX1_compareBrands_86 : decode cX1_compareBrands 86 = .ok (.putfield 24, 3) := by decide +kernel
theorem dX1_compareBrands_89 : decode cX1_compareBrands 89 = .ok (.iinc 2 1, 3) := by decide +kernel
theorem dX1_compareBrands_92 : decode cX1_compareBrands 92 = .ok (.goto (-50), 3) := by decide +kernel
theorem dX1_compareBrands_95 : decode cX1_compareBrands 95 = .ok (.iinc 1 1, 3) := by decide +kernel
theorem dX1_compareBrands_98 : decode cX1_compareBrands 98 = .ok (.goto (-91), 3) := by decide +kernel
theorem dX1_compareBrands_101 : decode cX1_compareBrands 101 = .ok (.iconst 0, 1) := by decide +kernel
theorem dX1_compareBrands_102 : decode cX1_compareBrands 102 = .ok (.istore_n 1, 1) := by decide +kernel
theorem dX1_compareBrands_103 : decode cX1_compareBrands 103 = .ok (.iload_n 1, 1) := by decide +kernel
theorem dX1_compareBrands_104 : decode cX1_compareBrands 104 = .ok (.aload_n 0, 1) := by decide +kernel
theorem dX1_compareBrands_105 : decode cX1_compareBrands 105 = .ok (.getfield 28, 3) := by decide +kernel
theorem dX1_compareBrands_108 : decode cX1_compareBrands 108 = .ok (.getfield 40, 3) := by decide +kernel
theorem dX1_compareBrands_111 : decode cX1_compareBrands 111 = .ok (.if_icmp .ge 20, 3) := by decide +kernel
theorem dX1_compareBrands_114 : decode cX1_compareBrands 114 = .ok (.aload_n 0, 1) := by decide +kernel
theorem dX1_compareBrands_115 : decode cX1_compareBrands 115 = .ok (.getfield 15, 3) := by decide +kernel
theorem dX1_compareBrands_118 : decode cX1_compareBrands 118 = .ok (.iload_n 1, 1) := by decide +kernel
theorem dX1_compareBrands_119 : decode cX1_compareBrands 119 = .ok (.aload_n 0, 1) := by decide +kernel
theorem dX1_compareBrands_120 : decode cX1_compareBrands 120 = .ok (.iload_n 1, 1) := by decide +kernel
theorem dX1_compareBrands_121 : decode cX1_compareBrands 121 = .ok (.invokevirtual 62, 3) := by decide +kernel
theorem dX1_compareBrands_124 : decode cX1_compareBrands 124 = .ok (.iastore, 1) := by decide +kernel
theorem dX1_compareBrands_125 : decode cX1_compareBrands 125 = .ok (.iinc 1 1, 3) := by decide +kernel
theorem dX1_compareBrands_128 : decode cX1_compareBrands 128 = .ok (.goto (-25), 3) := by decide +kernel
theorem dX1_compareBrands_131 : decode cX1_compareBrands 131 = .ok (.return_, 1) := by decide +kernel
theorem dX1_herdsAbove_0 : decode cX1_herdsAbove 0 = .ok (.iconst 0, 1) := by decide +kernel
theorem dX1_herdsAbove_1 : decode cX1_herdsAbove 1 = .ok (.istore_n 2, 1) := by decide +kernel
theorem dX1_herdsAbove_2 : decode cX1_herdsAbove 2 = .ok (.iconst 0, 1) := by decide +kernel
theorem dX1_herdsAbove_3 : decode cX1_herdsAbove 3 = .ok (.istore_n 3, 1) := by decide +kernel
theorem dX1_herdsAbove_4 : decode cX1_herdsAbove 4 = .ok (.iload_n 3, 1) := by decide +kernel
theorem dX1_herdsAbove_5 : decode cX1_herdsAbove 5 = .ok (.aload_n 0, 1) := by decide +kernel
theorem dX1_herdsAbove_6 : decode cX1_herdsAbove 6 = .ok (.getfield 28, 3) := by decide +kernel
theorem dX1_herdsAbove_9 : decode cX1_herdsAbove 9 = .ok (.getfield 40, 3) := by decide +kernel
theorem dX1_herdsAbove_12 : decode cX1_herdsAbove 12 = .ok (.if_icmp .ge 58, 3) := by decide +kernel
theorem dX1_herdsAbove_15 : decode cX1_herdsAbove 15 = .ok (.aload_n 0, 1) := by decide +kernel
theorem dX1_herdsAbove_16 : decode cX1_herdsAbove 16 = .ok (.getfield 9, 3) := by decide +kernel
theorem dX1_herdsAbove_19 : decode cX1_herdsAbove 19 = .ok (.iload_n 3, 1) := by decide +kernel
theorem dX1_herdsAbove_20 : decode cX1_herdsAbove 20 = .ok (.iaload, 1) := by decide +kernel
theorem dX1_herdsAbove_21 : decode cX1_herdsAbove 21 = .ok (.aload_n 0, 1) := by decide +kernel
theorem dX1_herdsAbove_22 : decode cX1_herdsAbove 22 = .ok (.getfield 9, 3) := by decide +kernel
theorem dX1_herdsAbove_25 : decode cX1_herdsAbove 25 = .ok (.iload_n 1, 1) := by decide +kernel
theorem dX1_herdsAbove_26 : decode cX1_herdsAbove 26 = .ok (.iaload, 1) := by decide +kernel
theorem dX1_herdsAbove_27 : decode cX1_herdsAbove 27 = .ok (.if_icmp .eq 37, 3) := by decide +kernel
theorem dX1_herdsAbove_30 : decode cX1_herdsAbove 30 = .ok (.aload_n 0, 1) := by decide +kernel
theorem dX1_herdsAbove_31 : decode cX1_herdsAbove 31 = .ok (.getfield 32, 3) := by decide +kernel
theorem dX1_herdsAbove_34 : decode cX1_herdsAbove 34 = .ok (.aload_n 0, 1) := by decide +kernel
theorem dX1_herdsAbove_35 : decode cX1_herdsAbove 35 = .ok (.getfield 28, 3) := by decide +kernel
theorem dX1_herdsAbove_38 : decode cX1_herdsAbove 38 = .ok (.getfield 45, 3) := by decide +kernel
theorem dX1_herdsAbove_41 : decode cX1_herdsAbove 41 = .ok (.iload_n 1, 1) := by decide +kernel
theorem dX1_herdsAbove_42 : decode cX1_herdsAbove 42 = .ok (.iaload, 1) := by decide +kernel
theorem dX1_herdsAbove_43 : decode cX1_herdsAbove 43 = .ok (.aload_n 0, 1) := by decide +kernel
theorem dX1_herdsAbove_44 : decode cX1_herdsAbove 44 = .ok (.getfield 28, 3) := by decide +kernel
theorem dX1_herdsAbove_47 : decode cX1_herdsAbove 47 = .ok (.getfield 45, 3) := by decide +kernel
theorem dX1_herdsAbove_50 : decode cX1_herdsAbove 50 = .ok (.iload_n 3, 1) := by decide +kernel
theorem dX1_herdsAbove_51 : decode cX1_herdsAbove 51 = .ok (.iaload, 1) := by decide +kernel
theorem dX1_herdsAbove_52 : decode cX1_herdsAbove 52 = .ok (.invokevirtual 65, 3) := by decide +kernel
theorem dX1_herdsAbove_55 : decode cX1_herdsAbove 55 = .ok (.ifCond .eq 9, 3) := by decide +kernel
theorem dX1_herdsAbove_58 : decode cX1_herdsAbove 58 = .ok (.iload_n 2, 1) := by decide +kernel
theorem dX1_herdsAbove_59 : decode cX1_herdsAbove 59 = .ok (.iconst 1, 1) := by decide +kernel
theorem dX1_herdsAbove_60 : decode cX1_herdsAbove 60 = .ok (.iload_n 3, 1) := by decide +kernel
theorem dX1_herdsAbove_61 : decode cX1_herdsAbove 61 = .ok (.ishl, 1) := by decide +kernel
