theorem dX12_faces_47 : decode cX12_faces 47 = .ok (.iload_n 3, 1) := by decide +kernel
theorem dX12_faces_48 : decode cX12_faces 48 = .ok (.invokevirtual 361, 3) := by decide +kernel
theorem dX12_faces_51 : decode cX12_faces 51 = .ok (.if_icmp .eq 7, 3) := by decide +kernel
theorem dX12_faces_54 : decode cX12_faces 54 = .ok (.iconst 1, 1) := by decide +kernel
theorem dX12_faces_55 : decode cX12_faces 55 = .ok (.goto 4, 3) := by decide +kernel
theorem dX12_faces_58 : decode cX12_faces 58 = .ok (.iconst 0, 1) := by decide +kernel
theorem dX12_faces_59 : decode cX12_faces 59 = .ok (.istore 4, 2) := by decide +kernel
theorem dX12_faces_61 : decode cX12_faces 61 = .ok (.iinc 5 1, 3) := by decide +kernel
theorem dX12_faces_64 : decode cX12_faces 64 = .ok (.goto (-37), 3) := by decide +kernel
theorem dX12_faces_67 : decode cX12_faces 67 = .ok (.iload 4, 2) := by decide +kernel
theorem dX12_faces_69 : decode cX12_faces 69 = .ok (.ifCond .eq 6, 3) := by decide +kernel
theorem dX12_faces_72 : decode cX12_faces 72 = .ok (.iinc 2 1, 3) := by decide +kernel
theorem dX12_faces_75 : decode cX12_faces 75 = .ok (.iinc 3 1, 3) := by decide +kernel
theorem dX12_faces_78 : decode cX12_faces 78 = .ok (.goto (-65), 3) := by decide +kernel
theorem dX12_faces_81 : decode cX12_faces 81 = .ok (.iload_n 2, 1) := by decide +kernel
theorem dX12_faces_82 : decode cX12_faces 82 = .ok (.ireturn, 1) := by decide +kernel
theorem dX12_oldest_0 : decode cX12_oldest 0 = .ok (.iconst (-1), 1) := by decide +kernel
theorem dX12_oldest_1 : decode cX12_oldest 1 = .ok (.istore_n 2, 1) := by decide +kernel
theorem dX12_oldest_2 : decode cX12_oldest 2 = .ok (.iconst 0, 1) := by decide +kernel
theorem dX12_oldest_3 : decode cX12_oldest 3 = .ok (.istore_n 3, 1) := by decide +kernel
theorem dX12_oldest_4 : decode cX12_oldest 4 = .ok (.iload_n 3, 1) := by decide +kernel
theorem dX12_oldest_5 : decode cX12_oldest 5 = .ok (.bipush 12, 2) := by decide +kernel
theorem dX12_oldest_7 : decode cX12_oldest 7 = .ok (.if_icmp .ge 59, 3) := by decide +kernel
theorem dX12_oldest_10 : decode cX12_oldest 10 = .ok (.aload_n 0, 1) := by decide +kernel
theorem dX12_oldest_11 : decode cX12_oldest 11 = .ok (.iload_n 1, 1) := by decide +kernel
theorem dX12_oldest_12 : decode cX12_oldest 12 = .ok (.invokevirtual 420, 3) := by decide +kernel
theorem dX12_oldest_15 : decode cX12_oldest 15 = .ok (.ifCond .eq 51, 3) := by decide +kernel
theorem dX12_oldest_18 : decode cX12_oldest 18 = .ok (.aload_n 0, 1) := by decide +kernel
theorem dX12_oldest_19 : decode cX12_oldest 19 = .ok (.getfield 88, 3) := by decide +kernel
theorem dX12_oldest_22 : decode cX12_oldest 22 = .ok (.iconst 0, 1) := by decide +kernel
theorem dX12_oldest_23 : decode cX12_oldest 23 = .ok (.iload_n 1, 1) := by decide +kernel
theorem dX12_oldest_24 : decode cX12_oldest 24 = .ok (.iadd, 1) := by decide +kernel
theorem dX12_oldest_25 : decode cX12_oldest 25 = .ok (.iaload, 1) := by decide +kernel
theorem dX12_oldest_26 : decode cX12_oldest 26 = .ok (.iload_n 3, 1) := by decide +kernel
theorem dX12_oldest_27 : decode cX12_oldest 27 = .ok (.invokestatic 256, 3) := by decide +kernel
theorem dX12_oldest_30 : decode cX12_oldest 30 = .ok (.ifCond .eq 30, 3) := by decide +kernel
theorem dX12_oldest_33 : decode cX12_oldest 33 = .ok (.aload_n 0, 1) := by decide +kernel
theorem dX12_oldest_34 : decode cX12_oldest 34 = .ok (.getfield 88, 3) := by decide +kernel
theorem dX12_oldest_37 : decode cX12_oldest 37 = .ok (.aload_n 0, 1) := by decide +kernel
theorem dX12_oldest_38 : decode cX12_oldest 38 = .ok (.iload_n 1, 1) := by decide +kernel
theorem dX12_oldest_39 : decode cX12_oldest 39 = .ok (.iload_n 3, 1) := by decide +kernel
theorem dX12_oldest_40 : decode cX12_oldest 40 = .ok (.invokevirtual 386, 3) := by decide +kernel
theorem dX12_oldest_43 : decode cX12_oldest 43 = .ok (.iaload, 1) := by decide +kernel
theorem dX12_oldest_44 : decode cX12_oldest 44 = .ok (.iload_n 2, 1) := by decide +kernel
theorem dX12_oldest_45 : decode cX12_oldest 45 = .ok (.if_icmp .le 15, 3) := by decide +kernel
theorem dX12_oldest_48 : decode cX12_oldest 48 = .ok (.aload_n 0, 1) := by decide +kernel
theorem dX12_oldest_49 : decode cX12_oldest 49 = .ok (.getfield 88, 3) := by decide +kernel
theorem dX12_oldest_52 : decode cX12_oldest 52 = .ok (.aload_n 0, 1) := by decide +kernel
theorem dX12_oldest_53 : decode cX12_oldest 53 = .ok (.iload_n 1, 1) := by decide +kernel
theorem dX12_oldest_54 : decode cX12_oldest 54 = .ok (.iload_n 3, 1) := by decide +kernel
theorem dX12_oldest_55 : decode cX12_oldest 55 = .ok (.invokevirtual 386, 3) := by decide +kernel
theorem dX12_oldest_58 : decode cX12_oldest 58 = .ok (.iaload, 1) := by decide +kernel
theorem dX12_oldest_59 : decode cX12_oldest 59 = .ok (.istore_n 2, 1) := by decide +kernel
theorem dX12_oldest_60 : decode cX12_oldest 60 = .ok (.iinc 3 1, 3) := by decide +kernel
theorem dX12_oldest_63 : decode cX12_oldest 63 = .ok (.goto (-59), 3) := by decide +kernel
theorem dX12_oldest_66 : decode cX12_oldest 66 = .ok (.iload_n 2, 1) := by decide +kernel
theorem dX12_oldest_67 : decode cX12_oldest 67 = .ok (.ireturn, 1) := by decide +kernel
theorem dX12_strays_0 : decode cX12_strays 0 = .ok (.iconst 0, 1) := by decide +kernel
theorem dX12_strays_1 : decode cX12_strays 1 = .ok (.istore_n 1, 1) := by decide +kernel
theorem dX12_strays_2 : decode cX12_strays 2 = .ok (.iconst 0, 1) := by decide +kernel
theorem dX12_strays_3 : decode cX12_strays 3 = .ok (.istore_n 2, 1) := by decide +kernel
theorem dX12_strays_4 : decode cX12_strays 4 = .ok (.iload_n 2, 1) := by decide +kernel
theorem dX12_strays_5 : decode cX12_strays 5 = .ok (.aload_n 0, 1) := by decide +kernel
theorem dX12_strays_6 : decode cX12_strays 6 = .ok (.invokevirtual 377, 3) := by decide +kernel
theorem dX12_strays_9 : decode cX12_strays 9 = .ok (.if_icmp .ge 43, 3) := by decide +kernel
theorem dX12_strays_12 : decode cX12_strays 12 = .ok (.aload_n 0, 1) := by decide +kernel
theorem dX12_strays_13 : decode cX12_strays 13 = .ok (.aload_n 0, 1) := by decide +kernel
theorem dX12_strays_14 : decode cX12_strays 14 = .ok (.getfield 88, 3) := by decide +kernel
theorem dX12_strays_17 : decode cX12_strays 17 = .ok (.iconst 0, 1) := by decide +kernel
theorem dX12_strays_18 : decode cX12_strays 18 = .ok (.iload_n 2, 1) := by decide +kernel
theorem dX12_strays_19 : decode cX12_strays 19 = .ok (.iadd, 1) := by decide +kernel
theorem dX12_strays_20 : decode cX12_strays 20 = .ok (.iaload, 1) := by decide +kernel
theorem dX12_strays_21 : decode cX12_strays 21 = .ok (.aload_n 0, 1) := by decide +kernel
theorem dX12_strays_22 : decode cX12_strays 22 = .ok (.aload_n 0, 1) := by decide +kernel
theorem dX12_strays_23 : decode cX12_strays 23 = .ok (.getfield 88, 3) := by decide +kernel
theorem dX12_strays_26 : decode cX12_strays 26 = .ok (.bipush 8, 2) := by decide +kernel
theorem dX12_strays_28 : decode cX12_strays 28 = .ok (.iload_n 2, 1) := by decide +kernel
theorem dX12_strays_29 : decode cX12_strays 29 = .ok (.iadd, 1) := by decide +kernel
theorem dX12_strays_30 : decode cX12_strays 30 = .ok (.iaload, 1) := by decide +kernel
theorem dX12_strays_31 : decode cX12_strays 31 = .ok (.invokevirtual 383, 3) := by decide +kernel
theorem dX12_strays_34 : decode cX12_strays 34 = .ok (.invokevirtual 432, 3) := by decide +kernel
theorem dX12_strays_37 : decode cX12_strays 37 = .ok (.ifCond .ne 9, 3) := by decide +kernel
theorem dX12_strays_40 : decode cX12_strays 40 = .ok (.iload_n 1, 1) := by decide +kernel
theorem dX12_strays_41 : decode cX12_strays 41 = .ok (.iconst 1, 1) := by decide +kernel
theorem dX12_strays_42 : decode cX12_strays 42 = .ok (.iload_n 2, 1) := by decide +kernel
theorem dX12_strays_43 : decode cX12_strays 43 = .ok (.ishl, 1) := by decide +kernel
theorem dX12_strays_44 : decode cX12_strays 44 = .ok (.ior, 1) := by decide +kernel
theorem dX12_strays_45 : decode cX12_strays 45 = .ok (.istore_n 1, 1) := by decide +kernel
theorem dX12_strays_46 : decode cX12_strays 46 = .ok (.iinc 2 1, 3) := by decide +kernel
theorem dX12_strays_49 : decode cX12_strays 49 = .ok (.goto (-45), 3) := by decide +kernel
theorem dX12_strays_52 : decode cX12_strays 52 = .ok (.iload_n 1, 1) := by decide +kernel
theorem dX12_strays_53 : decode cX12_strays 53 = .ok (.ireturn, 1) := by decide +kernel
theorem dX12_untouched_0 : decode cX12_untouched 0 = .ok (.sipush 4095, 3) := by decide +kernel
theorem dX12_untouched_3 : decode cX12_untouched 3 = .ok (.istore_n 1, 1) := by decide +kernel
theorem dX12_untouched_4 : decode cX12_untouched 4 = .ok (.iconst 0, 1) := by decide +kernel
theorem dX12_untouched_5 : decode cX12_untouched 5 = .ok (.istore_n 2, 1) := by decide +kernel
theorem dX12_untouched_6 : decode cX12_untouched 6 = .ok (.iload_n 2, 1) := by decide +kernel
theorem dX12_untouched_7 : decode cX12_untouched 7 = .ok (.aload_n 0, 1) := by decide +kernel
theorem dX12_untouched_8 : decode cX12_untouched 8 = .ok (.invokevirtual 377, 3) := by decide +kernel
theorem dX12_untouched_11 : decode cX12_untouched 11 = .ok (.if_icmp .ge 22, 3) := by decide +kernel
theorem dX12_untouched_14 : decode cX12_untouched 14 = .ok (.iload_n 1, 1) := by decide +kernel
theorem dX12_untouched_15 : decode cX12_untouched 15 = .ok (.aload_n 0, 1) := by decide +kernel
theorem dX12_untouched_16 : decode cX12_untouched 16 = .ok (.getfield 88, 3) := by decide +kernel
theorem dX12_untouched_19 : decode cX12_untouched 19 = .ok (.iconst 0, 1) := by decide +kernel
theorem dX12_untouched_20 : decode cX12_untouched 20 = .ok (.iload_n 2, 1) := by decide +kernel
theorem dX12_untouched_21 : decode cX12_untouched 21 = .ok (.iadd, 1) := by decide +kernel
theorem dX12_untouched_22 : decode cX12_untouched 22 = .ok (.iaload, 1) := by decide +kernel
theorem dX12_untouched_23 : decode cX12_untouched 23 = .ok (.iconst (-1), 1) := by decide +kernel
theorem dX12_untouched_24 : decode cX12_untouched 24 = .ok (.ixor, 1) := by decide +kernel
theorem dX12_untouched_25 : decode cX12_untouched 25 = .ok (.iand, 1) := by decide +kernel
theorem dX12_untouched_26 : decode cX12_untouched 26 = .ok (.istore_n 1, 1) := by decide +kernel
theorem dX12_untouched_27 : decode cX12_untouched 27 = .ok (.iinc 2 1, 3) := by decide +kernel
theorem dX12_untouched_30 : decode cX12_untouched 30 = .ok (.goto (-24), 3) := by decide +kernel
theorem dX12_untouched_33 : decode cX12_untouched 33 = .ok (.iload_n 1, 1) := by decide +kernel
theorem dX12_untouched_34 : decode cX12_untouched 34 = .ok (.ireturn, 1) := by decide +kernel
theorem dX12_tells_0 : decode cX12_tells 0 = .ok (.iconst (-1), 1) := by decide +kernel
theorem dX12_tells_1 : decode cX12_tells 1 = .ok (.istore_n 1, 1) := by decide +kernel
theorem dX12_tells_2 : decode cX12_tells 2 = .ok (.iconst 0, 1) := by decide +kernel
theorem dX12_tells_3 : decode cX12_tells 3 = .ok (.istore_n 2, 1) := by decide +kernel
theorem dX12_tells_4 : decode cX12_tells 4 = .ok (.iconst 0, 1) := by decide +kernel
theorem dX12_tells_5 : decode cX12_tells 5 = .ok (.istore_n 3, 1) := by decide +kernel
theorem dX12_tells_6 : decode cX12_tells 6 = .ok (.iload_n 3, 1) := by decide +kernel
theorem dX12_tells_7 : decode cX12_tells 7 = .ok (.bipush 12, 2) := by decide +kernel
theorem dX12_tells_9 : decode cX12_tells 9 = .ok (.if_icmp .ge 100, 3) := by decide +kernel
theorem dX12_tells_12 : decode cX12_tells 12 = .ok (.aload_n 0, 1) := by decide +kernel
theorem dX12_tells_13 : decode cX12_tells 13 = .ok (.invokevirtual 377, 3) := by decide +kernel
theorem dX12_tells_16 : decode cX12_tells 16 = .ok (.ifCond .le 93, 3) := by decide +kernel
theorem dX12_tells_19 : decode cX12_tells 19 = .ok (.aload_n 0, 1) := by decide +kernel
theorem dX12_tells_20 : decode cX12_tells 20 = .ok (.invokevirtual 377, 3) := by decide +kernel
theorem dX12_tells_23 : decode cX12_tells 23 = .ok (.ineg, 1) := by decide +kernel
theorem dX12_tells_24 : decode cX12_tells 24 = .ok (.istore 4, 2) := by decide +kernel
theorem dX12_tells_26 : decode cX12_tells 26 = .ok (.iconst 0, 1) := by decide +kernel
theorem dX12_tells_27 : decode cX12_tells 27 = .ok (.istore 5, 2) := by decide +kernel
theorem dX12_tells_29 : decode cX12_tells 29 = .ok (.iload 5, 2) := by decide +kernel
theorem dX12_tells_31 : decode cX12_tells 31 = .ok (.aload_n 0, 1) := by decide +kernel
theorem dX12_tells_32 : decode cX12_tells 32 = .ok (.invokevirtual 377, 3) := by decide +kernel
theorem dX12_tells_35 : decode cX12_tells 35 = .ok (.if_icmp .ge 35, 3) := by decide +kernel
theorem dX12_tells_38 : decode cX12_tells 38 = .ok (.iload 4, 2) := by decide +kernel
theorem dX12_tells_40 : decode cX12_tells 40 = .ok (.aload_n 0, 1) := by decide +kernel
theorem dX12_tells_41 : decode cX12_tells 41 = .ok (.getfield 88, 3) := by decide +kernel
theorem dX12_tells_44 : decode cX12_tells 44 = .ok (.iconst 0, 1) := by decide +kernel
theorem dX12_tells_45 : decode cX12_tells 45 = .ok (.iload 5, 2) := by decide +kernel
theorem dX12_tells_47 : decode cX12_tells 47 = .ok (.iadd, 1) := by decide +kernel
theorem dX12_tells_48 : decode cX12_tells 48 = .ok (.iaload, 1) := by decide +kernel
theorem dX12_tells_49 : decode cX12_tells 49 = .ok (.iload_n 3, 1) := by decide +kernel
theorem dX12_tells_50 : decode cX12_tells 50 = .ok (.invokestatic 256, 3) := by decide +kernel
theorem dX12_tells_53 : decode cX12_tells 53 = .ok (.ifCond .eq 7, 3) := by decide +kernel
theorem dX12_tells_56 : decode cX12_tells 56 = .ok (.iconst 2, 1) := by decide +kernel
theorem dX12_tells_57 : decode cX12_tells 57 = .ok (.goto 4, 3) := by decide +kernel
theorem dX12_tells_60 : decode cX12_tells 60 = .ok (.iconst 0, 1) := by decide +kernel
theorem dX12_tells_61 : decode cX12_tells 61 = .ok (.iadd, 1) := by decide +kernel
theorem dX12_tells_62 : decode cX12_tells 62 = .ok (.istore 4, 2) := by decide +kernel
theorem dX12_tells_64 : decode cX12_tells 64 = .ok (.iinc 5 1, 3) := by decide +kernel
theorem dX12_tells_67 : decode cX12_tells 67 = .ok (.goto (-38), 3) := by decide +kernel
theorem dX12_tells_70 : decode cX12_tells 70 = .ok (.iload 4, 2) := by decide +kernel
theorem dX12_tells_72 : decode cX12_tells 72 = .ok (.ifCond .ge 9, 3) := by decide +kernel
theorem dX12_tells_75 : decode cX12_tells 75 = .ok (.iload 4, 2) := by decide +kernel
theorem dX12_tells_77 : decode cX12_tells 77 = .ok (.ineg, 1) := by decide +kernel
theorem dX12_tells_78 : decode cX12_tells 78 = .ok (.goto 5, 3) := by decide +kernel
theorem dX12_tells_81 : decode cX12_tells 81 = .ok (.iload 4, 2) := by decide +kernel
theorem dX12_tells_83 : decode cX12_tells 83 = .ok (.istore 4, 2) := by decide +kernel
theorem dX12_tells_85 : decode cX12_tells 85 = .ok (.iload_n 1, 1) := by decide +kernel
theorem dX12_tells_86 : decode cX12_tells 86 = .ok (.ifCond .lt 12, 3) := by decide +kernel
theorem dX12_tells_89 : decode cX12_tells 89 = .ok (.iload 4, 2) := by decide +kernel
theorem dX12_tells_91 : decode cX12_tells 91 = .ok (.iload_n 2, 1) := by decide +kernel
theorem dX12_tells_92 : decode cX12_tells 92 = .ok (.if_icmp .lt 6, 3) := by decide +kernel
theorem dX12_tells_95 : decode cX12_tells 95 = .ok (.goto 8, 3) := by decide +kernel
theorem dX12_tells_98 : decode cX12_tells 98 = .ok (.iload_n 3, 1) := by decide +kernel
theorem dX12_tells_99 : decode cX12_tells 99 = .ok (.istore_n 1, 1) := by decide +kernel
theorem dX12_tells_100 : decode cX12_tells 100 = .ok (.iload 4, 2) := by decide +kernel
theorem dX12_tells_102 : decode cX12_tells 102 = .ok (.istore_n 2, 1) := by decide +kernel
theorem dX12_tells_103 : decode cX12_tells 103 = .ok (.iinc 3 1, 3) := by decide +kernel
theorem dX12_tells_106 : decode cX12_tells 106 = .ok (.goto (-100), 3) := by decide +kernel
theorem dX12_tells_109 : decode cX12_tells 109 = .ok (.iload_n 1, 1) := by decide +kernel
theorem dX12_tells_110 : decode cX12_tells 110 = .ok (.ireturn, 1) := by decide +kernel
theorem dX12_shownAt_0 : decode cX12_shownAt 0 = .ok (.iconst 0, 1) := by decide +kernel
theorem dX12_shownAt_1 : decode cX12_shownAt 1 = .ok (.istore_n 3, 1) := by decide +kernel
theorem dX12_shownAt_2 : decode cX12_shownAt 2 = .ok (.iconst 0, 1) := by decide +kernel
theorem dX12_shownAt_3 : decode cX12_shownAt 3 = .ok (.istore 4, 2) := by decide +kernel
theorem dX12_shownAt_5 : decode cX12_shownAt 5 = .ok (.iload 4, 2) := by decide +kernel
theorem dX12_shownAt_7 : decode cX12_shownAt 7 = .ok (.aload_n 0, 1) := by decide +kernel
theorem dX12_shownAt_8 : decode cX12_shownAt 8 = .ok (.invokevirtual 377, 3) := by decide +kernel
theorem dX12_shownAt_11 : decode cX12_shownAt 11 = .ok (.if_icmp .ge 118, 3) := by decide +kernel
theorem dX12_shownAt_14 : decode cX12_shownAt 14 = .ok (.iconst 0, 1) := by decide +kernel
theorem dX12_shownAt_15 : decode cX12_shownAt 15 = .ok (.istore 5, 2) := by decide +kernel
theorem dX12_shownAt_17 : decode cX12_shownAt 17 = .ok (.iload 5, 2) := by decide +kernel
theorem dX12_shownAt_19 : decode cX12_shownAt 19 = .ok (.bipush 12, 2) := by decide +kernel
theorem dX12_shownAt_21 : decode cX12_shownAt 21 = .ok (.if_icmp .ge 102, 3) := by decide +kernel
theorem dX12_shownAt_24 : decode cX12_shownAt 24 = .ok (.aload_n 0, 1) := by decide +kernel
theorem dX12_shownAt_25 : decode cX12_shownAt 25 = .ok (.getfield 88, 3) := by decide +kernel
theorem dX12_shownAt_28 : decode cX12_shownAt 28 = .ok (.iconst 0, 1) := by decide +kernel
theorem dX12_shownAt_29 : decode cX12_shownAt 29 = .ok (.iload 4, 2) := by decide +kernel
theorem dX12_shownAt_31 : decode cX12_shownAt 31 = .ok (.iadd, 1) := by decide +kernel
theorem dX12_shownAt_32 : decode cX12_shownAt 32 = .ok (.iaload, 1) := by decide +kernel
theorem dX12_shownAt_33 : decode cX12_shownAt 33 = .ok (.iload 5, 2) := by decide +kernel
theorem dX12_shownAt_35 : decode cX12_shownAt 35 = .ok (.invokestatic 256, 3) := by decide +kernel
theorem dX12_shownAt_38 : decode cX12_shownAt 38 = .ok (.ifCond .ne 6, 3) := by decide +kernel
theorem dX12_shownAt_41 : decode cX12_shownAt 41 = .ok (.goto 76, 3) := by decide +kernel
theorem dX12_shownAt_44 : decode cX12_shownAt 44 = .ok (.aload_n 0, 1) := by decide +kernel
theorem dX12_shownAt_45 : decode cX12_shownAt 45 = .ok (.getfield 88, 3) := by decide +kernel
theorem dX12_shownAt_48 : decode cX12_shownAt 48 = .ok (.aload_n 0, 1) := by decide +kernel
theorem dX12_shownAt_49 : decode cX12_shownAt 49 = .ok (.iload 4, 2) := by decide +kernel
theorem dX12_shownAt_51 : decode cX12_shownAt 51 = .ok (.iload 5, 2) := by decide +kernel
theorem dX12_shownAt_53 : decode cX12_shownAt 53 = .ok (.invokevirtual 386, 3) := by decide +kernel
theorem dX12_shownAt_56 : decode cX12_shownAt 56 = .ok (.iaload, 1) := by decide +kernel
theorem dX12_shownAt_57 : decode cX12_shownAt 57 = .ok (.iload_n 1, 1) := by decide +kernel
theorem dX12_shownAt_58 : decode cX12_shownAt 58 = .ok (.iadd, 1) := by decide +kernel
theorem dX12_shownAt_59 : decode cX12_shownAt 59 = .ok (.istore 6, 2) := by decide +kernel
theorem dX12_shownAt_61 : decode cX12_shownAt 61 = .ok (.iload_n 2, 1) := by decide +kernel
theorem dX12_shownAt_62 : decode cX12_shownAt 62 = .ok (.ifCond .lt 7, 3) := by decide +kernel
theorem dX12_shownAt_65 : decode cX12_shownAt 65 = .ok (.iload_n 2, 1) := by decide +kernel
theorem dX12_shownAt_66 : decode cX12_shownAt 66 = .ok (.goto 19, 3) := by decide +kernel
theorem dX12_shownAt_69 : decode cX12_shownAt 69 = .ok (.iload 6, 2) := by decide +kernel
theorem dX12_shownAt_71 : decode cX12_shownAt 71 = .ok (.sipush 999, 3) := by decide +kernel
theorem dX12_shownAt_74 : decode cX12_shownAt 74 = .ok (.if_icmp .ge 8, 3) := by decide +kernel
theorem dX12_shownAt_77 : decode cX12_shownAt 77 = .ok (.iload 6, 2) := by decide +kernel
theorem dX12_shownAt_79 : decode cX12_shownAt 79 = .ok (.goto 6, 3) := by decide +kernel
theorem dX12_shownAt_82 : decode cX12_shownAt 82 = .ok (.sipush 999, 3) := by decide +kernel
theorem dX12_shownAt_85 : decode cX12_shownAt 85 = .ok (.istore 6, 2) := by decide +kernel
theorem dX12_shownAt_87 : decode cX12_shownAt 87 = .ok (.iload_n 3, 1) := by decide +kernel
theorem dX12_shownAt_88 : decode cX12_shownAt 88 = .ok (.aload_n 0, 1) := by decide +kernel
theorem dX12_shownAt_89 : decode cX12_shownAt 89 = .ok (.iload 4, 2) := by decide +kernel
theorem dX12_shownAt_91 : decode cX12_shownAt 91 = .ok (.iload 5, 2) := by decide +kernel
theorem dX12_shownAt_93 : decode cX12_shownAt 93 = .ok (.iload 6, 2) := by decide +kernel
theorem dX12_shownAt_95 : decode cX12_shownAt 95 = .ok (.aload_n 0, 1) := by decide +kernel
theorem dX12_shownAt_96 : decode cX12_shownAt 96 = .ok (.getfield 88, 3) := by decide +kernel
theorem dX12_shownAt_99 : decode cX12_shownAt 99 = .ok (.bipush 112, 2) := by decide +kernel
theorem dX12_shownAt_101 : decode cX12_shownAt 101 = .ok (.iaload, 1) := by decide +kernel
theorem dX12_shownAt_102 : decode cX12_shownAt 102 = .ok (.iload_n 1, 1) := by decide +kernel
theorem dX12_shownAt_103 : decode cX12_shownAt 103 = .ok (.iadd, 1) := by decide +kernel
theorem dX12_shownAt_104 : decode cX12_shownAt 104 = .ok (.invokevirtual 410, 3) := by decide +kernel
theorem dX12_shownAt_107 : decode cX12_shownAt 107 = .ok (.ifCond .eq 7, 3) := by decide +kernel
theorem dX12_shownAt_110 : decode cX12_shownAt 110 = .ok (.iconst 1, 1) := by decide +kernel
theorem dX12_shownAt_111 : decode cX12_shownAt 111 = .ok (.goto 4, 3) := by decide +kernel
theorem dX12_shownAt_114 : decode cX12_shownAt 114 = .ok (.iconst 0, 1) := by decide +kernel
theorem dX12_shownAt_115 : decode cX12_shownAt 115 = .ok (.iadd, 1) := by decide +kernel
theorem dX12_shownAt_116 : decode cX12_shownAt 116 = .ok (.istore_n 3, 1) := by decide +kernel
theorem dX12_shownAt_117 : decode cX12_shownAt 117 = .ok (.iinc 5 1, 3) := by decide +kernel
theorem dX12_shownAt_120 : decode cX12_shownAt 120 = .ok (.goto (-103), 3) := by decide +kernel
theorem dX12_shownAt_123 : decode cX12_shownAt 123 = .ok (.iinc 4 1, 3) := by decide +kernel
theorem dX12_shownAt_126 : decode cX12_shownAt 126 = .ok (.goto (-121), 3) := by decide +kernel
theorem dX12_shownAt_129 : decode cX12_shownAt 129 = .ok (.iload_n 3, 1) := by decide +kernel
theorem dX12_shownAt_130 : decode cX12_shownAt 130 = .ok (.ireturn, 1) := by decide +kernel
theorem dX12_will_0 : decode cX12_will 0 = .ok (.iload_n 1, 1) := by decide +kernel
theorem dX12_will_1 : decode cX12_will 1 = .ok (.iconst 0, 1) := by decide +kernel
theorem dX12_will_2 : decode cX12_will 2 = .ok (.bipush 60, 2) := by decide +kernel
theorem dX12_will_4 : decode cX12_will 4 = .ok (.invokestatic 370, 3) := by decide +kernel
theorem dX12_will_7 : decode cX12_will 7 = .ok (.ifCond .eq 12, 3) := by decide +kernel
theorem dX12_will_10 : decode cX12_will 10 = .ok (.aload_n 0, 1) := by decide +kernel
theorem dX12_will_11 : decode cX12_will 11 = .ok (.iload_n 1, 1) := by decide +kernel
theorem dX12_will_12 : decode cX12_will 12 = .ok (.iconst (-1), 1) := by decide +kernel
theorem dX12_will_13 : decode cX12_will 13 = .ok (.invokevirtual 435, 3) := by decide +kernel
theorem dX12_will_16 : decode cX12_will 16 = .ok (.goto 4, 3) := by decide +kernel
theorem dX12_will_19 : decode cX12_will 19 = .ok (.iconst (-1), 1) := by decide +kernel
theorem dX12_will_20 : decode cX12_will 20 = .ok (.ireturn, 1) := by decide +kernel
theorem dX12_law_0 : decode cX12_law 0 = .ok (.iload_n 1, 1) := by decide +kernel
theorem dX12_law_1 : decode cX12_law 1 = .ok (.iconst 0, 1) := by decide +kernel
theorem dX12_law_2 : decode cX12_law 2 = .ok (.bipush 99, 2) := by decide +kernel
theorem dX12_law_4 : decode cX12_law 4 = .ok (.invokestatic 370, 3) := by decide +kernel
theorem dX12_law_7 : decode cX12_law 7 = .ok (.ifCond .eq 12, 3) := by decide +kernel
theorem dX12_law_10 : decode cX12_law 10 = .ok (.aload_n 0, 1) := by decide +kernel
theorem dX12_law_11 : decode cX12_law 11 = .ok (.iconst 0, 1) := by decide +kernel
theorem dX12_law_12 : decode cX12_law 12 = .ok (.iload_n 1, 1) := by decide +kernel
theorem dX12_law_13 : decode cX12_law 13 = .ok (.invokevirtual 435, 3) := by decide +kernel
theorem dX12_law_16 : decode cX12_law 16 = .ok (.goto 4, 3) := by decide +kernel
theorem dX12_law_19 : decode cX12_law 19 = .ok (.iconst (-1), 1) := by decide +kernel
theorem dX12_law_20 : decode cX12_law 20 = .ok (.ireturn, 1) := by decide +kernel
theorem dX12_keepAct_0 : decode cX12_keepAct 0 = .ok (.aload_n 0, 1) := by decide +kernel
theorem dX12_keepAct_1 : decode cX12_keepAct 1 = .ok (.getfield 392, 3) := by decide +kernel
theorem dX12_keepAct_4 : decode cX12_keepAct 4 = .ok (.bipush 40, 2) := by decide +kernel
theorem dX12_keepAct_6 : decode cX12_keepAct 6 = .ok (.if_icmp .ne 43, 3) := by decide +kernel
theorem dX12_keepAct_9 : decode cX12_keepAct 9 = .ok (.iconst 0, 1) := by decide +kernel
theorem dX12_keepAct_10 : decode cX12_keepAct 10 = .ok (.istore_n 1, 1) := by decide +kernel
theorem dX12_keepAct_11 : decode cX12_keepAct 11 = .ok (.iload_n 1, 1) := by decide +kernel
theorem dX12_keepAct_12 : decode cX12_keepAct 12 = .ok (.sipush 4560, 3) := by decide +kernel
theorem dX12_keepAct_15 : decode cX12_keepAct 15 = .ok (.if_icmp .ge 24, 3) := by decide +kernel
theorem dX12_keepAct_18 : decode cX12_keepAct 18 = .ok (.aload_n 0, 1) := by decide +kernel
theorem dX12_keepAct_19 : decode cX12_keepAct 19 = .ok (.getfield 94, 3) := by decide +kernel
theorem dX12_keepAct_22 : decode cX12_keepAct 22 = .ok (.iload_n 1, 1) := by decide +kernel
theorem dX12_keepAct_23 : decode cX12_keepAct 23 = .ok (.aload_n 0, 1) := by decide +kernel
theorem dX12_keepAct_24 : decode cX12_keepAct 24 = .ok (.getfield 94, 3) := by decide +kernel
theorem dX12_keepAct_27 : decode cX12_keepAct 27 = .ok (.iload_n 1, 1) := by decide +kernel
theorem dX12_keepAct_28 : decode cX12_keepAct 28 = .ok (.bipush 114, 2) := by decide +kernel
theorem dX12_keepAct_30 : decode cX12_keepAct 30 = .ok (.iadd, 1) := by decide +kernel
theorem dX12_keepAct_31 : decode cX12_keepAct 31 = .ok (.iaload, 1) := by decide +kernel
theorem dX12_keepAct_32 : decode cX12_keepAct 32 = .ok (.iastore, 1) := by decide +kernel
theorem dX12_keepAct_33 : decode cX12_keepAct 33 = .ok (.iinc 1 1, 3) := by decide +kernel
theorem dX12_keepAct_36 : decode cX12_keepAct 36 = .ok (.goto (-25), 3) := by decide +kernel
theorem dX12_keepAct_39 : decode cX12_keepAct 39 = .ok (.aload_n 0, 1) := by decide +kernel
theorem dX12_keepAct_40 : decode cX12_keepAct 40 = .ok (.dup, 1) := by decide +kernel
theorem dX12_keepAct_41 : decode cX12_keepAct 41 = .ok (.getfield 392, 3) := by decide +kernel
theorem dX12_keepAct_44 : decode cX12_keepAct 44 = .ok (.iconst 1, 1) := by decide +kernel
theorem dX12_keepAct_45 : decode cX12_keepAct 45 = .ok (.isub, 1) := by decide +kernel
theorem dX12_keepAct_46 : decode cX12_keepAct 46 = .ok (.putfield 392, 3) := by decide +kernel
theorem dX12_keepAct_49 : decode cX12_keepAct 49 = .ok (.iconst 0, 1) := by decide +kernel
theorem dX12_keepAct_50 : decode cX12_keepAct 50 = .ok (.istore_n 1, 1) := by decide +kernel
theorem dX12_keepAct_51 : decode cX12_keepAct 51 = .ok (.iload_n 1, 1) := by decide +kernel
theorem dX12_keepAct_52 : decode cX12_keepAct 52 = .ok (.bipush 114, 2) := by decide +kernel
theorem dX12_keepAct_54 : decode cX12_keepAct 54 = .ok (.if_icmp .ge 29, 3) := by decide +kernel
theorem dX12_keepAct_57 : decode cX12_keepAct 57 = .ok (.aload_n 0, 1) := by decide +kernel
theorem dX12_keepAct_58 : decode cX12_keepAct 58 = .ok (.getfield 94, 3) := by decide +kernel
theorem dX12_keepAct_61 : decode cX12_keepAct 61 = .ok (.bipush 114, 2) := by decide +kernel
theorem dX12_keepAct_63 : decode cX12_keepAct 63 = .ok (.aload_n 0, 1) := by decide +kernel
theorem dX12_keepAct_64 : decode cX12_keepAct 64 = .ok (.getfield 392, 3) := by decide +kernel
theorem dX12_keepAct_67 : decode cX12_keepAct 67 = .ok (.imul, 1) := by decide +kernel
theorem dX12_keepAct_68 : decode cX12_keepAct 68 = .ok (.iload_n 1, 1) := by decide +kernel
theorem dX12_keepAct_69 : decode cX12_keepAct 69 = .ok (.iadd, 1) := by decide +kernel
theorem dX12_keepAct_70 : decode cX12_keepAct 70 = .ok (.aload_n 0, 1) := by decide +kernel
theorem dX12_keepAct_71 : decode cX12_keepAct 71 = .ok (.getfield 88, 3) := by decide +kernel
theorem dX12_keepAct_74 : decode cX12_keepAct 74 = .ok (.iload_n 1, 1) := by decide +kernel
theorem dX12_keepAct_75 : decode cX12_keepAct 75 = .ok (.iaload, 1) := by decide +kernel
theorem dX12_keepAct_76 : decode cX12_keepAct 76 = .ok (.iastore, 1) := by decide +kernel
theorem dX12_keepAct_77 : decode cX12_keepAct 77 = .ok (.iinc 1 1, 3) := by decide +kernel
theorem dX12_keepAct_80 : decode cX12_keepAct 80 = .ok (.goto (-29), 3) := by decide +kernel
theorem dX12_keepAct_83 : decode cX12_keepAct 83 = .ok (.aload_n 0, 1) := by decide +kernel
theorem dX12_keepAct_84 : decode cX12_keepAct 84 = .ok (.dup, 1) := by decide +kernel
theorem dX12_keepAct_85 : decode cX12_keepAct 85 = .ok (.getfield 392, 3) := by decide +kernel
theorem dX12_keepAct_88 : decode cX12_keepAct 88 = .ok (.iconst 1, 1) := by decide +kernel
theorem dX12_keepAct_89 : decode cX12_keepAct 89 = .ok (.iadd, 1) := by decide +kernel
theorem dX12_keepAct_90 : decode cX12_keepAct 90 = .ok (.putfield 392, 3) := by decide +kernel
theorem dX12_keepAct_93 : decode cX12_keepAct 93 = .ok (.aload_n 0, 1) := by decide +kernel
theorem dX12_keepAct_94 : decode cX12_keepAct 94 = .ok (.iconst 0, 1) := by decide +kernel
theorem dX12_keepAct_95 : decode cX12_keepAct 95 = .ok (.putfield 395, 3) := by decide +kernel
theorem dX12_keepAct_98 : decode cX12_keepAct 98 = .ok (.return_, 1) := by decide +kernel
theorem dX12_swapAll_0 : decode cX12_swapAll 0 = .ok (.iconst 0, 1) := by decide +kernel
theorem dX12_swapAll_1 : decode cX12_swapAll 1 = .ok (.istore_n 1, 1) := by decide +kernel
theorem dX12_swapAll_2 : decode cX12_swapAll 2 = .ok (.iload_n 1, 1) := by decide +kernel
theorem dX12_swapAll_3 : decode cX12_swapAll 3 = .ok (.bipush 114, 2) := by decide +kernel
theorem dX12_swapAll_5 : decode cX12_swapAll 5 = .ok (.if_icmp .ge 51, 3) := by decide +kernel
theorem dX12_swapAll_8 : decode cX12_swapAll 8 = .ok (.aload_n 0, 1) := by decide +kernel
theorem dX12_swapAll_9 : decode cX12_swapAll 9 = .ok (.getfield 94, 3) := by decide +kernel
theorem dX12_swapAll_12 : decode cX12_swapAll 12 = .ok (.bipush 114, 2) := by decide +kernel
theorem dX12_swapAll_14 : decode cX12_swapAll 14 = .ok (.aload_n 0, 1) := by decide +kernel
theorem dX12_swapAll_15 : decode cX12_swapAll 15 = .ok (.getfield 392, 3) := by decide +kernel
theorem dX12_swapAll_18 : decode cX12_swapAll 18 = .ok (.imul, 1) := by decide +kernel
theorem dX12_swapAll_19 : decode cX12_swapAll 19 = .ok (.iload_n 1, 1) := by decide +kernel
theorem dX12_swapAll_20 : decode cX12_swapAll 20 = .ok (.iadd, 1) := by decide +kernel
theorem dX12_swapAll_21 : decode cX12_swapAll 21 = .ok (.iaload, 1) := by decide +kernel
theorem dX12_swapAll_22 : decode cX12_swapAll 22 = .ok (.istore_n 2, 1) := by decide +kernel
theorem dX12_swapAll_23 : decode cX12_swapAll 23 = .ok (.aload_n 0, 1) := by decide +kernel
theorem dX12_swapAll_24 : decode cX12_swapAll 24 = .ok (.getfield 94, 3) := by decide +kernel
theorem dX12_swapAll_27 : decode cX12_swapAll 27 = .ok (.bipush 114, 2) := by decide +kernel
theorem dX12_swapAll_29 : decode cX12_swapAll 29 = .ok (.aload_n 0, 1) := by decide +kernel
theorem dX12_swapAll_30 : decode cX12_swapAll 30 = .ok (.getfield 392, 3) := by decide +kernel
theorem dX12_swapAll_33 : decode cX12_swapAll 33 = .ok (.imul, 1) := by decide +kernel
theorem dX12_swapAll_34 : decode cX12_swapAll 34 = .ok (.iload_n 1, 1) := by decide +kernel
theorem dX12_swapAll_35 : decode cX12_swapAll 35 = .ok (.iadd, 1) := by decide +kernel
theorem dX12_swapAll_36 : decode cX12_swapAll 36 = .ok (.aload_n 0, 1) := by decide +kernel
theorem dX12_swapAll_37 : decode cX12_swapAll 37 = .ok (.getfield 88, 3) := by decide +kernel
theorem dX12_swapAll_40 : decode cX12_swapAll 40 = .ok (.iload_n 1, 1) := by decide +kernel
theorem dX12_swapAll_41 : decode cX12_swapAll 41 = .ok (.iaload, 1) := by decide +kernel
theorem dX12_swapAll_42 : decode cX12_swapAll 42 = .ok (.iastore, 1) := by decide +kernel
theorem dX12_swapAll_43 : decode cX12_swapAll 43 = .ok (.aload_n 0, 1) := by decide +kernel
theorem dX12_swapAll_44 : decode cX12_swapAll 44 = .ok (.getfield 88, 3) := by decide +kernel
theorem dX12_swapAll_47 : decode cX12_swapAll 47 = .ok (.iload_n 1, 1) := by decide +kernel
theorem dX12_swapAll_48 : decode cX12_swapAll 48 = .ok (.iload_n 2, 1) := by decide +kernel
theorem dX12_swapAll_49 : decode cX12_swapAll 49 = .ok (.iastore, 1) := by decide +kernel
theorem dX12_swapAll_50 : decode cX12_swapAll 50 = .ok (.iinc 1 1, 3) := by decide +kernel
theorem dX12_swapAll_53 : decode cX12_swapAll 53 = .ok (.goto (-51), 3) := by decide +kernel
theorem dX12_swapAll_56 : decode cX12_swapAll 56 = .ok (.return_, 1) := by decide +kernel
theorem dX12_burnIn_0 : decode cX12_burnIn 0 = .ok (.iload_n 2, 1) := by decide +kernel
theorem dX12_burnIn_1 : decode cX12_burnIn 1 = .ok (.aload_n 0, 1) := by decide +kernel
theorem dX12_burnIn_2 : decode cX12_burnIn 2 = .ok (.getfield 88, 3) := by decide +kernel
theorem dX12_burnIn_5 : decode cX12_burnIn 5 = .ok (.iconst 0, 1) := by decide +kernel
theorem dX12_burnIn_6 : decode cX12_burnIn 6 = .ok (.iload_n 1, 1) := by decide +kernel
theorem dX12_burnIn_7 : decode cX12_burnIn 7 = .ok (.iadd, 1) := by decide +kernel
theorem dX12_burnIn_8 : decode cX12_burnIn 8 = .ok (.iaload, 1) := by decide +kernel
theorem dX12_burnIn_9 : decode cX12_burnIn 9 = .ok (.iconst (-1), 1) := by decide +kernel
theorem dX12_burnIn_10 : decode cX12_burnIn 10 = .ok (.ixor, 1) := by decide +kernel
theorem dX12_burnIn_11 : decode cX12_burnIn 11 = .ok (.iand, 1) := by decide +kernel
theorem dX12_burnIn_12 : decode cX12_burnIn 12 = .ok (.istore_n 3, 1) := by decide +kernel
theorem dX12_burnIn_13 : decode cX12_burnIn 13 = .ok (.iconst 0, 1) := by decide +kernel
theorem dX12_burnIn_14 : decode cX12_burnIn 14 = .ok (.istore 4, 2) := by decide +kernel
theorem dX12_burnIn_16 : decode cX12_burnIn 16 = .ok (.iload 4, 2) := by decide +kernel
theorem dX12_burnIn_18 : decode cX12_burnIn 18 = .ok (.bipush 12, 2) := by decide +kernel
theorem dX12_burnIn_20 : decode cX12_burnIn 20 = .ok (.if_icmp .ge 31, 3) := by decide +kernel
theorem dX12_burnIn_23 : decode cX12_burnIn 23 = .ok (.iload_n 3, 1) := by decide +kernel
theorem dX12_burnIn_24 : decode cX12_burnIn 24 = .ok (.iload 4, 2) := by decide +kernel
theorem dX12_burnIn_26 : decode cX12_burnIn 26 = .ok (.invokestatic 256, 3) := by decide +kernel
theorem dX12_burnIn_29 : decode cX12_burnIn 29 = .ok (.ifCond .eq 16, 3) := by decide +kernel
theorem dX12_burnIn_32 : decode cX12_burnIn 32 = .ok (.aload_n 0, 1) := by decide +kernel
theorem dX12_burnIn_33 : decode cX12_burnIn 33 = .ok (.getfield 88, 3) := by decide +kernel
theorem dX12_burnIn_36 : decode cX12_burnIn 36 = .ok (.aload_n 0, 1) := by decide +kernel
theorem dX12_burnIn_37 : decode cX12_burnIn 37 = .ok (.iload_n 1, 1) := by decide +kernel
theorem dX12_burnIn_38 : decode cX12_burnIn 38 = .ok (.iload 4, 2) := by decide +kernel
theorem dX12_burnIn_40 : decode cX12_burnIn 40 = .ok (.invokevirtual 386, 3) := by decide +kernel
theorem dX12_burnIn_43 : decode cX12_burnIn 43 = .ok (.iconst 0, 1) := by decide +kernel
theorem dX12_burnIn_44 : decode cX12_burnIn 44 = .ok (.iastore, 1) := by decide +kernel
theorem dX12_burnIn_45 : decode cX12_burnIn 45 = .ok (.iinc 4 1, 3) := by decide +kernel
theorem dX12_burnIn_48 : decode cX12_burnIn 48 = .ok (.goto (-32), 3) := by decide +kernel
theorem dX12_burnIn_51 : decode cX12_burnIn 51 = .ok (.aload_n 0, 1) := by decide +kernel
theorem dX12_burnIn_52 : decode cX12_burnIn 52 = .ok (.getfield 88, 3) := by decide +kernel
theorem dX12_burnIn_55 : decode cX12_burnIn 55 = .ok (.iconst 0, 1) := by decide +kernel
theorem dX12_burnIn_56 : decode cX12_burnIn 56 = .ok (.iload_n 1, 1) := by decide +kernel
theorem dX12_burnIn_57 : decode cX12_burnIn 57 = .ok (.iadd, 1) := by decide +kernel
theorem dX12_burnIn_58 : decode cX12_burnIn 58 = .ok (.dup2, 1) := by decide +kernel
theorem dX12_burnIn_59 : decode cX12_burnIn 59 = .ok (.iaload, 1) := by decide +kernel
theorem dX12_burnIn_60 : decode cX12_burnIn 60 = .ok (.iload_n 2, 1) := by decide +kernel
theorem dX12_burnIn_61 : decode cX12_burnIn 61 = .ok (.ior, 1) := by decide +kernel
theorem dX12_burnIn_62 : decode cX12_burnIn 62 = .ok (.iastore, 1) := by decide +kernel
theorem dX12_burnIn_63 : decode cX12_burnIn 63 = .ok (.iload_n 3, 1) := by decide +kernel
theorem dX12_burnIn_64 : decode cX12_burnIn 64 = .ok (.invokestatic 330, 3) := by decide +kernel
theorem dX12_burnIn_67 : decode cX12_burnIn 67 = .ok (.ireturn, 1) := by decide +kernel
theorem dX12_season_0 : decode cX12_season 0 = .ok (.aload_n 0, 1) := by decide +kernel
theorem dX12_season_1 : decode cX12_season 1 = .ok (.getfield 88, 3) := by decide +kernel
theorem dX12_season_4 : decode cX12_season 4 = .ok (.bipush 112, 2) := by decide +kernel
theorem dX12_season_6 : decode cX12_season 6 = .ok (.iaload, 1) := by decide +kernel
theorem dX12_season_7 : decode cX12_season 7 = .ok (.sipush 999, 3) := by decide +kernel
theorem dX12_season_10 : decode cX12_season 10 = .ok (.if_icmp .ne 5, 3) := by decide +kernel
theorem dX12_season_13 : decode cX12_season 13 = .ok (.iconst (-1), 1) := by decide +kernel
theorem dX12_season_14 : decode cX12_season 14 = .ok (.ireturn, 1) := by decide +kernel
theorem dX12_season_15 : decode cX12_season 15 = .ok (.aload_n 0, 1) := by decide +kernel
theorem dX12_season_16 : decode cX12_season 16 = .ok (.invokevirtual 438, 3) := by decide +kernel
theorem dX12_season_19 : decode cX12_season 19 = .ok (.iconst 0, 1) := by decide +kernel
theorem dX12_season_20 : decode cX12_season 20 = .ok (.istore_n 1, 1) := by decide +kernel
theorem dX12_season_21 : decode cX12_season 21 = .ok (.iload_n 1, 1) := by decide +kernel
theorem dX12_season_22 : decode cX12_season 22 = .ok (.aload_n 0, 1) := by decide +kernel
theorem dX12_season_23 : decode cX12_season 23 = .ok (.invokevirtual 377, 3) := by decide +kernel
theorem dX12_season_26 : decode cX12_season 26 = .ok (.if_icmp .ge 70, 3) := by decide +kernel
theorem dX12_season_29 : decode cX12_season 29 = .ok (.iconst 0, 1) := by decide +kernel
theorem dX12_season_30 : decode cX12_season 30 = .ok (.istore_n 2, 1) := by decide +kernel
theorem dX12_season_31 : decode cX12_season 31 = .ok (.iload_n 2, 1) := by decide +kernel
theorem dX12_season_32 : decode cX12_season 32 = .ok (.bipush 12, 2) := by decide +kernel
theorem dX12_season_34 : decode cX12_season 34 = .ok (.if_icmp .ge 56, 3) := by decide +kernel
theorem dX12_season_37 : decode cX12_season 37 = .ok (.aload_n 0, 1) := by decide +kernel
theorem dX12_season_38 : decode cX12_season 38 = .ok (.getfield 88, 3) := by decide +kernel
theorem dX12_season_41 : decode cX12_season 41 = .ok (.iconst 0, 1) := by decide +kernel
theorem dX12_season_42 : decode cX12_season 42 = .ok (.iload_n 1, 1) := by decide +kernel
theorem dX12_season_43 : decode cX12_season 43 = .ok (.iadd, 1) := by decide +kernel
theorem dX12_season_44 : decode cX12_season 44 = .ok (.iaload, 1) := by decide +kernel
theorem dX12_season_45 : decode cX12_season 45 = .ok (.iload_n 2, 1) := by decide +kernel
theorem dX12_season_46 : decode cX12_season 46 = .ok (.invokestatic 256, 3) := by decide +kernel
theorem dX12_season_49 : decode cX12_season 49 = .ok (.ifCond .eq 35, 3) := by decide +kernel
theorem dX12_season_52 : decode cX12_season 52 = .ok (.aload_n 0, 1) := by decide +kernel
theorem dX12_season_53 : decode cX12_season 53 = .ok (.getfield 88, 3) := by decide +kernel
theorem dX12_season_56 : decode cX12_season 56 = .ok (.aload_n 0, 1) := by decide +kernel
theorem dX12_season_57 : decode cX12_season 57 = .ok (.iload_n 1, 1) := by decide +kernel
theorem dX12_season_58 : decode cX12_season 58 = .ok (.iload_n 2, 1) := by decide +kernel
theorem dX12_season_59 : decode cX12_season 59 = .ok (.invokevirtual 386, 3) := by decide +kernel
theorem dX12_season_62 : decode cX12_season 62 = .ok (.iaload, 1) := by decide +kernel
theorem dX12_season_63 : decode cX12_season 63 = .ok (.sipush 999, 3) := by decide +kernel
theorem dX12_season_66 : decode cX12_season 66 = .ok (.if_icmp .ge 18, 3) := by decide +kernel
theorem dX12_season_69 : decode cX12_season 69 = .ok (.aload_n 0, 1) := by decide +kernel
theorem dX12_season_70 : decode cX12_season 70 = .ok (.getfield 88, 3) := by decide +kernel
theorem dX12_season_73 : decode cX12_season 73 = .ok (.aload_n 0, 1) := by decide +kernel
theorem dX12_season_74 : decode cX12_season 74 = .ok (.iload_n 1, 1) := by decide +kernel
theorem dX12_season_75 : decode cX12_season 75 = .ok (.iload_n 2, 1) := by decide +kernel
theorem dX12_season_76 : decode cX12_season 76 = .ok (.invokevirtual 386, 3) := by decide +kernel
theorem dX12_season_79 : decode cX12_season 79 = .ok (.dup2, 1) := by decide +kernel
theorem dX12_season_80 : decode cX12_season 80 = .ok (.iaload, 1) := by decide +kernel
theorem dX12_season_81 : decode cX12_season 81 = .ok (.iconst 1, 1) := by decide +kernel
theorem dX12_season_82 : decode cX12_season 82 = .ok (.iadd, 1) := by decide +kernel
theorem dX12_season_83 : decode cX12_season 83 = .ok (.iastore, 1) := by decide +kernel
theorem dX12_season_84 : decode cX12_season 84 = .ok (.iinc 2 1, 3) := by decide +kernel
theorem dX12_season_87 : decode cX12_season 87 = .ok (.goto (-56), 3) := by decide +kernel
theorem dX12_season_90 : decode cX12_season 90 = .ok (.iinc 1 1, 3) := by decide +kernel
theorem dX12_season_93 : decode cX12_season 93 = .ok (.goto (-72), 3) := by decide +kernel
theorem dX12_season_96 : decode cX12_season 96 = .ok (.aload_n 0, 1) := by decide +kernel
theorem dX12_season_97 : decode cX12_season 97 = .ok (.getfield 88, 3) := by decide +kernel
theorem dX12_season_100 : decode cX12_season 100 = .ok (.bipush 112, 2) := by decide +kernel
theorem dX12_season_102 : decode cX12_season 102 = .ok (.dup2, 1) := by decide +kernel
theorem dX12_season_103 : decode cX12_season 103 = .ok (.iaload, 1) := by decide +kernel
theorem dX12_season_104 : decode cX12_season 104 = .ok (.iconst 1, 1) := by decide +kernel
theorem dX12_season_105 : decode cX12_season 105 = .ok (.iadd, 1) := by decide +kernel
theorem dX12_season_106 : decode cX12_season 106 = .ok (.iastore, 1) := by decide +kernel
theorem dX12_season_107 : decode cX12_season 107 = .ok (.iconst 0, 1) := by decide +kernel
theorem dX12_season_108 : decode cX12_season 108 = .ok (.istore_n 1, 1) := by decide +kernel
theorem dX12_season_109 : decode cX12_season 109 = .ok (.iconst 0, 1) := by decide +kernel
theorem dX12_season_110 : decode cX12_season 110 = .ok (.istore_n 2, 1) := by decide +kernel
theorem dX12_season_111 : decode cX12_season 111 = .ok (.iload_n 2, 1) := by decide +kernel
theorem dX12_season_112 : decode cX12_season 112 = .ok (.aload_n 0, 1) := by decide +kernel
theorem dX12_season_113 : decode cX12_season 113 = .ok (.invokevirtual 377, 3) := by decide +kernel
theorem dX12_season_116 : decode cX12_season 116 = .ok (.if_icmp .ge 83, 3) := by decide +kernel
theorem dX12_season_119 : decode cX12_season 119 = .ok (.aload_n 0, 1) := by decide +kernel
theorem dX12_season_120 : decode cX12_season 120 = .ok (.getfield 88, 3) := by decide +kernel
theorem dX12_season_123 : decode cX12_season 123 = .ok (.bipush 113, 2) := by decide +kernel
theorem dX12_season_125 : decode cX12_season 125 = .ok (.sipush 137, 3) := by decide +kernel
theorem dX12_season_128 : decode cX12_season 128 = .ok (.aload_n 0, 1) := by decide +kernel
theorem dX12_season_129 : decode cX12_season 129 = .ok (.getfield 88, 3) := by decide +kernel
theorem dX12_season_132 : decode cX12_season 132 = .ok (.bipush 113, 2) := by decide +kernel
theorem dX12_season_134 : decode cX12_season 134 = .ok (.iaload, 1) := by decide +kernel
theorem dX12_season_135 : decode cX12_season 135 = .ok (.imul, 1) := by decide +kernel
theorem dX12_season_136 : decode cX12_season 136 = .ok (.bipush 71, 2) := by decide +kernel
theorem dX12_season_138 : decode cX12_season 138 = .ok (.iadd, 1) := by decide +kernel
theorem dX12_season_139 : decode cX12_season 139 = .ok (.sipush 1000, 3) := by decide +kernel
theorem dX12_season_142 : decode cX12_season 142 = .ok (.irem, 1) := by decide +kernel
theorem dX12_season_143 : decode cX12_season 143 = .ok (.iastore, 1) := by decide +kernel
theorem dX12_season_144 : decode cX12_season 144 = .ok (.aload_n 0, 1) := by decide +kernel
theorem dX12_season_145 : decode cX12_season 145 = .ok (.getfield 88, 3) := by decide +kernel
theorem dX12_season_148 : decode cX12_season 148 = .ok (.bipush 113, 2) := by decide +kernel
theorem dX12_season_150 : decode cX12_season 150 = .ok (.iaload, 1) := by decide +kernel
theorem dX12_season_151 : decode cX12_season 151 = .ok (.bipush 100, 2) := by decide +kernel
theorem dX12_season_153 : decode cX12_season 153 = .ok (.irem, 1) := by decide +kernel
theorem dX12_season_154 : decode cX12_season 154 = .ok (.aload_n 0, 1) := by decide +kernel
theorem dX12_season_155 : decode cX12_season 155 = .ok (.getfield 36, 3) := by decide +kernel
theorem dX12_season_158 : decode cX12_season 158 = .ok (.aload_n 0, 1) := by decide +kernel
theorem dX12_season_159 : decode cX12_season 159 = .ok (.getfield 250, 3) := by decide +kernel
theorem dX12_season_162 : decode cX12_season 162 = .ok (.iaload, 1) := by decide +kernel
theorem dX12_season_163 : decode cX12_season 163 = .ok (.if_icmp .lt 6, 3) := by decide +kernel
theorem dX12_season_166 : decode cX12_season 166 = .ok (.goto 27, 3) := by decide +kernel
theorem dX12_season_169 : decode cX12_season 169 = .ok (.iload_n 1, 1) := by decide +kernel
theorem dX12_season_170 : decode cX12_season 170 = .ok (.iconst 1, 1) := by decide +kernel
theorem dX12_season_171 : decode cX12_season 171 = .ok (.iload_n 2, 1) := by decide +kernel
theorem dX12_season_172 : decode cX12_season 172 = .ok (.ishl, 1) := by decide +kernel
theorem dX12_season_173 : decode cX12_season 173 = .ok (.ior, 1) := by decide +kernel
theorem dX12_season_174 : decode cX12_season 174 = .ok (.istore_n 1, 1) := by decide +kernel
theorem dX12_season_175 : decode cX12_season 175 = .ok (.aload_n 0, 1) := by decide +kernel
theorem dX12_season_176 : decode cX12_season 176 = .ok (.iload_n 2, 1) := by decide +kernel
theorem dX12_season_177 : decode cX12_season 177 = .ok (.iconst 1, 1) := by decide +kernel
theorem dX12_season_178 : decode cX12_season 178 = .ok (.aload_n 0, 1) := by decide +kernel
theorem dX12_season_179 : decode cX12_season 179 = .ok (.getfield 88, 3) := by decide +kernel
theorem dX12_season_182 : decode cX12_season 182 = .ok (.bipush 113, 2) := by decide +kernel
theorem dX12_season_184 : decode cX12_season 184 = .ok (.iaload, 1) := by decide +kernel
theorem dX12_season_185 : decode cX12_season 185 = .ok (.bipush 12, 2) := by decide +kernel
theorem dX12_season_187 : decode cX12_season 187 = .ok (.irem, 1) := by decide +kernel
theorem dX12_season_188 : decode cX12_season 188 = .ok (.ishl, 1) := by decide +kernel
theorem dX12_season_189 : decode cX12_season 189 = .ok (.invokevirtual 441, 3) := by decide +kernel
theorem dX12_season_192 : decode cX12_season 192 = .ok (.istore_n 3, 1) := by decide +kernel
theorem dX12_season_193 : decode cX12_season 193 = .ok (.iinc 2 1, 3) := by decide +kernel
theorem dX12_season_196 : decode cX12_season 196 = .ok (.goto (-85), 3) := by decide +kernel
theorem dX12_season_199 : decode cX12_season 199 = .ok (.iload_n 1, 1) := by decide +kernel
theorem dX12_season_200 : decode cX12_season 200 = .ok (.ireturn, 1) := by decide +kernel
theorem dX12_burn_0 : decode cX12_burn 0 = .ok (.aload_n 0, 1) := by decide +kernel
theorem dX12_burn_1 : decode cX12_burn 1 = .ok (.iload_n 1, 1) := by decide +kernel
theorem dX12_burn_2 : decode cX12_burn 2 = .ok (.invokevirtual 420, 3) := by decide +kernel
theorem dX12_burn_5 : decode cX12_burn 5 = .ok (.ifCond .eq 25, 3) := by decide +kernel
theorem dX12_burn_8 : decode cX12_burn 8 = .ok (.aload_n 0, 1) := by decide +kernel
theorem dX12_burn_9 : decode cX12_burn 9 = .ok (.iload_n 2, 1) := by decide +kernel
theorem dX12_burn_10 : decode cX12_burn 10 = .ok (.invokevirtual 417, 3) := by decide +kernel
theorem dX12_burn_13 : decode cX12_burn 13 = .ok (.ifCond .eq 17, 3) := by decide +kernel
theorem dX12_burn_16 : decode cX12_burn 16 = .ok (.iload_n 3, 1) := by decide +kernel
theorem dX12_burn_17 : decode cX12_burn 17 = .ok (.iconst 0, 1) := by decide +kernel
theorem dX12_burn_18 : decode cX12_burn 18 = .ok (.aload_n 0, 1) := by decide +kernel
theorem dX12_burn_19 : decode cX12_burn 19 = .ok (.invokevirtual 358, 3) := by decide +kernel
theorem dX12_burn_22 : decode cX12_burn 22 = .ok (.iconst 1, 1) := by decide +kernel
theorem dX12_burn_23 : decode cX12_burn 23 = .ok (.isub, 1) := by decide +kernel
theorem dX12_burn_24 : decode cX12_burn 24 = .ok (.invokestatic 370, 3) := by decide +kernel
theorem dX12_burn_27 : decode cX12_burn 27 = .ok (.ifCond .ne 5, 3) := by decide +kernel
theorem dX12_burn_30 : decode cX12_burn 30 = .ok (.iconst (-1), 1) := by decide +kernel
theorem dX12_burn_31 : decode cX12_burn 31 = .ok (.ireturn, 1) := by decide +kernel
theorem dX12_burn_32 : decode cX12_burn 32 = .ok (.aload_n 0, 1) := by decide +kernel
theorem dX12_burn_33 : decode cX12_burn 33 = .ok (.invokevirtual 438, 3) := by decide +kernel
theorem dX12_burn_36 : decode cX12_burn 36 = .ok (.aload_n 0, 1) := by decide +kernel
theorem dX12_burn_37 : decode cX12_burn 37 = .ok (.iload_n 1, 1) := by decide +kernel
theorem dX12_burn_38 : decode cX12_burn 38 = .ok (.aload_n 0, 1) := by decide +kernel
theorem dX12_burn_39 : decode cX12_burn 39 = .ok (.getfield 91, 3) := by decide +kernel
theorem dX12_burn_42 : decode cX12_burn 42 = .ok (.iload_n 2, 1) := by decide +kernel
theorem dX12_burn_43 : decode cX12_burn 43 = .ok (.aload_n 0, 1) := by decide +kernel
theorem dX12_burn_44 : decode cX12_burn 44 = .ok (.invokevirtual 358, 3) := by decide +kernel
theorem dX12_burn_47 : decode cX12_burn 47 = .ok (.imul, 1) := by decide +kernel
theorem dX12_burn_48 : decode cX12_burn 48 = .ok (.iload_n 3, 1) := by decide +kernel
theorem dX12_burn_49 : decode cX12_burn 49 = .ok (.iadd, 1) := by decide +kernel
theorem dX12_burn_50 : decode cX12_burn 50 = .ok (.iaload, 1) := by decide +kernel
theorem dX12_burn_51 : decode cX12_burn 51 = .ok (.invokevirtual 441, 3) := by decide +kernel
theorem dX12_burn_54 : decode cX12_burn 54 = .ok (.ireturn, 1) := by decide +kernel
theorem dX12_sell_0 : decode cX12_sell 0 = .ok (.aload_n 0, 1) := by decide +kernel
theorem dX12_sell_1 : decode cX12_sell 1 = .ok (.iload_n 1, 1) := by decide +kernel
theorem dX12_sell_2 : decode cX12_sell 2 = .ok (.invokevirtual 420, 3) := by decide +kernel
theorem dX12_sell_5 : decode cX12_sell 5 = .ok (.ifCond .eq 24, 3) := by decide +kernel
theorem dX12_sell_8 : decode cX12_sell 8 = .ok (.aload_n 0, 1) := by decide +kernel
theorem dX12_sell_9 : decode cX12_sell 9 = .ok (.iload_n 2, 1) := by decide +kernel
theorem dX12_sell_10 : decode cX12_sell 10 = .ok (.invokevirtual 414, 3) := by decide +kernel
theorem dX12_sell_13 : decode cX12_sell 13 = .ok (.ifCond .eq 16, 3) := by decide +kernel
theorem dX12_sell_16 : decode cX12_sell 16 = .ok (.aload_n 0, 1) := by decide +kernel
theorem dX12_sell_17 : decode cX12_sell 17 = .ok (.getfield 88, 3) := by decide +kernel
theorem dX12_sell_20 : decode cX12_sell 20 = .ok (.bipush 8, 2) := by decide +kernel
theorem dX12_sell_22 : decode cX12_sell 22 = .ok (.iload_n 1, 1) := by decide +kernel
theorem dX12_sell_23 : decode cX12_sell 23 = .ok (.iadd, 1) := by decide +kernel
theorem dX12_sell_24 : decode cX12_sell 24 = .ok (.iaload, 1) := by decide +kernel
theorem dX12_sell_25 : decode cX12_sell 25 = .ok (.iload_n 2, 1) := by decide +kernel
theorem dX12_sell_26 : decode cX12_sell 26 = .ok (.if_icmp .ne 5, 3) := by decide +kernel
theorem dX12_sell_29 : decode cX12_sell 29 = .ok (.iconst (-1), 1) := by decide +kernel
theorem dX12_sell_30 : decode cX12_sell 30 = .ok (.ireturn, 1) := by decide +kernel
theorem dX12_sell_31 : decode cX12_sell 31 = .ok (.aload_n 0, 1) := by decide +kernel
theorem dX12_sell_32 : decode cX12_sell 32 = .ok (.invokevirtual 438, 3) := by decide +kernel
theorem dX12_sell_35 : decode cX12_sell 35 = .ok (.aload_n 0, 1) := by decide +kernel
theorem dX12_sell_36 : decode cX12_sell 36 = .ok (.getfield 88, 3) := by decide +kernel
theorem dX12_sell_39 : decode cX12_sell 39 = .ok (.bipush 8, 2) := by decide +kernel
theorem dX12_sell_41 : decode cX12_sell 41 = .ok (.iload_n 1, 1) := by decide +kernel
theorem dX12_sell_42 : decode cX12_sell 42 = .ok (.iadd, 1) := by decide +kernel
theorem dX12_sell_43 : decode cX12_sell 43 = .ok (.iaload, 1) := by decide +kernel
theorem dX12_sell_44 : decode cX12_sell 44 = .ok (.istore_n 3, 1) := by decide +kernel
theorem dX12_sell_45 : decode cX12_sell 45 = .ok (.aload_n 0, 1) := by decide +kernel
theorem dX12_sell_46 : decode cX12_sell 46 = .ok (.getfield 88, 3) := by decide +kernel
theorem dX12_sell_49 : decode cX12_sell 49 = .ok (.bipush 8, 2) := by decide +kernel
theorem dX12_sell_51 : decode cX12_sell 51 = .ok (.iload_n 1, 1) := by decide +kernel
theorem dX12_sell_52 : decode cX12_sell 52 = .ok (.iadd, 1) := by decide +kernel
theorem dX12_sell_53 : decode cX12_sell 53 = .ok (.iload_n 2, 1) := by decide +kernel
theorem dX12_sell_54 : decode cX12_sell 54 = .ok (.iastore, 1) := by decide +kernel
theorem dX12_sell_55 : decode cX12_sell 55 = .ok (.iload_n 3, 1) := by decide +kernel
theorem dX12_sell_56 : decode cX12_sell 56 = .ok (.ireturn, 1) := by decide +kernel
theorem dX12_clean_0 : decode cX12_clean 0 = .ok (.aload_n 0, 1) := by decide +kernel
theorem dX12_clean_1 : decode cX12_clean 1 = .ok (.iload_n 1, 1) := by decide +kernel
theorem dX12_clean_2 : decode cX12_clean 2 = .ok (.invokevirtual 420, 3) := by decide +kernel
theorem dX12_clean_5 : decode cX12_clean 5 = .ok (.ifCond .ne 5, 3) := by decide +kernel
theorem dX12_clean_8 : decode cX12_clean 8 = .ok (.iconst (-1), 1) := by decide +kernel
theorem dX12_clean_9 : decode cX12_clean 9 = .ok (.ireturn, 1) := by decide +kernel
theorem dX12_clean_10 : decode cX12_clean 10 = .ok (.aload_n 0, 1) := by decide +kernel
theorem dX12_clean_11 : decode cX12_clean 11 = .ok (.invokevirtual 438, 3) := by decide +kernel
theorem dX12_clean_14 : decode cX12_clean 14 = .ok (.aload_n 0, 1) := by decide +kernel
theorem dX12_clean_15 : decode cX12_clean 15 = .ok (.aload_n 0, 1) := by decide +kernel
theorem dX12_clean_16 : decode cX12_clean 16 = .ok (.iload_n 1, 1) := by decide +kernel
theorem dX12_clean_17 : decode cX12_clean 17 = .ok (.invokevirtual 380, 3) := by decide +kernel
theorem dX12_clean_20 : decode cX12_clean 20 = .ok (.invokevirtual 383, 3) := by decide +kernel
theorem dX12_clean_23 : decode cX12_clean 23 = .ok (.istore_n 2, 1) := by decide +kernel
theorem dX12_clean_24 : decode cX12_clean 24 = .ok (.aload_n 0, 1) := by decide +kernel
theorem dX12_clean_25 : decode cX12_clean 25 = .ok (.getfield 88, 3) := by decide +kernel
theorem dX12_clean_28 : decode cX12_clean 28 = .ok (.iconst 0, 1) := by decide +kernel
theorem dX12_clean_29 : decode cX12_clean 29 = .ok (.iload_n 1, 1) := by decide +kernel
theorem dX12_clean_30 : decode cX12_clean 30 = .ok (.iadd, 1) := by decide +kernel
theorem dX12_clean_31 : decode cX12_clean 31 = .ok (.iaload, 1) := by decide +kernel
theorem dX12_clean_32 : decode cX12_clean 32 = .ok (.iload_n 2, 1) := by decide +kernel
theorem dX12_clean_33 : decode cX12_clean 33 = .ok (.iconst (-1), 1) := by decide +kernel
theorem dX12_clean_34 : decode cX12_clean 34 = .ok (.ixor, 1) := by decide +kernel
theorem dX12_clean_35 : decode cX12_clean 35 = .ok (.iand, 1) := by decide +kernel
theorem dX12_clean_36 : decode cX12_clean 36 = .ok (.invokestatic 330, 3) := by decide +kernel
theorem dX12_clean_39 : decode cX12_clean 39 = .ok (.istore_n 3, 1) := by decide +kernel
theorem dX12_clean_40 : decode cX12_clean 40 = .ok (.aload_n 0, 1) := by decide +kernel
theorem dX12_clean_41 : decode cX12_clean 41 = .ok (.getfield 88, 3) := by decide +kernel
theorem dX12_clean_44 : decode cX12_clean 44 = .ok (.iconst 0, 1) := by decide +kernel
theorem dX12_clean_45 : decode cX12_clean 45 = .ok (.iload_n 1, 1) := by decide +kernel
theorem dX12_clean_46 : decode cX12_clean 46 = .ok (.iadd, 1) := by decide +kernel
theorem dX12_clean_47 : decode cX12_clean 47 = .ok (.iload_n 2, 1) := by decide +kernel
theorem dX12_clean_48 : decode cX12_clean 48 = .ok (.iastore, 1) := by decide +kernel
theorem dX12_clean_49 : decode cX12_clean 49 = .ok (.iconst 0, 1) := by decide +kernel
theorem dX12_clean_50 : decode cX12_clean 50 = .ok (.istore 4, 2) := by decide +kernel
theorem dX12_clean_52 : decode cX12_clean 52 = .ok (.iload 4, 2) := by decide +kernel
theorem dX12_clean_54 : decode cX12_clean 54 = .ok (.bipush 12, 2) := by decide +kernel
theorem dX12_clean_56 : decode cX12_clean 56 = .ok (.if_icmp .ge 22, 3) := by decide +kernel
theorem dX12_clean_59 : decode cX12_clean 59 = .ok (.aload_n 0, 1) := by decide +kernel
theorem dX12_clean_60 : decode cX12_clean 60 = .ok (.getfield 88, 3) := by decide +kernel
theorem dX12_clean_63 : decode cX12_clean 63 = .ok (.aload_n 0, 1) := by decide +kernel
theorem dX12_clean_64 : decode cX12_clean 64 = .ok (.iload_n 1, 1) := by decide +kernel
theorem dX12_clean_65 : decode cX12_clean 65 = .ok (.iload 4, 2) := by decide +kernel
theorem dX12_clean_67 : decode cX12_clean 67 = .ok (.invokevirtual 386, 3) := by decide +kernel
theorem dX12_clean_70 : decode cX12_clean 70 = .ok (.iconst 0, 1) := by decide +kernel
theorem dX12_clean_71 : decode cX12_clean 71 = .ok (.iastore, 1) := by decide +kernel
theorem dX12_clean_72 : decode cX12_clean 72 = .ok (.iinc 4 1, 3) := by decide +kernel
theorem dX12_clean_75 : decode cX12_clean 75 = .ok (.goto (-23), 3) := by decide +kernel
theorem dX12_clean_78 : decode cX12_clean 78 = .ok (.iload_n 3, 1) := by decide +kernel
theorem dX12_clean_79 : decode cX12_clean 79 = .ok (.ireturn, 1) := by decide +kernel
theorem dX12_undo_0 : decode cX12_undo 0 = .ok (.aload_n 0, 1) := by decide +kernel
theorem dX12_undo_1 : decode cX12_undo 1 = .ok (.getfield 392, 3) := by decide +kernel
theorem dX12_undo_4 : decode cX12_undo 4 = .ok (.ifCond .ne 5, 3) := by decide +kernel
theorem dX12_undo_7 : decode cX12_undo 7 = .ok (.iconst 0, 1) := by decide +kernel
theorem dX12_undo_8 : decode cX12_undo 8 = .ok (.ireturn, 1) := by decide +kernel
theorem dX12_undo_9 : decode cX12_undo 9 = .ok (.aload_n 0, 1) := by decide +kernel
theorem dX12_undo_10 : decode cX12_undo 10 = .ok (.dup, 1) := by decide +kernel
theorem dX12_undo_11 : decode cX12_undo 11 = .ok (.getfield 392, 3) := by decide +kernel
theorem dX12_undo_14 : decode cX12_undo 14 = .ok (.iconst 1, 1) := by decide +kernel
theorem dX12_undo_15 : decode cX12_undo 15 = .ok (.isub, 1) := by decide +kernel
theorem dX12_undo_16 : decode cX12_undo 16 = .ok (.putfield 392, 3) := by decide +kernel
theorem dX12_undo_19 : decode cX12_undo 19 = .ok (.aload_n 0, 1) := by decide +kernel
theorem dX12_undo_20 : decode cX12_undo 20 = .ok (.dup, 1) := by decide +kernel
theorem dX12_undo_21 : decode cX12_undo 21 = .ok (.getfield 395, 3) := by decide +kernel
theorem dX12_undo_24 : decode cX12_undo 24 = .ok (.iconst 1, 1) := by decide +kernel
theorem dX12_undo_25 : decode cX12_undo 25 = .ok (.iadd, 1) := by decide +kernel
theorem dX12_undo_26 : decode cX12_undo 26 = .ok (.putfield 395, 3) := by decide +kernel
theorem dX12_undo_29 : decode cX12_undo 29 = .ok (.aload_n 0, 1) := by decide +kernel
theorem dX12_undo_30 : decode cX12_undo 30 = .ok (.invokevirtual 444, 3) := by decide +kernel
theorem dX12_undo_33 : decode cX12_undo 33 = .ok (.iconst 1, 1) := by decide +kernel
theorem dX12_undo_34 : decode cX12_undo 34 = .ok (.ireturn, 1) := by decide +kernel
theorem dX12_redo_0 : decode cX12_redo 0 = .ok (.aload_n 0, 1) := by decide +kernel
theorem dX12_redo_1 : decode cX12_redo 1 = .ok (.getfield 395, 3) := by decide +kernel
theorem dX12_redo_4 : decode cX12_redo 4 = .ok (.ifCond .ne 5, 3) := by decide +kernel
theorem dX12_redo_7 : decode cX12_redo 7 = .ok (.iconst 0, 1) := by decide +kernel
theorem dX12_redo_8 : decode cX12_redo 8 = .ok (.ireturn, 1) := by decide +kernel
theorem dX12_redo_9 : decode cX12_redo 9 = .ok (.aload_n 0, 1) := by decide +kernel
theorem dX12_redo_10 : decode cX12_redo 10 = .ok (.invokevirtual 444, 3) := by decide +kernel
theorem dX12_redo_13 : decode cX12_redo 13 = .ok (.aload_n 0, 1) := by decide +kernel
theorem dX12_redo_14 : decode cX12_redo 14 = .ok (.dup, 1) := by decide +kernel
theorem dX12_redo_15 : decode cX12_redo 15 = .ok (.getfield 392, 3) := by decide +kernel
theorem dX12_redo_18 : decode cX12_redo 18 = .ok (.iconst 1, 1) := by decide +kernel
theorem dX12_redo_19 : decode cX12_redo 19 = .ok (.iadd, 1) := by decide +kernel
theorem dX12_redo_20 : decode cX12_redo 20 = .ok (.putfield 392, 3) := by decide +kernel
theorem dX12_redo_23 : decode cX12_redo 23 = .ok (.aload_n 0, 1) := by decide +kernel
theorem dX12_redo_24 : decode cX12_redo 24 = .ok (.dup, 1) := by decide +kernel
theorem dX12_redo_25 : decode cX12_redo 25 = .ok (.getfield 395, 3) := by decide +kernel
theorem dX12_redo_28 : decode cX12_redo 28 = .ok (.iconst 1, 1) := by decide +kernel
theorem dX12_redo_29 : decode cX12_redo 29 = .ok (.isub, 1) := by decide +kernel
theorem dX12_redo_30 : decode cX12_redo 30 = .ok (.putfield 395, 3) := by decide +kernel
theorem dX12_redo_33 : decode cX12_redo 33 = .ok (.iconst 1, 1) := by decide +kernel
theorem dX12_redo_34 : decode cX12_redo 34 = .ok (.ireturn, 1) := by decide +kernel
theorem dX12_lies_0 : decode cX12_lies 0 = .ok (.iload_n 1, 1) := by decide +kernel
theorem dX12_lies_1 : decode cX12_lies 1 = .ok (.iconst 0, 1) := by decide +kernel
theorem dX12_lies_2 : decode cX12_lies 2 = .ok (.aload_n 0, 1) := by decide +kernel
theorem dX12_lies_3 : decode cX12_lies 3 = .ok (.getfield 401, 3) := by decide +kernel
theorem dX12_lies_6 : decode cX12_lies 6 = .ok (.iconst 1, 1) := by decide +kernel
theorem dX12_lies_7 : decode cX12_lies 7 = .ok (.isub, 1) := by decide +kernel
theorem dX12_lies_8 : decode cX12_lies 8 = .ok (.invokestatic 370, 3) := by decide +kernel
theorem dX12_lies_11 : decode cX12_lies 11 = .ok (.ifCond .eq 12, 3) := by decide +kernel
theorem dX12_lies_14 : decode cX12_lies 14 = .ok (.aload_n 0, 1) := by decide +kernel
theorem dX12_lies_15 : decode cX12_lies 15 = .ok (.getfield 100, 3) := by decide +kernel
theorem dX12_lies_18 : decode cX12_lies 18 = .ok (.iload_n 1, 1) := by decide +kernel
theorem dX12_lies_19 : decode cX12_lies 19 = .ok (.iaload, 1) := by decide +kernel
theorem dX12_lies_20 : decode cX12_lies 20 = .ok (.goto 4, 3) := by decide +kernel
theorem dX12_lies_23 : decode cX12_lies 23 = .ok (.iconst (-1), 1) := by decide +kernel
theorem dX12_lies_24 : decode cX12_lies 24 = .ok (.ireturn, 1) := by decide +kernel
theorem dX12_layNeed_0 : decode cX12_layNeed 0 = .ok (.aload_n 0, 1) := by decide +kernel
theorem dX12_layNeed_1 : decode cX12_layNeed 1 = .ok (.iload_n 1, 1) := by decide +kernel
