theorem dX10_takeBack_16 : decode cX10_takeBack 16 = .ok (.iload_n 1, 1) := by decide +kernel
theorem dX10_takeBack_17 : decode cX10_takeBack 17 = .ok (.iaload, 1) := by decide +kernel
theorem dX10_takeBack_18 : decode cX10_takeBack 18 = .ok (.iconst (-1), 1) := by decide +kernel
theorem dX10_takeBack_19 : decode cX10_takeBack 19 = .ok (.if_icmp .eq 5, 3) := by decide +kernel
theorem dX10_takeBack_22 : decode cX10_takeBack 22 = .ok (.iconst 0, 1) := by decide +kernel
theorem dX10_takeBack_23 : decode cX10_takeBack 23 = .ok (.ireturn, 1) := by decide +kernel
theorem dX10_takeBack_24 : decode cX10_takeBack 24 = .ok (.aload_n 0, 1) := by decide +kernel
theorem dX10_takeBack_25 : decode cX10_takeBack 25 = .ok (.getfield 25, 3) := by decide +kernel
theorem dX10_takeBack_28 : decode cX10_takeBack 28 = .ok (.iload_n 1, 1) := by decide +kernel
theorem dX10_takeBack_29 : decode cX10_takeBack 29 = .ok (.aload_n 0, 1) := by decide +kernel
theorem dX10_takeBack_30 : decode cX10_takeBack 30 = .ok (.getfield 32, 3) := by decide +kernel
theorem dX10_takeBack_33 : decode cX10_takeBack 33 = .ok (.iastore, 1) := by decide +kernel
theorem dX10_takeBack_34 : decode cX10_takeBack 34 = .ok (.iconst 1, 1) := by decide +kernel
theorem dX10_takeBack_35 : decode cX10_takeBack 35 = .ok (.ireturn, 1) := by decide +kernel
theorem dX10_goOn_0 : decode cX10_goOn 0 = .ok (.aload_n 0, 1) := by decide +kernel
theorem dX10_goOn_1 : decode cX10_goOn 1 = .ok (.getfield 32, 3) := by decide +kernel
theorem dX10_goOn_4 : decode cX10_goOn 4 = .ok (.iload_n 1, 1) := by decide +kernel
theorem dX10_goOn_5 : decode cX10_goOn 5 = .ok (.iadd, 1) := by decide +kernel
theorem dX10_goOn_6 : decode cX10_goOn 6 = .ok (.ldc 55, 2) := by decide +kernel
theorem dX10_goOn_8 : decode cX10_goOn 8 = .ok (.if_icmp .le 5, 3) := by decide +kernel
theorem dX10_goOn_11 : decode cX10_goOn 11 = .ok (.iconst (-1), 1) := by decide +kernel
theorem dX10_goOn_12 : decode cX10_goOn 12 = .ok (.ireturn, 1) := by decide +kernel
theorem dX10_goOn_13 : decode cX10_goOn 13 = .ok (.aload_n 0, 1) := by decide +kernel
theorem dX10_goOn_14 : decode cX10_goOn 14 = .ok (.dup, 1) := by decide +kernel
theorem dX10_goOn_15 : decode cX10_goOn 15 = .ok (.getfield 32, 3) := by decide +kernel
theorem dX10_goOn_18 : decode cX10_goOn 18 = .ok (.iload_n 1, 1) := by decide +kernel
theorem dX10_goOn_19 : decode cX10_goOn 19 = .ok (.iadd, 1) := by decide +kernel
theorem dX10_goOn_20 : decode cX10_goOn 20 = .ok (.putfield 32, 3) := by decide +kernel
theorem dX10_goOn_23 : decode cX10_goOn 23 = .ok (.aload_n 0, 1) := by decide +kernel
theorem dX10_goOn_24 : decode cX10_goOn 24 = .ok (.getfield 32, 3) := by decide +kernel
theorem dX10_goOn_27 : decode cX10_goOn 27 = .ok (.ireturn, 1) := by decide +kernel
theorem dX10_countRows_0 : decode cX10_countRows 0 = .ok (.aload_n 0, 1) := by decide +kernel
theorem dX10_countRows_1 : decode cX10_countRows 1 = .ok (.iload_n 1, 1) := by decide +kernel
theorem dX10_countRows_2 : decode cX10_countRows 2 = .ok (.invokevirtual 56, 3) := by decide +kernel
theorem dX10_countRows_5 : decode cX10_countRows 5 = .ok (.aload_n 0, 1) := by decide +kernel
theorem dX10_countRows_6 : decode cX10_countRows 6 = .ok (.getfield 41, 3) := by decide +kernel
theorem dX10_countRows_9 : decode cX10_countRows 9 = .ok (.iconst 0, 1) := by decide +kernel
theorem dX10_countRows_10 : decode cX10_countRows 10 = .ok (.invokestatic 60, 3) := by decide +kernel
theorem dX10_countRows_13 : decode cX10_countRows 13 = .ok (.aload_n 0, 1) := by decide +kernel
theorem dX10_countRows_14 : decode cX10_countRows 14 = .ok (.getfield 44, 3) := by decide +kernel
theorem dX10_countRows_17 : decode cX10_countRows 17 = .ok (.iconst 0, 1) := by decide +kernel
theorem dX10_countRows_18 : decode cX10_countRows 18 = .ok (.invokestatic 60, 3) := by decide +kernel
theorem dX10_countRows_21 : decode cX10_countRows 21 = .ok (.aload_n 0, 1) := by decide +kernel
theorem dX10_countRows_22 : decode cX10_countRows 22 = .ok (.getfield 47, 3) := by decide +kernel
theorem dX10_countRows_25 : decode cX10_countRows 25 = .ok (.getfield 66, 3) := by decide +kernel
theorem dX10_countRows_28 : decode cX10_countRows 28 = .ok (.ifCond .ne 5, 3) := by decide +kernel
theorem dX10_countRows_31 : decode cX10_countRows 31 = .ok (.iconst 0, 1) := by decide +kernel
theorem dX10_countRows_32 : decode cX10_countRows 32 = .ok (.ireturn, 1) := by decide +kernel
theorem dX10_countRows_33 : decode cX10_countRows 33 = .ok (.aload_n 0, 1) := by decide +kernel
theorem dX10_countRows_34 : decode cX10_countRows 34 = .ok (.getfield 47, 3) := by decide +kernel
theorem dX10_countRows_37 : decode cX10_countRows 37 = .ok (.getfield 71, 3) := by decide +kernel
theorem dX10_countRows_40 : decode cX10_countRows 40 = .ok (.aload_n 0, 1) := by decide +kernel
theorem dX10_countRows_41 : decode cX10_countRows 41 = .ok (.getfield 47, 3) := by decide +kernel
theorem dX10_countRows_44 : decode cX10_countRows 44 = .ok (.getfield 74, 3) := by decide +kernel
theorem dX10_countRows_47 : decode cX10_countRows 47 = .ok (.iconst 0, 1) := by decide +kernel
theorem dX10_countRows_48 : decode cX10_countRows 48 = .ok (.iaload, 1) := by decide +kernel
theorem dX10_countRows_49 : decode cX10_countRows 49 = .ok (.iaload, 1) := by decide +kernel
theorem dX10_countRows_50 : decode cX10_countRows 50 = .ok (.istore_n 2, 1) := by decide +kernel
theorem dX10_countRows_51 : decode cX10_countRows 51 = .ok (.iconst 0, 1) := by decide +kernel
theorem dX10_countRows_52 : decode cX10_countRows 52 = .ok (.istore_n 3, 1) := by decide +kernel
theorem dX10_countRows_53 : decode cX10_countRows 53 = .ok (.iconst 0, 1) := by decide +kernel
theorem dX10_countRows_54 : decode cX10_countRows 54 = .ok (.istore 4, 2) := by decide +kernel
theorem dX10_countRows_56 : decode cX10_countRows 56 = .ok (.iload 4, 2) := by decide +kernel
theorem dX10_countRows_58 : decode cX10_countRows 58 = .ok (.aload_n 0, 1) := by decide +kernel
theorem dX10_countRows_59 : decode cX10_countRows 59 = .ok (.getfield 51, 3) := by decide +kernel
theorem dX10_countRows_62 : decode cX10_countRows 62 = .ok (.invokevirtual 77, 3) := by decide +kernel
theorem dX10_countRows_65 : decode cX10_countRows 65 = .ok (.if_icmp .ge 84, 3) := by decide +kernel
theorem dX10_countRows_68 : decode cX10_countRows 68 = .ok (.iconst 0, 1) := by decide +kernel
theorem dX10_countRows_69 : decode cX10_countRows 69 = .ok (.istore 5, 2) := by decide +kernel
theorem dX10_countRows_71 : decode cX10_countRows 71 = .ok (.iload 5, 2) := by decide +kernel
theorem dX10_countRows_73 : decode cX10_countRows 73 = .ok (.aload_n 0, 1) := by decide +kernel
theorem dX10_countRows_74 : decode cX10_countRows 74 = .ok (.getfield 51, 3) := by decide +kernel
theorem dX10_countRows_77 : decode cX10_countRows 77 = .ok (.invokevirtual 83, 3) := by decide +kernel
theorem dX10_countRows_80 : decode cX10_countRows 80 = .ok (.if_icmp .ge 63, 3) := by decide +kernel
theorem dX10_countRows_83 : decode cX10_countRows 83 = .ok (.iload_n 2, 1) := by decide +kernel
theorem dX10_countRows_84 : decode cX10_countRows 84 = .ok (.aload_n 0, 1) := by decide +kernel
theorem dX10_countRows_85 : decode cX10_countRows 85 = .ok (.getfield 51, 3) := by decide +kernel
theorem dX10_countRows_88 : decode cX10_countRows 88 = .ok (.iload 4, 2) := by decide +kernel
theorem dX10_countRows_90 : decode cX10_countRows 90 = .ok (.iload 5, 2) := by decide +kernel
theorem dX10_countRows_92 : decode cX10_countRows 92 = .ok (.invokevirtual 86, 3) := by decide +kernel
theorem dX10_countRows_95 : decode cX10_countRows 95 = .ok (.ior, 1) := by decide +kernel
theorem dX10_countRows_96 : decode cX10_countRows 96 = .ok (.istore 6, 2) := by decide +kernel
theorem dX10_countRows_98 : decode cX10_countRows 98 = .ok (.aload_n 0, 1) := by decide +kernel
theorem dX10_countRows_99 : decode cX10_countRows 99 = .ok (.iload 6, 2) := by decide +kernel
theorem dX10_countRows_101 : decode cX10_countRows 101 = .ok (.iconst 0, 1) := by decide +kernel
theorem dX10_countRows_102 : decode cX10_countRows 102 = .ok (.invokevirtual 90, 3) := by decide +kernel
theorem dX10_countRows_105 : decode cX10_countRows 105 = .ok (.ifCond .eq 12, 3) := by decide +kernel
theorem dX10_countRows_108 : decode cX10_countRows 108 = .ok (.aload_n 0, 1) := by decide +kernel
theorem dX10_countRows_109 : decode cX10_countRows 109 = .ok (.iload 6, 2) := by decide +kernel
theorem dX10_countRows_111 : decode cX10_countRows 111 = .ok (.invokevirtual 94, 3) := by decide +kernel
theorem dX10_countRows_114 : decode cX10_countRows 114 = .ok (.goto 4, 3) := by decide +kernel
theorem dX10_countRows_117 : decode cX10_countRows 117 = .ok (.iconst 0, 1) := by decide +kernel
theorem dX10_countRows_118 : decode cX10_countRows 118 = .ok (.istore 7, 2) := by decide +kernel
theorem dX10_countRows_120 : decode cX10_countRows 120 = .ok (.aload_n 0, 1) := by decide +kernel
theorem dX10_countRows_121 : decode cX10_countRows 121 = .ok (.getfield 41, 3) := by decide +kernel
theorem dX10_countRows_124 : decode cX10_countRows 124 = .ok (.iload 4, 2) := by decide +kernel
theorem dX10_countRows_126 : decode cX10_countRows 126 = .ok (.dup2, 1) := by decide +kernel
theorem dX10_countRows_127 : decode cX10_countRows 127 = .ok (.iaload, 1) := by decide +kernel
theorem dX10_countRows_128 : decode cX10_countRows 128 = .ok (.iload 7, 2) := by decide +kernel
theorem dX10_countRows_130 : decode cX10_countRows 130 = .ok (.iadd, 1) := by decide +kernel
theorem dX10_countRows_131 : decode cX10_countRows 131 = .ok (.iastore, 1) := by decide +kernel
theorem dX10_countRows_132 : decode cX10_countRows 132 = .ok (.iload_n 3, 1) := by decide +kernel
theorem dX10_countRows_133 : decode cX10_countRows 133 = .ok (.iload 7, 2) := by decide +kernel
theorem dX10_countRows_135 : decode cX10_countRows 135 = .ok (.iadd, 1) := by decide +kernel
theorem dX10_countRows_136 : decode cX10_countRows 136 = .ok (.istore_n 3, 1) := by decide +kernel
theorem dX10_countRows_137 : decode cX10_countRows 137 = .ok (.iinc 5 1, 3) := by decide +kernel
theorem dX10_countRows_140 : decode cX10_countRows 140 = .ok (.goto (-69), 3) := by decide +kernel
theorem dX10_countRows_143 : decode cX10_countRows 143 = .ok (.iinc 4 1, 3) := by decide +kernel
theorem dX10_countRows_146 : decode cX10_countRows 146 = .ok (.goto (-90), 3) := by decide +kernel
theorem dX10_countRows_149 : decode cX10_countRows 149 = .ok (.iload_n 3, 1) := by decide +kernel
theorem dX10_countRows_150 : decode cX10_countRows 150 = .ok (.ireturn, 1) := by decide +kernel
theorem dX10_countSecond_0 : decode cX10_countSecond 0 = .ok (.iconst 0, 1) := by decide +kernel
theorem dX10_countSecond_1 : decode cX10_countSecond 1 = .ok (.istore_n 2, 1) := by decide +kernel
theorem dX10_countSecond_2 : decode cX10_countSecond 2 = .ok (.iconst 0, 1) := by decide +kernel
theorem dX10_countSecond_3 : decode cX10_countSecond 3 = .ok (.istore_n 3, 1) := by decide +kernel
theorem dX10_countSecond_4 : decode cX10_countSecond 4 = .ok (.iload_n 3, 1) := by decide +kernel
theorem dX10_countSecond_5 : decode cX10_countSecond 5 = .ok (.aload_n 0, 1) := by decide +kernel
theorem dX10_countSecond_6 : decode cX10_countSecond 6 = .ok (.getfield 51, 3) := by decide +kernel
theorem dX10_countSecond_9 : decode cX10_countSecond 9 = .ok (.invokevirtual 77, 3) := by decide +kernel
theorem dX10_countSecond_12 : decode cX10_countSecond 12 = .ok (.if_icmp .ge 63, 3) := by decide +kernel
theorem dX10_countSecond_15 : decode cX10_countSecond 15 = .ok (.iconst 0, 1) := by decide +kernel
theorem dX10_countSecond_16 : decode cX10_countSecond 16 = .ok (.istore 4, 2) := by decide +kernel
theorem dX10_countSecond_18 : decode cX10_countSecond 18 = .ok (.iload 4, 2) := by decide +kernel
theorem dX10_countSecond_20 : decode cX10_countSecond 20 = .ok (.aload_n 0, 1) := by decide +kernel
theorem dX10_countSecond_21 : decode cX10_countSecond 21 = .ok (.getfield 51, 3) := by decide +kernel
theorem dX10_countSecond_24 : decode cX10_countSecond 24 = .ok (.invokevirtual 83, 3) := by decide +kernel
theorem dX10_countSecond_27 : decode cX10_countSecond 27 = .ok (.if_icmp .ge 42, 3) := by decide +kernel
theorem dX10_countSecond_30 : decode cX10_countSecond 30 = .ok (.aload_n 0, 1) := by decide +kernel
theorem dX10_countSecond_31 : decode cX10_countSecond 31 = .ok (.iload_n 1, 1) := by decide +kernel
theorem dX10_countSecond_32 : decode cX10_countSecond 32 = .ok (.aload_n 0, 1) := by decide +kernel
theorem dX10_countSecond_33 : decode cX10_countSecond 33 = .ok (.getfield 51, 3) := by decide +kernel
theorem dX10_countSecond_36 : decode cX10_countSecond 36 = .ok (.iload_n 3, 1) := by decide +kernel
theorem dX10_countSecond_37 : decode cX10_countSecond 37 = .ok (.iload 4, 2) := by decide +kernel
theorem dX10_countSecond_39 : decode cX10_countSecond 39 = .ok (.invokevirtual 86, 3) := by decide +kernel
theorem dX10_countSecond_42 : decode cX10_countSecond 42 = .ok (.ior, 1) := by decide +kernel
theorem dX10_countSecond_43 : decode cX10_countSecond 43 = .ok (.iconst 1, 1) := by decide +kernel
theorem dX10_countSecond_44 : decode cX10_countSecond 44 = .ok (.invokevirtual 90, 3) := by decide +kernel
theorem dX10_countSecond_47 : decode cX10_countSecond 47 = .ok (.ifCond .eq 16, 3) := by decide +kernel
theorem dX10_countSecond_50 : decode cX10_countSecond 50 = .ok (.aload_n 0, 1) := by decide +kernel
theorem dX10_countSecond_51 : decode cX10_countSecond 51 = .ok (.getfield 44, 3) := by decide +kernel
theorem dX10_countSecond_54 : decode cX10_countSecond 54 = .ok (.iload_n 3, 1) := by decide +kernel
theorem dX10_countSecond_55 : decode cX10_countSecond 55 = .ok (.dup2, 1) := by decide +kernel
theorem dX10_countSecond_56 : decode cX10_countSecond 56 = .ok (.iaload, 1) := by decide +kernel
theorem dX10_countSecond_57 : decode cX10_countSecond 57 = .ok (.iconst 1, 1) := by decide +kernel
theorem dX10_countSecond_58 : decode cX10_countSecond 58 = .ok (.iadd, 1) := by decide +kernel
theorem dX10_countSecond_59 : decode cX10_countSecond 59 = .ok (.iastore, 1) := by decide +kernel
theorem dX10_countSecond_60 : decode cX10_countSecond 60 = .ok (.iinc 2 1, 3) := by decide +kernel
theorem dX10_countSecond_63 : decode cX10_countSecond 63 = .ok (.iinc 4 1, 3) := by decide +kernel
theorem dX10_countSecond_66 : decode cX10_countSecond 66 = .ok (.goto (-48), 3) := by decide +kernel
theorem dX10_countSecond_69 : decode cX10_countSecond 69 = .ok (.iinc 3 1, 3) := by decide +kernel
theorem dX10_countSecond_72 : decode cX10_countSecond 72 = .ok (.goto (-68), 3) := by decide +kernel
theorem dX10_countSecond_75 : decode cX10_countSecond 75 = .ok (.iload_n 2, 1) := by decide +kernel
theorem dX10_countSecond_76 : decode cX10_countSecond 76 = .ok (.ireturn, 1) := by decide +kernel
theorem dX10_agrees_0 : decode cX10_agrees 0 = .ok (.aload_n 0, 1) := by decide +kernel
theorem dX10_agrees_1 : decode cX10_agrees 1 = .ok (.getfield 35, 3) := by decide +kernel
theorem dX10_agrees_4 : decode cX10_agrees 4 = .ok (.iload_n 2, 1) := by decide +kernel
theorem dX10_agrees_5 : decode cX10_agrees 5 = .ok (.iaload, 1) := by decide +kernel
theorem dX10_agrees_6 : decode cX10_agrees 6 = .ok (.iload_n 1, 1) := by decide +kernel
theorem dX10_agrees_7 : decode cX10_agrees 7 = .ok (.iconst (-1), 1) := by decide +kernel
theorem dX10_agrees_8 : decode cX10_agrees 8 = .ok (.ixor, 1) := by decide +kernel
theorem dX10_agrees_9 : decode cX10_agrees 9 = .ok (.iand, 1) := by decide +kernel
theorem dX10_agrees_10 : decode cX10_agrees 10 = .ok (.ifCond .ne 18, 3) := by decide +kernel
theorem dX10_agrees_13 : decode cX10_agrees 13 = .ok (.aload_n 0, 1) := by decide +kernel
theorem dX10_agrees_14 : decode cX10_agrees 14 = .ok (.getfield 38, 3) := by decide +kernel
theorem dX10_agrees_17 : decode cX10_agrees 17 = .ok (.iload_n 2, 1) := by decide +kernel
theorem dX10_agrees_18 : decode cX10_agrees 18 = .ok (.iaload, 1) := by decide +kernel
theorem dX10_agrees_19 : decode cX10_agrees 19 = .ok (.iload_n 1, 1) := by decide +kernel
theorem dX10_agrees_20 : decode cX10_agrees 20 = .ok (.iand, 1) := by decide +kernel
theorem dX10_agrees_21 : decode cX10_agrees 21 = .ok (.ifCond .ne 7, 3) := by decide +kernel
theorem dX10_agrees_24 : decode cX10_agrees 24 = .ok (.iconst 1, 1) := by decide +kernel
theorem dX10_agrees_25 : decode cX10_agrees 25 = .ok (.goto 4, 3) := by decide +kernel
theorem dX10_agrees_28 : decode cX10_agrees 28 = .ok (.iconst 0, 1) := by decide +kernel
theorem dX10_agrees_29 : decode cX10_agrees 29 = .ok (.ireturn, 1) := by decide +kernel
theorem dX10_gather_0 : decode cX10_gather 0 = .ok (.aload_n 0, 1) := by decide +kernel
theorem dX10_gather_1 : decode cX10_gather 1 = .ok (.getfield 35, 3) := by decide +kernel
theorem dX10_gather_4 : decode cX10_gather 4 = .ok (.iconst 0, 1) := by decide +kernel
theorem dX10_gather_5 : decode cX10_gather 5 = .ok (.invokestatic 60, 3) := by decide +kernel
theorem dX10_gather_8 : decode cX10_gather 8 = .ok (.aload_n 0, 1) := by decide +kernel
theorem dX10_gather_9 : decode cX10_gather 9 = .ok (.getfield 38, 3) := by decide +kernel
theorem dX10_gather_12 : decode cX10_gather 12 = .ok (.iconst 0, 1) := by decide +kernel
theorem dX10_gather_13 : decode cX10_gather 13 = .ok (.invokestatic 60, 3) := by decide +kernel
theorem dX10_gather_16 : decode cX10_gather 16 = .ok (.iconst 0, 1) := by decide +kernel
theorem dX10_gather_17 : decode cX10_gather 17 = .ok (.istore_n 2, 1) := by decide +kernel
theorem dX10_gather_18 : decode cX10_gather 18 = .ok (.iload_n 2, 1) := by decide +kernel
theorem dX10_gather_19 : decode cX10_gather 19 = .ok (.aload_n 0, 1) := by decide +kernel
theorem dX10_gather_20 : decode cX10_gather 20 = .ok (.getfield 28, 3) := by decide +kernel
theorem dX10_gather_23 : decode cX10_gather 23 = .ok (.if_icmp .ge 93, 3) := by decide +kernel
theorem dX10_gather_26 : decode cX10_gather 26 = .ok (.aload_n 0, 1) := by decide +kernel
theorem dX10_gather_27 : decode cX10_gather 27 = .ok (.getfield 25, 3) := by decide +kernel
theorem dX10_gather_30 : decode cX10_gather 30 = .ok (.iload_n 2, 1) := by decide +kernel
theorem dX10_gather_31 : decode cX10_gather 31 = .ok (.iaload, 1) := by decide +kernel
theorem dX10_gather_32 : decode cX10_gather 32 = .ok (.iconst (-1), 1) := by decide +kernel
theorem dX10_gather_33 : decode cX10_gather 33 = .ok (.if_icmp .eq 17, 3) := by decide +kernel
theorem dX10_gather_36 : decode cX10_gather 36 = .ok (.aload_n 0, 1) := by decide +kernel
theorem dX10_gather_37 : decode cX10_gather 37 = .ok (.getfield 25, 3) := by decide +kernel
theorem dX10_gather_40 : decode cX10_gather 40 = .ok (.iload_n 2, 1) := by decide +kernel
theorem dX10_gather_41 : decode cX10_gather 41 = .ok (.iaload, 1) := by decide +kernel
theorem dX10_gather_42 : decode cX10_gather 42 = .ok (.iload_n 1, 1) := by decide +kernel
theorem dX10_gather_43 : decode cX10_gather 43 = .ok (.if_icmp .gt 7, 3) := by decide +kernel
theorem dX10_gather_46 : decode cX10_gather 46 = .ok (.iconst 1, 1) := by decide +kernel
theorem dX10_gather_47 : decode cX10_gather 47 = .ok (.goto 4, 3) := by decide +kernel
theorem dX10_gather_50 : decode cX10_gather 50 = .ok (.iconst 0, 1) := by decide +kernel
theorem dX10_gather_51 : decode cX10_gather 51 = .ok (.istore_n 3, 1) := by decide +kernel
theorem dX10_gather_52 : decode cX10_gather 52 = .ok (.aload_n 0, 1) := by decide +kernel
theorem dX10_gather_53 : decode cX10_gather 53 = .ok (.getfield 22, 3) := by decide +kernel
theorem dX10_gather_56 : decode cX10_gather 56 = .ok (.iload_n 2, 1) := by decide +kernel
theorem dX10_gather_57 : decode cX10_gather 57 = .ok (.iaload, 1) := by decide +kernel
theorem dX10_gather_58 : decode cX10_gather 58 = .ok (.iload_n 1, 1) := by decide +kernel
theorem dX10_gather_59 : decode cX10_gather 59 = .ok (.if_icmp .gt 51, 3) := by decide +kernel
theorem dX10_gather_62 : decode cX10_gather 62 = .ok (.iload_n 3, 1) := by decide +kernel
theorem dX10_gather_63 : decode cX10_gather 63 = .ok (.ifCond .ne 47, 3) := by decide +kernel
theorem dX10_gather_66 : decode cX10_gather 66 = .ok (.aload_n 0, 1) := by decide +kernel
theorem dX10_gather_67 : decode cX10_gather 67 = .ok (.getfield 18, 3) := by decide +kernel
theorem dX10_gather_70 : decode cX10_gather 70 = .ok (.iload_n 2, 1) := by decide +kernel
theorem dX10_gather_71 : decode cX10_gather 71 = .ok (.baload, 1) := by decide +kernel
theorem dX10_gather_72 : decode cX10_gather 72 = .ok (.ifCond .eq 10, 3) := by decide +kernel
theorem dX10_gather_75 : decode cX10_gather 75 = .ok (.aload_n 0, 1) := by decide +kernel
theorem dX10_gather_76 : decode cX10_gather 76 = .ok (.getfield 35, 3) := by decide +kernel
theorem dX10_gather_79 : decode cX10_gather 79 = .ok (.goto 7, 3) := by decide +kernel
theorem dX10_gather_82 : decode cX10_gather 82 = .ok (.aload_n 0, 1) := by decide +kernel
theorem dX10_gather_83 : decode cX10_gather 83 = .ok (.getfield 38, 3) := by decide +kernel
theorem dX10_gather_86 : decode cX10_gather 86 = .ok (.astore 4, 2) := by decide +kernel
theorem dX10_gather_88 : decode cX10_gather 88 = .ok (.aload 4, 2) := by decide +kernel
theorem dX10_gather_90 : decode cX10_gather 90 = .ok (.aload_n 0, 1) := by decide +kernel
theorem dX10_gather_91 : decode cX10_gather 91 = .ok (.getfield 9, 3) := by decide +kernel
theorem dX10_gather_94 : decode cX10_gather 94 = .ok (.iload_n 2, 1) := by decide +kernel
theorem dX10_gather_95 : decode cX10_gather 95 = .ok (.iaload, 1) := by decide +kernel
theorem dX10_gather_96 : decode cX10_gather 96 = .ok (.iconst 1, 1) := by decide +kernel
theorem dX10_gather_97 : decode cX10_gather 97 = .ok (.isub, 1) := by decide +kernel
theorem dX10_gather_98 : decode cX10_gather 98 = .ok (.dup2, 1) := by decide +kernel
theorem dX10_gather_99 : decode cX10_gather 99 = .ok (.iaload, 1) := by decide +kernel
theorem dX10_gather_100 : decode cX10_gather 100 = .ok (.iconst 1, 1) := by decide +kernel
theorem dX10_gather_101 : decode cX10_gather 101 = .ok (.aload_n 0, 1) := by decide +kernel
theorem dX10_gather_102 : decode cX10_gather 102 = .ok (.getfield 15, 3) := by decide +kernel
theorem dX10_gather_105 : decode cX10_gather 105 = .ok (.iload_n 2, 1) := by decide +kernel
theorem dX10_gather_106 : decode cX10_gather 106 = .ok (.iaload, 1) := by decide +kernel
theorem dX10_gather_107 : decode cX10_gather 107 = .ok (.ishl, 1) := by decide +kernel
theorem dX10_gather_108 : decode cX10_gather 108 = .ok (.ior, 1) := by decide +kernel
theorem dX10_gather_109 : decode cX10_gather 109 = .ok (.iastore, 1) := by decide +kernel
theorem dX10_gather_110 : decode cX10_gather 110 = .ok (.iinc 2 1, 3) := by decide +kernel
theorem dX10_gather_113 : decode cX10_gather 113 = .ok (.goto (-95), 3) := by decide +kernel
theorem dX10_gather_116 : decode cX10_gather 116 = .ok (.return_, 1) := by decide +kernel
theorem dX10_sureIron_0 : decode cX10_sureIron 0 = .ok (.aload_n 0, 1) := by decide +kernel
theorem dX10_sureIron_1 : decode cX10_sureIron 1 = .ok (.iload_n 2, 1) := by decide +kernel
theorem dX10_sureIron_2 : decode cX10_sureIron 2 = .ok (.invokevirtual 98, 3) := by decide +kernel
theorem dX10_sureIron_5 : decode cX10_sureIron 5 = .ok (.istore_n 3, 1) := by decide +kernel
theorem dX10_sureIron_6 : decode cX10_sureIron 6 = .ok (.iload_n 1, 1) := by decide +kernel
theorem dX10_sureIron_7 : decode cX10_sureIron 7 = .ok (.iconst 1, 1) := by decide +kernel
theorem dX10_sureIron_8 : decode cX10_sureIron 8 = .ok (.if_icmp .ne 10, 3) := by decide +kernel
theorem dX10_sureIron_11 : decode cX10_sureIron 11 = .ok (.aload_n 0, 1) := by decide +kernel
theorem dX10_sureIron_12 : decode cX10_sureIron 12 = .ok (.getfield 41, 3) := by decide +kernel
theorem dX10_sureIron_15 : decode cX10_sureIron 15 = .ok (.goto 7, 3) := by decide +kernel
theorem dX10_sureIron_18 : decode cX10_sureIron 18 = .ok (.aload_n 0, 1) := by decide +kernel
theorem dX10_sureIron_19 : decode cX10_sureIron 19 = .ok (.getfield 44, 3) := by decide +kernel
theorem dX10_sureIron_22 : decode cX10_sureIron 22 = .ok (.astore 4, 2) := by decide +kernel
theorem dX10_sureIron_24 : decode cX10_sureIron 24 = .ok (.iload_n 3, 1) := by decide +kernel
theorem dX10_sureIron_25 : decode cX10_sureIron 25 = .ok (.ifCond .ne 5, 3) := by decide +kernel
theorem dX10_sureIron_28 : decode cX10_sureIron 28 = .ok (.iconst (-1), 1) := by decide +kernel
theorem dX10_sureIron_29 : decode cX10_sureIron 29 = .ok (.ireturn, 1) := by decide +kernel
theorem dX10_sureIron_30 : decode cX10_sureIron 30 = .ok (.iconst 0, 1) := by decide +kernel
theorem dX10_sureIron_31 : decode cX10_sureIron 31 = .ok (.istore 5, 2) := by decide +kernel
theorem dX10_sureIron_33 : decode cX10_sureIron 33 = .ok (.iload 5, 2) := by decide +kernel
theorem dX10_sureIron_35 : decode cX10_sureIron 35 = .ok (.bipush 6, 2) := by decide +kernel
theorem dX10_sureIron_37 : decode cX10_sureIron 37 = .ok (.if_icmp .ge 21, 3) := by decide +kernel
theorem dX10_sureIron_40 : decode cX10_sureIron 40 = .ok (.aload 4, 2) := by decide +kernel
theorem dX10_sureIron_42 : decode cX10_sureIron 42 = .ok (.iload 5, 2) := by decide +kernel
theorem dX10_sureIron_44 : decode cX10_sureIron 44 = .ok (.iaload, 1) := by decide +kernel
theorem dX10_sureIron_45 : decode cX10_sureIron 45 = .ok (.iload_n 3, 1) := by decide +kernel
theorem dX10_sureIron_46 : decode cX10_sureIron 46 = .ok (.if_icmp .ne 6, 3) := by decide +kernel
theorem dX10_sureIron_49 : decode cX10_sureIron 49 = .ok (.iload 5, 2) := by decide +kernel
theorem dX10_sureIron_51 : decode cX10_sureIron 51 = .ok (.ireturn, 1) := by decide +kernel
theorem dX10_sureIron_52 : decode cX10_sureIron 52 = .ok (.iinc 5 1, 3) := by decide +kernel
theorem dX10_sureIron_55 : decode cX10_sureIron 55 = .ok (.goto (-22), 3) := by decide +kernel
theorem dX10_sureIron_58 : decode cX10_sureIron 58 = .ok (.bipush (-2), 2) := by decide +kernel
theorem dX10_sureIron_60 : decode cX10_sureIron 60 = .ok (.ireturn, 1) := by decide +kernel
theorem dX10_mostLeft_0 : decode cX10_mostLeft 0 = .ok (.iload_n 1, 1) := by decide +kernel
theorem dX10_mostLeft_1 : decode cX10_mostLeft 1 = .ok (.iconst 1, 1) := by decide +kernel
theorem dX10_mostLeft_2 : decode cX10_mostLeft 2 = .ok (.if_icmp .ne 10, 3) := by decide +kernel
theorem dX10_mostLeft_5 : decode cX10_mostLeft 5 = .ok (.aload_n 0, 1) := by decide +kernel
theorem dX10_mostLeft_6 : decode cX10_mostLeft 6 = .ok (.getfield 41, 3) := by decide +kernel
theorem dX10_mostLeft_9 : decode cX10_mostLeft 9 = .ok (.goto 7, 3) := by decide +kernel
theorem dX10_mostLeft_12 : decode cX10_mostLeft 12 = .ok (.aload_n 0, 1) := by decide +kernel
theorem dX10_mostLeft_13 : decode cX10_mostLeft 13 = .ok (.getfield 44, 3) := by decide +kernel
theorem dX10_mostLeft_16 : decode cX10_mostLeft 16 = .ok (.astore_n 2, 1) := by decide +kernel
theorem dX10_mostLeft_17 : decode cX10_mostLeft 17 = .ok (.iconst 0, 1) := by decide +kernel
theorem dX10_mostLeft_18 : decode cX10_mostLeft 18 = .ok (.istore_n 3, 1) := by decide +kernel
theorem dX10_mostLeft_19 : decode cX10_mostLeft 19 = .ok (.iconst 0, 1) := by decide +kernel
theorem dX10_mostLeft_20 : decode cX10_mostLeft 20 = .ok (.istore 4, 2) := by decide +kernel
theorem dX10_mostLeft_22 : decode cX10_mostLeft 22 = .ok (.iload 4, 2) := by decide +kernel
theorem dX10_mostLeft_24 : decode cX10_mostLeft 24 = .ok (.bipush 6, 2) := by decide +kernel
theorem dX10_mostLeft_26 : decode cX10_mostLeft 26 = .ok (.if_icmp .ge 18, 3) := by decide +kernel
theorem dX10_mostLeft_29 : decode cX10_mostLeft 29 = .ok (.iload_n 3, 1) := by decide +kernel
theorem dX10_mostLeft_30 : decode cX10_mostLeft 30 = .ok (.aload_n 2, 1) := by decide +kernel
theorem dX10_mostLeft_31 : decode cX10_mostLeft 31 = .ok (.iload 4, 2) := by decide +kernel
theorem dX10_mostLeft_33 : decode cX10_mostLeft 33 = .ok (.iaload, 1) := by decide +kernel
theorem dX10_mostLeft_34 : decode cX10_mostLeft 34 = .ok (.invokestatic 101, 3) := by decide +kernel
theorem dX10_mostLeft_37 : decode cX10_mostLeft 37 = .ok (.istore_n 3, 1) := by decide +kernel
theorem dX10_mostLeft_38 : decode cX10_mostLeft 38 = .ok (.iinc 4 1, 3) := by decide +kernel
theorem dX10_mostLeft_41 : decode cX10_mostLeft 41 = .ok (.goto (-19), 3) := by decide +kernel
theorem dX10_mostLeft_44 : decode cX10_mostLeft 44 = .ok (.iload_n 3, 1) := by decide +kernel
theorem dX10_mostLeft_45 : decode cX10_mostLeft 45 = .ok (.ireturn, 1) := by decide +kernel
theorem dX11_init_0 : decode cX11_init 0 = .ok (.aload_n 0, 1) := by decide +kernel
theorem dX11_init_1 : decode cX11_init 1 = .ok (.invokespecial 3, 3) := by decide +kernel
theorem dX11_init_4 : decode cX11_init 4 = .ok (.aload_n 0, 1) := by decide +kernel
theorem dX11_init_5 : decode cX11_init 5 = .ok (.bipush 16, 2) := by decide +kernel
theorem dX11_init_7 : decode cX11_init 7 = .ok (.newarray .int, 2) := by decide +kernel
theorem dX11_init_9 : decode cX11_init 9 = .ok (.putfield 9, 3) := by decide +kernel
theorem dX11_init_12 : decode cX11_init 12 = .ok (.aload_n 0, 1) := by decide +kernel
theorem dX11_init_13 : decode cX11_init 13 = .ok (.iconst 0, 1) := by decide +kernel
theorem dX11_init_14 : decode cX11_init 14 = .ok (.putfield 13, 3) := by decide +kernel
theorem dX11_init_17 : decode cX11_init 17 = .ok (.aload_n 0, 1) := by decide +kernel
theorem dX11_init_18 : decode cX11_init 18 = .ok (.new 17, 3) := by decide +kernel
theorem dX11_init_21 : decode cX11_init 21 = .ok (.dup, 1) := by decide +kernel
theorem dX11_init_22 : decode cX11_init 22 = .ok (.invokespecial 19, 3) := by decide +kernel
theorem dX11_init_25 : decode cX11_init 25 = .ok (.putfield 20, 3) := by decide +kernel
theorem dX11_init_28 : decode cX11_init 28 = .ok (.aload_n 0, 1) := by decide +kernel
theorem dX11_init_29 : decode cX11_init 29 = .ok (.new 24, 3) := by decide +kernel
theorem dX11_init_32 : decode cX11_init 32 = .ok (.dup, 1) := by decide +kernel
theorem dX11_init_33 : decode cX11_init 33 = .ok (.invokespecial 26, 3) := by decide +kernel
theorem dX11_init_36 : decode cX11_init 36 = .ok (.putfield 27, 3) := by decide +kernel
theorem dX11_init_39 : decode cX11_init 39 = .ok (.aload_n 0, 1) := by decide +kernel
theorem dX11_init_40 : decode cX11_init 40 = .ok (.new 24, 3) := by decide +kernel
theorem dX11_init_43 : decode cX11_init 43 = .ok (.dup, 1) := by decide +kernel
theorem dX11_init_44 : decode cX11_init 44 = .ok (.invokespecial 26, 3) := by decide +kernel
theorem dX11_init_47 : decode cX11_init 47 = .ok (.putfield 31, 3) := by decide +kernel
theorem dX11_init_50 : decode cX11_init 50 = .ok (.aload_n 0, 1) := by decide +kernel
theorem dX11_init_51 : decode cX11_init 51 = .ok (.new 34, 3) := by decide +kernel
theorem dX11_init_54 : decode cX11_init 54 = .ok (.dup, 1) := by decide +kernel
theorem dX11_init_55 : decode cX11_init 55 = .ok (.aload_n 0, 1) := by decide +kernel
theorem dX11_init_56 : decode cX11_init 56 = .ok (.getfield 20, 3) := by decide +kernel
theorem dX11_init_59 : decode cX11_init 59 = .ok (.aload_n 0, 1) := by decide +kernel
theorem dX11_init_60 : decode cX11_init 60 = .ok (.getfield 31, 3) := by decide +kernel
theorem dX11_init_63 : decode cX11_init 63 = .ok (.invokespecial 36, 3) := by decide +kernel
theorem dX11_init_66 : decode cX11_init 66 = .ok (.putfield 39, 3) := by decide +kernel
theorem dX11_init_69 : decode cX11_init 69 = .ok (.aload_n 0, 1) := by decide +kernel
theorem dX11_init_70 : decode cX11_init 70 = .ok (.new 43, 3) := by decide +kernel
theorem dX11_init_73 : decode cX11_init 73 = .ok (.dup, 1) := by decide +kernel
theorem dX11_init_74 : decode cX11_init 74 = .ok (.invokespecial 45, 3) := by decide +kernel
theorem dX11_init_77 : decode cX11_init 77 = .ok (.putfield 46, 3) := by decide +kernel
theorem dX11_init_80 : decode cX11_init 80 = .ok (.aload_n 0, 1) := by decide +kernel
theorem dX11_init_81 : decode cX11_init 81 = .ok (.new 50, 3) := by decide +kernel
theorem dX11_init_84 : decode cX11_init 84 = .ok (.dup, 1) := by decide +kernel
theorem dX11_init_85 : decode cX11_init 85 = .ok (.aload_n 0, 1) := by decide +kernel
theorem dX11_init_86 : decode cX11_init 86 = .ok (.getfield 46, 3) := by decide +kernel
theorem dX11_init_89 : decode cX11_init 89 = .ok (.invokespecial 52, 3) := by decide +kernel
theorem dX11_init_92 : decode cX11_init 92 = .ok (.putfield 55, 3) := by decide +kernel
theorem dX11_init_95 : decode cX11_init 95 = .ok (.aload_n 0, 1) := by decide +kernel
theorem dX11_init_96 : decode cX11_init 96 = .ok (.new 59, 3) := by decide +kernel
theorem dX11_init_99 : decode cX11_init 99 = .ok (.dup, 1) := by decide +kernel
theorem dX11_init_100 : decode cX11_init 100 = .ok (.invokespecial 61, 3) := by decide +kernel
theorem dX11_init_103 : decode cX11_init 103 = .ok (.putfield 62, 3) := by decide +kernel
theorem dX11_init_106 : decode cX11_init 106 = .ok (.aload_n 0, 1) := by decide +kernel
theorem dX11_init_107 : decode cX11_init 107 = .ok (.new 66, 3) := by decide +kernel
theorem dX11_init_110 : decode cX11_init 110 = .ok (.dup, 1) := by decide +kernel
theorem dX11_init_111 : decode cX11_init 111 = .ok (.aload_n 0, 1) := by decide +kernel
theorem dX11_init_112 : decode cX11_init 112 = .ok (.getfield 27, 3) := by decide +kernel
theorem dX11_init_115 : decode cX11_init 115 = .ok (.aload_n 0, 1) := by decide +kernel
theorem dX11_init_116 : decode cX11_init 116 = .ok (.getfield 46, 3) := by decide +kernel
theorem dX11_init_119 : decode cX11_init 119 = .ok (.aload_n 0, 1) := by decide +kernel
theorem dX11_init_120 : decode cX11_init 120 = .ok (.getfield 55, 3) := by decide +kernel
theorem dX11_init_123 : decode cX11_init 123 = .ok (.invokespecial 68, 3) := by decide +kernel
theorem dX11_init_126 : decode cX11_init 126 = .ok (.putfield 71, 3) := by decide +kernel
theorem dX11_init_129 : decode cX11_init 129 = .ok (.aload_n 0, 1) := by decide +kernel
theorem dX11_init_130 : decode cX11_init 130 = .ok (.new 75, 3) := by decide +kernel
theorem dX11_init_133 : decode cX11_init 133 = .ok (.dup, 1) := by decide +kernel
theorem dX11_init_134 : decode cX11_init 134 = .ok (.aload_n 0, 1) := by decide +kernel
theorem dX11_init_135 : decode cX11_init 135 = .ok (.getfield 27, 3) := by decide +kernel
theorem dX11_init_138 : decode cX11_init 138 = .ok (.aload_n 0, 1) := by decide +kernel
theorem dX11_init_139 : decode cX11_init 139 = .ok (.getfield 46, 3) := by decide +kernel
theorem dX11_init_142 : decode cX11_init 142 = .ok (.aload_n 0, 1) := by decide +kernel
theorem dX11_init_143 : decode cX11_init 143 = .ok (.getfield 55, 3) := by decide +kernel
theorem dX11_init_146 : decode cX11_init 146 = .ok (.invokespecial 77, 3) := by decide +kernel
theorem dX11_init_149 : decode cX11_init 149 = .ok (.putfield 78, 3) := by decide +kernel
theorem dX11_init_152 : decode cX11_init 152 = .ok (.aload_n 0, 1) := by decide +kernel
theorem dX11_init_153 : decode cX11_init 153 = .ok (.new 82, 3) := by decide +kernel
theorem dX11_init_156 : decode cX11_init 156 = .ok (.dup, 1) := by decide +kernel
theorem dX11_init_157 : decode cX11_init 157 = .ok (.aload_n 0, 1) := by decide +kernel
theorem dX11_init_158 : decode cX11_init 158 = .ok (.getfield 27, 3) := by decide +kernel
theorem dX11_init_161 : decode cX11_init 161 = .ok (.aload_n 0, 1) := by decide +kernel
theorem dX11_init_162 : decode cX11_init 162 = .ok (.getfield 55, 3) := by decide +kernel
theorem dX11_init_165 : decode cX11_init 165 = .ok (.invokespecial 84, 3) := by decide +kernel
theorem dX11_init_168 : decode cX11_init 168 = .ok (.putfield 87, 3) := by decide +kernel
theorem dX11_init_171 : decode cX11_init 171 = .ok (.return_, 1) := by decide +kernel
theorem dX11_feed_0 : decode cX11_feed 0 = .ok (.aload_n 0, 1) := by decide +kernel
theorem dX11_feed_1 : decode cX11_feed 1 = .ok (.getfield 20, 3) := by decide +kernel
theorem dX11_feed_4 : decode cX11_feed 4 = .ok (.invokevirtual 91, 3) := by decide +kernel
theorem dX11_feed_7 : decode cX11_feed 7 = .ok (.bipush 20, 2) := by decide +kernel
theorem dX11_feed_9 : decode cX11_feed 9 = .ok (.iadd, 1) := by decide +kernel
theorem dX11_feed_10 : decode cX11_feed 10 = .ok (.sipush 1600, 3) := by decide +kernel
theorem dX11_feed_13 : decode cX11_feed 13 = .ok (.if_icmp .le 5, 3) := by decide +kernel
theorem dX11_feed_16 : decode cX11_feed 16 = .ok (.iconst (-1), 1) := by decide +kernel
theorem dX11_feed_17 : decode cX11_feed 17 = .ok (.ireturn, 1) := by decide +kernel
theorem dX11_feed_18 : decode cX11_feed 18 = .ok (.aload_n 0, 1) := by decide +kernel
theorem dX11_feed_19 : decode cX11_feed 19 = .ok (.getfield 20, 3) := by decide +kernel
theorem dX11_feed_22 : decode cX11_feed 22 = .ok (.iload_n 1, 1) := by decide +kernel
theorem dX11_feed_23 : decode cX11_feed 23 = .ok (.invokevirtual 95, 3) := by decide +kernel
theorem dX11_feed_26 : decode cX11_feed 26 = .ok (.aload_n 0, 1) := by decide +kernel
theorem dX11_feed_27 : decode cX11_feed 27 = .ok (.getfield 20, 3) := by decide +kernel
theorem dX11_feed_30 : decode cX11_feed 30 = .ok (.iload_n 2, 1) := by decide +kernel
theorem dX11_feed_31 : decode cX11_feed 31 = .ok (.invokevirtual 95, 3) := by decide +kernel
theorem dX11_feed_34 : decode cX11_feed 34 = .ok (.aload_n 0, 1) := by decide +kernel
theorem dX11_feed_35 : decode cX11_feed 35 = .ok (.getfield 20, 3) := by decide +kernel
theorem dX11_feed_38 : decode cX11_feed 38 = .ok (.iload_n 3, 1) := by decide +kernel
theorem dX11_feed_39 : decode cX11_feed 39 = .ok (.invokevirtual 95, 3) := by decide +kernel
theorem dX11_feed_42 : decode cX11_feed 42 = .ok (.aload_n 0, 1) := by decide +kernel
theorem dX11_feed_43 : decode cX11_feed 43 = .ok (.getfield 20, 3) := by decide +kernel
theorem dX11_feed_46 : decode cX11_feed 46 = .ok (.iload 4, 2) := by decide +kernel
theorem dX11_feed_48 : decode cX11_feed 48 = .ok (.invokevirtual 95, 3) := by decide +kernel
theorem dX11_feed_51 : decode cX11_feed 51 = .ok (.aload_n 0, 1) := by decide +kernel
theorem dX11_feed_52 : decode cX11_feed 52 = .ok (.getfield 20, 3) := by decide +kernel
theorem dX11_feed_55 : decode cX11_feed 55 = .ok (.iload 5, 2) := by decide +kernel
theorem dX11_feed_57 : decode cX11_feed 57 = .ok (.invokevirtual 95, 3) := by decide +kernel
theorem dX11_feed_60 : decode cX11_feed 60 = .ok (.aload_n 0, 1) := by decide +kernel
theorem dX11_feed_61 : decode cX11_feed 61 = .ok (.getfield 20, 3) := by decide +kernel
theorem dX11_feed_64 : decode cX11_feed 64 = .ok (.invokevirtual 91, 3) := by decide +kernel
theorem dX11_feed_67 : decode cX11_feed 67 = .ok (.ireturn, 1) := by decide +kernel
theorem dX11_end_0 : decode cX11_end 0 = .ok (.iload_n 1, 1) := by decide +kernel
theorem dX11_end_1 : decode cX11_end 1 = .ok (.ifCond .lt 14, 3) := by decide +kernel
theorem dX11_end_4 : decode cX11_end 4 = .ok (.iload_n 1, 1) := by decide +kernel
theorem dX11_end_5 : decode cX11_end 5 = .ok (.aload_n 0, 1) := by decide +kernel
theorem dX11_end_6 : decode cX11_end 6 = .ok (.getfield 20, 3) := by decide +kernel
theorem dX11_end_9 : decode cX11_end 9 = .ok (.invokevirtual 91, 3) := by decide +kernel
theorem dX11_end_12 : decode cX11_end 12 = .ok (.if_icmp .le 5, 3) := by decide +kernel
theorem dX11_end_15 : decode cX11_end 15 = .ok (.iconst (-1), 1) := by decide +kernel
theorem dX11_end_16 : decode cX11_end 16 = .ok (.ireturn, 1) := by decide +kernel
theorem dX11_end_17 : decode cX11_end 17 = .ok (.aload_n 0, 1) := by decide +kernel
theorem dX11_end_18 : decode cX11_end 18 = .ok (.getfield 20, 3) := by decide +kernel
theorem dX11_end_21 : decode cX11_end 21 = .ok (.iload_n 1, 1) := by decide +kernel
theorem dX11_end_22 : decode cX11_end 22 = .ok (.invokevirtual 99, 3) := by decide +kernel
theorem dX11_end_25 : decode cX11_end 25 = .ok (.iload_n 1, 1) := by decide +kernel
theorem dX11_end_26 : decode cX11_end 26 = .ok (.ireturn, 1) := by decide +kernel
theorem dX11_valley_0 : decode cX11_valley 0 = .ok (.aload_n 0, 1) := by decide +kernel
theorem dX11_valley_1 : decode cX11_valley 1 = .ok (.getfield 39, 3) := by decide +kernel
theorem dX11_valley_4 : decode cX11_valley 4 = .ok (.invokevirtual 102, 3) := by decide +kernel
theorem dX11_valley_7 : decode cX11_valley 7 = .ok (.ifCond .ne 5, 3) := by decide +kernel
theorem dX11_valley_10 : decode cX11_valley 10 = .ok (.iconst (-1), 1) := by decide +kernel
theorem dX11_valley_11 : decode cX11_valley 11 = .ok (.ireturn, 1) := by decide +kernel
theorem dX11_valley_12 : decode cX11_valley 12 = .ok (.aload_n 0, 1) := by decide +kernel
theorem dX11_valley_13 : decode cX11_valley 13 = .ok (.getfield 20, 3) := by decide +kernel
theorem dX11_valley_16 : decode cX11_valley 16 = .ok (.iconst 0, 1) := by decide +kernel
theorem dX11_valley_17 : decode cX11_valley 17 = .ok (.invokevirtual 99, 3) := by decide +kernel
theorem dX11_valley_20 : decode cX11_valley 20 = .ok (.aload_n 0, 1) := by decide +kernel
theorem dX11_valley_21 : decode cX11_valley 21 = .ok (.getfield 27, 3) := by decide +kernel
theorem dX11_valley_24 : decode cX11_valley 24 = .ok (.aload_n 0, 1) := by decide +kernel
theorem dX11_valley_25 : decode cX11_valley 25 = .ok (.getfield 31, 3) := by decide +kernel
theorem dX11_valley_28 : decode cX11_valley 28 = .ok (.invokevirtual 106, 3) := by decide +kernel
theorem dX11_valley_31 : decode cX11_valley 31 = .ok (.aload_n 0, 1) := by decide +kernel
theorem dX11_valley_32 : decode cX11_valley 32 = .ok (.getfield 46, 3) := by decide +kernel
theorem dX11_valley_35 : decode cX11_valley 35 = .ok (.aload_n 0, 1) := by decide +kernel
theorem dX11_valley_36 : decode cX11_valley 36 = .ok (.getfield 27, 3) := by decide +kernel
theorem dX11_valley_39 : decode cX11_valley 39 = .ok (.getfield 110, 3) := by decide +kernel
theorem dX11_valley_42 : decode cX11_valley 42 = .ok (.aload_n 0, 1) := by decide +kernel
theorem dX11_valley_43 : decode cX11_valley 43 = .ok (.getfield 27, 3) := by decide +kernel
theorem dX11_valley_46 : decode cX11_valley 46 = .ok (.getfield 113, 3) := by decide +kernel
theorem dX11_valley_49 : decode cX11_valley 49 = .ok (.invokevirtual 117, 3) := by decide +kernel
theorem dX11_valley_52 : decode cX11_valley 52 = .ok (.aload_n 0, 1) := by decide +kernel
theorem dX11_valley_53 : decode cX11_valley 53 = .ok (.getfield 55, 3) := by decide +kernel
theorem dX11_valley_56 : decode cX11_valley 56 = .ok (.aload_n 0, 1) := by decide +kernel
theorem dX11_valley_57 : decode cX11_valley 57 = .ok (.getfield 27, 3) := by decide +kernel
theorem dX11_valley_60 : decode cX11_valley 60 = .ok (.invokevirtual 121, 3) := by decide +kernel
theorem dX11_valley_63 : decode cX11_valley 63 = .ok (.aload_n 0, 1) := by decide +kernel
theorem dX11_valley_64 : decode cX11_valley 64 = .ok (.getfield 71, 3) := by decide +kernel
theorem dX11_valley_67 : decode cX11_valley 67 = .ok (.invokevirtual 124, 3) := by decide +kernel
theorem dX11_valley_70 : decode cX11_valley 70 = .ok (.aload_n 0, 1) := by decide +kernel
theorem dX11_valley_71 : decode cX11_valley 71 = .ok (.getfield 62, 3) := by decide +kernel
theorem dX11_valley_74 : decode cX11_valley 74 = .ok (.aload_n 0, 1) := by decide +kernel
theorem dX11_valley_75 : decode cX11_valley 75 = .ok (.getfield 27, 3) := by decide +kernel
theorem dX11_valley_78 : decode cX11_valley 78 = .ok (.invokevirtual 127, 3) := by decide +kernel
theorem dX11_valley_81 : decode cX11_valley 81 = .ok (.aload_n 0, 1) := by decide +kernel
theorem dX11_valley_82 : decode cX11_valley 82 = .ok (.getfield 87, 3) := by decide +kernel
theorem dX11_valley_85 : decode cX11_valley 85 = .ok (.invokevirtual 130, 3) := by decide +kernel
theorem dX11_valley_88 : decode cX11_valley 88 = .ok (.aload_n 0, 1) := by decide +kernel
theorem dX11_valley_89 : decode cX11_valley 89 = .ok (.iconst 0, 1) := by decide +kernel
theorem dX11_valley_90 : decode cX11_valley 90 = .ok (.putfield 13, 3) := by decide +kernel
theorem dX11_valley_93 : decode cX11_valley 93 = .ok (.aload_n 0, 1) := by decide +kernel
theorem dX11_valley_94 : decode cX11_valley 94 = .ok (.getfield 27, 3) := by decide +kernel
theorem dX11_valley_97 : decode cX11_valley 97 = .ok (.getfield 133, 3) := by decide +kernel
theorem dX11_valley_100 : decode cX11_valley 100 = .ok (.ireturn, 1) := by decide +kernel
theorem dX11_fault_0 : decode cX11_fault 0 = .ok (.iload_n 1, 1) := by decide +kernel
theorem dX11_fault_1 : decode cX11_fault 1 = .ok (.ifCond .ne 11, 3) := by decide +kernel
theorem dX11_fault_4 : decode cX11_fault 4 = .ok (.aload_n 0, 1) := by decide +kernel
theorem dX11_fault_5 : decode cX11_fault 5 = .ok (.getfield 20, 3) := by decide +kernel
theorem dX11_fault_8 : decode cX11_fault 8 = .ok (.invokevirtual 136, 3) := by decide +kernel
theorem dX11_fault_11 : decode cX11_fault 11 = .ok (.ireturn, 1) := by decide +kernel
theorem dX11_fault_12 : decode cX11_fault 12 = .ok (.iload_n 1, 1) := by decide +kernel
theorem dX11_fault_13 : decode cX11_fault 13 = .ok (.iconst 1, 1) := by decide +kernel
theorem dX11_fault_14 : decode cX11_fault 14 = .ok (.if_icmp .ne 13, 3) := by decide +kernel
theorem dX11_fault_17 : decode cX11_fault 17 = .ok (.aload_n 0, 1) := by decide +kernel
theorem dX11_fault_18 : decode cX11_fault 18 = .ok (.getfield 20, 3) := by decide +kernel
theorem dX11_fault_21 : decode cX11_fault 21 = .ok (.invokevirtual 139, 3) := by decide +kernel
theorem dX11_fault_24 : decode cX11_fault 24 = .ok (.goto 4, 3) := by decide +kernel
theorem dX11_fault_27 : decode cX11_fault 27 = .ok (.iconst (-1), 1) := by decide +kernel
theorem dX11_fault_28 : decode cX11_fault 28 = .ok (.ireturn, 1) := by decide +kernel
theorem dX11_brand_0 : decode cX11_brand 0 = .ok (.aload_n 0, 1) := by decide +kernel
theorem dX11_brand_1 : decode cX11_brand 1 = .ok (.iload_n 1, 1) := by decide +kernel
theorem dX11_brand_2 : decode cX11_brand 2 = .ok (.invokevirtual 142, 3) := by decide +kernel
theorem dX11_brand_5 : decode cX11_brand 5 = .ok (.ifCond .eq 15, 3) := by decide +kernel
theorem dX11_brand_8 : decode cX11_brand 8 = .ok (.aload_n 0, 1) := by decide +kernel
theorem dX11_brand_9 : decode cX11_brand 9 = .ok (.getfield 27, 3) := by decide +kernel
theorem dX11_brand_12 : decode cX11_brand 12 = .ok (.getfield 146, 3) := by decide +kernel
theorem dX11_brand_15 : decode cX11_brand 15 = .ok (.iload_n 1, 1) := by decide +kernel
theorem dX11_brand_16 : decode cX11_brand 16 = .ok (.iaload, 1) := by decide +kernel
theorem dX11_brand_17 : decode cX11_brand 17 = .ok (.goto 4, 3) := by decide +kernel
theorem dX11_brand_20 : decode cX11_brand 20 = .ok (.iconst (-1), 1) := by decide +kernel
theorem dX11_brand_21 : decode cX11_brand 21 = .ok (.ireturn, 1) := by decide +kernel
theorem dX11_iron_0 : decode cX11_iron 0 = .ok (.aload_n 0, 1) := by decide +kernel
theorem dX11_iron_1 : decode cX11_iron 1 = .ok (.iload_n 1, 1) := by decide +kernel
theorem dX11_iron_2 : decode cX11_iron 2 = .ok (.invokevirtual 149, 3) := by decide +kernel
theorem dX11_iron_5 : decode cX11_iron 5 = .ok (.ifCond .eq 15, 3) := by decide +kernel
theorem dX11_iron_8 : decode cX11_iron 8 = .ok (.aload_n 0, 1) := by decide +kernel
theorem dX11_iron_9 : decode cX11_iron 9 = .ok (.getfield 27, 3) := by decide +kernel
theorem dX11_iron_12 : decode cX11_iron 12 = .ok (.getfield 152, 3) := by decide +kernel
theorem dX11_iron_15 : decode cX11_iron 15 = .ok (.iload_n 1, 1) := by decide +kernel
theorem dX11_iron_16 : decode cX11_iron 16 = .ok (.iaload, 1) := by decide +kernel
theorem dX11_iron_17 : decode cX11_iron 17 = .ok (.goto 4, 3) := by decide +kernel
theorem dX11_iron_20 : decode cX11_iron 20 = .ok (.iconst (-1), 1) := by decide +kernel
theorem dX11_iron_21 : decode cX11_iron 21 = .ok (.ireturn, 1) := by decide +kernel
theorem dX11_beast_0 : decode cX11_beast 0 = .ok (.aload_n 0, 1) := by decide +kernel
theorem dX11_beast_1 : decode cX11_beast 1 = .ok (.iload_n 1, 1) := by decide +kernel
theorem dX11_beast_2 : decode cX11_beast 2 = .ok (.invokevirtual 155, 3) := by decide +kernel
theorem dX11_beast_5 : decode cX11_beast 5 = .ok (.ifCond .ne 5, 3) := by decide +kernel
theorem dX11_beast_8 : decode cX11_beast 8 = .ok (.iconst (-1), 1) := by decide +kernel
theorem dX11_beast_9 : decode cX11_beast 9 = .ok (.ireturn, 1) := by decide +kernel
theorem dX11_beast_10 : decode cX11_beast 10 = .ok (.aload_n 0, 1) := by decide +kernel
theorem dX11_beast_11 : decode cX11_beast 11 = .ok (.getfield 62, 3) := by decide +kernel
theorem dX11_beast_14 : decode cX11_beast 14 = .ok (.invokevirtual 158, 3) := by decide +kernel
theorem dX11_beast_17 : decode cX11_beast 17 = .ok (.astore_n 3, 1) := by decide +kernel
theorem dX11_beast_18 : decode cX11_beast 18 = .ok (.iload_n 2, 1) := by decide +kernel
theorem dX11_beast_19 : decode cX11_beast 19 = .ok (.tableswitch 92 0 5 #[37, 44, 55, 62, 72, 82], 37) := by decide +kernel
theorem dX11_beast_56 : decode cX11_beast 56 = .ok (.aload_n 3, 1) := by decide +kernel
theorem dX11_beast_57 : decode cX11_beast 57 = .ok (.getfield 162, 3) := by decide +kernel
theorem dX11_beast_60 : decode cX11_beast 60 = .ok (.iload_n 1, 1) := by decide +kernel
theorem dX11_beast_61 : decode cX11_beast 61 = .ok (.iaload, 1) := by decide +kernel
theorem dX11_beast_62 : decode cX11_beast 62 = .ok (.ireturn, 1) := by decide +kernel
theorem dX11_beast_63 : decode cX11_beast 63 = .ok (.aload_n 0, 1) := by decide +kernel
theorem dX11_beast_64 : decode cX11_beast 64 = .ok (.getfield 78, 3) := by decide +kernel
theorem dX11_beast_67 : decode cX11_beast 67 = .ok (.aload_n 3, 1) := by decide +kernel
theorem dX11_beast_68 : decode cX11_beast 68 = .ok (.iload_n 1, 1) := by decide +kernel
theorem dX11_beast_69 : decode cX11_beast 69 = .ok (.iconst 0, 1) := by decide +kernel
theorem dX11_beast_70 : decode cX11_beast 70 = .ok (.invokevirtual 167, 3) := by decide +kernel
theorem dX11_beast_73 : decode cX11_beast 73 = .ok (.ireturn, 1) := by decide +kernel
theorem dX11_beast_74 : decode cX11_beast 74 = .ok (.aload_n 3, 1) := by decide +kernel
theorem dX11_beast_75 : decode cX11_beast 75 = .ok (.getfield 171, 3) := by decide +kernel
theorem dX11_beast_78 : decode cX11_beast 78 = .ok (.iload_n 1, 1) := by decide +kernel
theorem dX11_beast_79 : decode cX11_beast 79 = .ok (.iaload, 1) := by decide +kernel
theorem dX11_beast_80 : decode cX11_beast 80 = .ok (.ireturn, 1) := by decide +kernel
theorem dX11_beast_81 : decode cX11_beast 81 = .ok (.aload_n 0, 1) := by decide +kernel
theorem dX11_beast_82 : decode cX11_beast 82 = .ok (.getfield 27, 3) := by decide +kernel
theorem dX11_beast_85 : decode cX11_beast 85 = .ok (.getfield 174, 3) := by decide +kernel
theorem dX11_beast_88 : decode cX11_beast 88 = .ok (.iload_n 1, 1) := by decide +kernel
theorem dX11_beast_89 : decode cX11_beast 89 = .ok (.iaload, 1) := by decide +kernel
theorem dX11_beast_90 : decode cX11_beast 90 = .ok (.ireturn, 1) := by decide +kernel
theorem dX11_beast_91 : decode cX11_beast 91 = .ok (.aload_n 0, 1) := by decide +kernel
theorem dX11_beast_92 : decode cX11_beast 92 = .ok (.getfield 27, 3) := by decide +kernel
theorem dX11_beast_95 : decode cX11_beast 95 = .ok (.getfield 177, 3) := by decide +kernel
theorem dX11_beast_98 : decode cX11_beast 98 = .ok (.iload_n 1, 1) := by decide +kernel
theorem dX11_beast_99 : decode cX11_beast 99 = .ok (.iaload, 1) := by decide +kernel
theorem dX11_beast_100 : decode cX11_beast 100 = .ok (.ireturn, 1) := by decide +kernel
theorem dX11_beast_101 : decode cX11_beast 101 = .ok (.aload_n 3, 1) := by decide +kernel
theorem dX11_beast_102 : decode cX11_beast 102 = .ok (.getfield 162, 3) := by decide +kernel
theorem dX11_beast_105 : decode cX11_beast 105 = .ok (.iload_n 1, 1) := by decide +kernel
theorem dX11_beast_106 : decode cX11_beast 106 = .ok (.iaload, 1) := by decide +kernel
theorem dX11_beast_107 : decode cX11_beast 107 = .ok (.invokestatic 180, 3) := by decide +kernel
theorem dX11_beast_110 : decode cX11_beast 110 = .ok (.ireturn, 1) := by decide +kernel
theorem dX11_beast_111 : decode cX11_beast 111 = .ok (.iconst (-1), 1) := by decide +kernel
theorem dX11_beast_112 : decode cX11_beast 112 = .ok (.ireturn, 1) := by decide +kernel
theorem dX11_age_0 : decode cX11_age 0 = .ok (.aload_n 0, 1) := by decide +kernel
theorem dX11_age_1 : decode cX11_age 1 = .ok (.iload_n 1, 1) := by decide +kernel
theorem dX11_age_2 : decode cX11_age 2 = .ok (.invokevirtual 155, 3) := by decide +kernel
theorem dX11_age_5 : decode cX11_age 5 = .ok (.ifCond .eq 10, 3) := by decide +kernel
theorem dX11_age_8 : decode cX11_age 8 = .ok (.iload_n 2, 1) := by decide +kernel
theorem dX11_age_9 : decode cX11_age 9 = .ok (.invokestatic 186, 3) := by decide +kernel
theorem dX11_age_12 : decode cX11_age 12 = .ok (.ifCond .ne 5, 3) := by decide +kernel
theorem dX11_age_15 : decode cX11_age 15 = .ok (.iconst (-1), 1) := by decide +kernel
theorem dX11_age_16 : decode cX11_age 16 = .ok (.ireturn, 1) := by decide +kernel
theorem dX11_age_17 : decode cX11_age 17 = .ok (.aload_n 0, 1) := by decide +kernel
theorem dX11_age_18 : decode cX11_age 18 = .ok (.getfield 62, 3) := by decide +kernel
theorem dX11_age_21 : decode cX11_age 21 = .ok (.invokevirtual 158, 3) := by decide +kernel
theorem dX11_age_24 : decode cX11_age 24 = .ok (.iload_n 1, 1) := by decide +kernel
theorem dX11_age_25 : decode cX11_age 25 = .ok (.iload_n 2, 1) := by decide +kernel
theorem dX11_age_26 : decode cX11_age 26 = .ok (.invokevirtual 189, 3) := by decide +kernel
theorem dX11_age_29 : decode cX11_age 29 = .ok (.ireturn, 1) := by decide +kernel
theorem dX11_placed_0 : decode cX11_placed 0 = .ok (.iload_n 1, 1) := by decide +kernel
theorem dX11_placed_1 : decode cX11_placed 1 = .ok (.invokestatic 193, 3) := by decide +kernel
theorem dX11_placed_4 : decode cX11_placed 4 = .ok (.ifCond .eq 11, 3) := by decide +kernel
theorem dX11_placed_7 : decode cX11_placed 7 = .ok (.aload_n 0, 1) := by decide +kernel
theorem dX11_placed_8 : decode cX11_placed 8 = .ok (.iload_n 2, 1) := by decide +kernel
theorem dX11_placed_9 : decode cX11_placed 9 = .ok (.invokevirtual 196, 3) := by decide +kernel
theorem dX11_placed_12 : decode cX11_placed 12 = .ok (.ifCond .ne 5, 3) := by decide +kernel
theorem dX11_placed_15 : decode cX11_placed 15 = .ok (.iconst (-1), 1) := by decide +kernel
theorem dX11_placed_16 : decode cX11_placed 16 = .ok (.ireturn, 1) := by decide +kernel
theorem dX11_placed_17 : decode cX11_placed 17 = .ok (.aload_n 0, 1) := by decide +kernel
theorem dX11_placed_18 : decode cX11_placed 18 = .ok (.getfield 46, 3) := by decide +kernel
theorem dX11_placed_21 : decode cX11_placed 21 = .ok (.iload_n 1, 1) := by decide +kernel
theorem dX11_placed_22 : decode cX11_placed 22 = .ok (.iload_n 2, 1) := by decide +kernel
theorem dX11_placed_23 : decode cX11_placed 23 = .ok (.invokevirtual 199, 3) := by decide +kernel
theorem dX11_placed_26 : decode cX11_placed 26 = .ok (.ireturn, 1) := by decide +kernel
theorem dX11_under_0 : decode cX11_under 0 = .ok (.iload_n 1, 1) := by decide +kernel
theorem dX11_under_1 : decode cX11_under 1 = .ok (.invokestatic 193, 3) := by decide +kernel
theorem dX11_under_4 : decode cX11_under 4 = .ok (.ifCond .eq 10, 3) := by decide +kernel
theorem dX11_under_7 : decode cX11_under 7 = .ok (.iload_n 2, 1) := by decide +kernel
theorem dX11_under_8 : decode cX11_under 8 = .ok (.invokestatic 193, 3) := by decide +kernel
theorem dX11_under_11 : decode cX11_under 11 = .ok (.ifCond .ne 5, 3) := by decide +kernel
theorem dX11_under_14 : decode cX11_under 14 = .ok (.iconst (-1), 1) := by decide +kernel
theorem dX11_under_15 : decode cX11_under 15 = .ok (.ireturn, 1) := by decide +kernel
theorem dX11_under_16 : decode cX11_under 16 = .ok (.aload_n 0, 1) := by decide +kernel
theorem dX11_under_17 : decode cX11_under 17 = .ok (.getfield 46, 3) := by decide +kernel
theorem dX11_under_20 : decode cX11_under 20 = .ok (.iload_n 1, 1) := by decide +kernel
theorem dX11_under_21 : decode cX11_under 21 = .ok (.iload_n 2, 1) := by decide +kernel
theorem dX11_under_22 : decode cX11_under 22 = .ok (.invokevirtual 202, 3) := by decide +kernel
theorem dX11_under_25 : decode cX11_under 25 = .ok (.ifCond .eq 7, 3) := by decide +kernel
theorem dX11_under_28 : decode cX11_under 28 = .ok (.iconst 1, 1) := by decide +kernel
theorem dX11_under_29 : decode cX11_under 29 = .ok (.goto 4, 3) := by decide +kernel
theorem dX11_under_32 : decode cX11_under 32 = .ok (.iconst 0, 1) := by decide +kernel
theorem dX11_under_33 : decode cX11_under 33 = .ok (.ireturn, 1) := by decide +kernel
theorem dX11_season_0 : decode cX11_season 0 = .ok (.aload_n 0, 1) := by decide +kernel
theorem dX11_season_1 : decode cX11_season 1 = .ok (.getfield 62, 3) := by decide +kernel
theorem dX11_season_4 : decode cX11_season 4 = .ok (.invokevirtual 158, 3) := by decide +kernel
theorem dX11_season_7 : decode cX11_season 7 = .ok (.getfield 206, 3) := by decide +kernel
theorem dX11_season_10 : decode cX11_season 10 = .ok (.sipush 999, 3) := by decide +kernel
theorem dX11_season_13 : decode cX11_season 13 = .ok (.if_icmp .lt 5, 3) := by decide +kernel
theorem dX11_season_16 : decode cX11_season 16 = .ok (.iconst (-1), 1) := by decide +kernel
theorem dX11_season_17 : decode cX11_season 17 = .ok (.ireturn, 1) := by decide +kernel
theorem dX11_season_18 : decode cX11_season 18 = .ok (.aload_n 0, 1) := by decide +kernel
theorem dX11_season_19 : decode cX11_season 19 = .ok (.getfield 62, 3) := by decide +kernel
theorem dX11_season_22 : decode cX11_season 22 = .ok (.invokevirtual 209, 3) := by decide +kernel
theorem dX11_season_25 : decode cX11_season 25 = .ok (.astore_n 1, 1) := by decide +kernel
theorem dX11_season_26 : decode cX11_season 26 = .ok (.aload_n 1, 1) := by decide +kernel
theorem dX11_season_27 : decode cX11_season 27 = .ok (.invokevirtual 212, 3) := by decide +kernel
theorem dX11_season_30 : decode cX11_season 30 = .ok (.aload_n 1, 1) := by decide +kernel
theorem dX11_season_31 : decode cX11_season 31 = .ok (.aload_n 0, 1) := by decide +kernel
theorem dX11_season_32 : decode cX11_season 32 = .ok (.getfield 27, 3) := by decide +kernel
theorem dX11_season_35 : decode cX11_season 35 = .ok (.invokevirtual 215, 3) := by decide +kernel
theorem dX11_season_38 : decode cX11_season 38 = .ok (.ireturn, 1) := by decide +kernel
theorem dX11_burn_0 : decode cX11_burn 0 = .ok (.aload_n 0, 1) := by decide +kernel
theorem dX11_burn_1 : decode cX11_burn 1 = .ok (.iload_n 1, 1) := by decide +kernel
theorem dX11_burn_2 : decode cX11_burn 2 = .ok (.invokevirtual 155, 3) := by decide +kernel
theorem dX11_burn_5 : decode cX11_burn 5 = .ok (.ifCond .eq 19, 3) := by decide +kernel
theorem dX11_burn_8 : decode cX11_burn 8 = .ok (.aload_n 0, 1) := by decide +kernel
theorem dX11_burn_9 : decode cX11_burn 9 = .ok (.iload_n 2, 1) := by decide +kernel
theorem dX11_burn_10 : decode cX11_burn 10 = .ok (.invokevirtual 149, 3) := by decide +kernel
theorem dX11_burn_13 : decode cX11_burn 13 = .ok (.ifCond .eq 11, 3) := by decide +kernel
theorem dX11_burn_16 : decode cX11_burn 16 = .ok (.aload_n 0, 1) := by decide +kernel
theorem dX11_burn_17 : decode cX11_burn 17 = .ok (.iload_n 3, 1) := by decide +kernel
theorem dX11_burn_18 : decode cX11_burn 18 = .ok (.invokevirtual 196, 3) := by decide +kernel
theorem dX11_burn_21 : decode cX11_burn 21 = .ok (.ifCond .ne 5, 3) := by decide +kernel
theorem dX11_burn_24 : decode cX11_burn 24 = .ok (.iconst (-1), 1) := by decide +kernel
theorem dX11_burn_25 : decode cX11_burn 25 = .ok (.ireturn, 1) := by decide +kernel
theorem dX11_burn_26 : decode cX11_burn 26 = .ok (.aload_n 0, 1) := by decide +kernel
theorem dX11_burn_27 : decode cX11_burn 27 = .ok (.getfield 62, 3) := by decide +kernel
theorem dX11_burn_30 : decode cX11_burn 30 = .ok (.invokevirtual 209, 3) := by decide +kernel
theorem dX11_burn_33 : decode cX11_burn 33 = .ok (.iload_n 1, 1) := by decide +kernel
theorem dX11_burn_34 : decode cX11_burn 34 = .ok (.aload_n 0, 1) := by decide +kernel
theorem dX11_burn_35 : decode cX11_burn 35 = .ok (.getfield 55, 3) := by decide +kernel
theorem dX11_burn_38 : decode cX11_burn 38 = .ok (.iload_n 2, 1) := by decide +kernel
theorem dX11_burn_39 : decode cX11_burn 39 = .ok (.iload_n 3, 1) := by decide +kernel
theorem dX11_burn_40 : decode cX11_burn 40 = .ok (.invokevirtual 219, 3) := by decide +kernel
theorem dX11_burn_43 : decode cX11_burn 43 = .ok (.invokevirtual 222, 3) := by decide +kernel
theorem dX11_burn_46 : decode cX11_burn 46 = .ok (.ireturn, 1) := by decide +kernel
theorem dX11_sell_0 : decode cX11_sell 0 = .ok (.aload_n 0, 1) := by decide +kernel
theorem dX11_sell_1 : decode cX11_sell 1 = .ok (.iload_n 1, 1) := by decide +kernel
theorem dX11_sell_2 : decode cX11_sell 2 = .ok (.invokevirtual 155, 3) := by decide +kernel
theorem dX11_sell_5 : decode cX11_sell 5 = .ok (.ifCond .eq 27, 3) := by decide +kernel
theorem dX11_sell_8 : decode cX11_sell 8 = .ok (.aload_n 0, 1) := by decide +kernel
theorem dX11_sell_9 : decode cX11_sell 9 = .ok (.iload_n 2, 1) := by decide +kernel
theorem dX11_sell_10 : decode cX11_sell 10 = .ok (.invokevirtual 142, 3) := by decide +kernel
theorem dX11_sell_13 : decode cX11_sell 13 = .ok (.ifCond .eq 19, 3) := by decide +kernel
theorem dX11_sell_16 : decode cX11_sell 16 = .ok (.aload_n 0, 1) := by decide +kernel
theorem dX11_sell_17 : decode cX11_sell 17 = .ok (.getfield 62, 3) := by decide +kernel
theorem dX11_sell_20 : decode cX11_sell 20 = .ok (.invokevirtual 158, 3) := by decide +kernel
theorem dX11_sell_23 : decode cX11_sell 23 = .ok (.getfield 171, 3) := by decide +kernel
theorem dX11_sell_26 : decode cX11_sell 26 = .ok (.iload_n 1, 1) := by decide +kernel
theorem dX11_sell_27 : decode cX11_sell 27 = .ok (.iaload, 1) := by decide +kernel
theorem dX11_sell_28 : decode cX11_sell 28 = .ok (.iload_n 2, 1) := by decide +kernel
theorem dX11_sell_29 : decode cX11_sell 29 = .ok (.if_icmp .ne 5, 3) := by decide +kernel
theorem dX11_sell_32 : decode cX11_sell 32 = .ok (.iconst (-1), 1) := by decide +kernel
theorem dX11_sell_33 : decode cX11_sell 33 = .ok (.ireturn, 1) := by decide +kernel
theorem dX11_sell_34 : decode cX11_sell 34 = .ok (.aload_n 0, 1) := by decide +kernel
theorem dX11_sell_35 : decode cX11_sell 35 = .ok (.getfield 62, 3) := by decide +kernel
theorem dX11_sell_38 : decode cX11_sell 38 = .ok (.invokevirtual 209, 3) := by decide +kernel
theorem dX11_sell_41 : decode cX11_sell 41 = .ok (.astore_n 3, 1) := by decide +kernel
theorem dX11_sell_42 : decode cX11_sell 42 = .ok (.aload_n 3, 1) := by decide +kernel
theorem dX11_sell_43 : decode cX11_sell 43 = .ok (.getfield 171, 3) := by decide +kernel
theorem dX11_sell_46 : decode cX11_sell 46 = .ok (.iload_n 1, 1) := by decide +kernel
theorem dX11_sell_47 : decode cX11_sell 47 = .ok (.iaload, 1) := by decide +kernel
theorem dX11_sell_48 : decode cX11_sell 48 = .ok (.istore 4, 2) := by decide +kernel
theorem dX11_sell_50 : decode cX11_sell 50 = .ok (.aload_n 3, 1) := by decide +kernel
theorem dX11_sell_51 : decode cX11_sell 51 = .ok (.getfield 171, 3) := by decide +kernel
theorem dX11_sell_54 : decode cX11_sell 54 = .ok (.iload_n 1, 1) := by decide +kernel
theorem dX11_sell_55 : decode cX11_sell 55 = .ok (.iload_n 2, 1) := by decide +kernel
theorem dX11_sell_56 : decode cX11_sell 56 = .ok (.iastore, 1) := by decide +kernel
theorem dX11_sell_57 : decode cX11_sell 57 = .ok (.iload 4, 2) := by decide +kernel
theorem dX11_sell_59 : decode cX11_sell 59 = .ok (.ireturn, 1) := by decide +kernel
theorem dX11_clean_0 : decode cX11_clean 0 = .ok (.aload_n 0, 1) := by decide +kernel
theorem dX11_clean_1 : decode cX11_clean 1 = .ok (.iload_n 1, 1) := by decide +kernel
theorem dX11_clean_2 : decode cX11_clean 2 = .ok (.invokevirtual 155, 3) := by decide +kernel
theorem dX11_clean_5 : decode cX11_clean 5 = .ok (.ifCond .ne 5, 3) := by decide +kernel
theorem dX11_clean_8 : decode cX11_clean 8 = .ok (.iconst (-1), 1) := by decide +kernel
theorem dX11_clean_9 : decode cX11_clean 9 = .ok (.ireturn, 1) := by decide +kernel
theorem dX11_clean_10 : decode cX11_clean 10 = .ok (.aload_n 0, 1) := by decide +kernel
