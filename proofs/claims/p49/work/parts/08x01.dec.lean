theorem dX1_herdsAbove_62 : decode cX1_herdsAbove 62 = .ok (.ior, 1) := by decide +kernel
theorem dX1_herdsAbove_63 : decode cX1_herdsAbove 63 = .ok (.istore_n 2, 1) := by decide +kernel
theorem dX1_herdsAbove_64 : decode cX1_herdsAbove 64 = .ok (.iinc 3 1, 3) := by decide +kernel
theorem dX1_herdsAbove_67 : decode cX1_herdsAbove 67 = .ok (.goto (-63), 3) := by decide +kernel
theorem dX1_herdsAbove_70 : decode cX1_herdsAbove 70 = .ok (.iload_n 2, 1) := by decide +kernel
theorem dX1_herdsAbove_71 : decode cX1_herdsAbove 71 = .ok (.ireturn, 1) := by decide +kernel
theorem dX1_allHerds_0 : decode cX1_allHerds 0 = .ok (.iconst 1, 1) := by decide +kernel
theorem dX1_allHerds_1 : decode cX1_allHerds 1 = .ok (.aload_n 0, 1) := by decide +kernel
theorem dX1_allHerds_2 : decode cX1_allHerds 2 = .ok (.getfield 28, 3) := by decide +kernel
theorem dX1_allHerds_5 : decode cX1_allHerds 5 = .ok (.getfield 40, 3) := by decide +kernel
theorem dX1_allHerds_8 : decode cX1_allHerds 8 = .ok (.ishl, 1) := by decide +kernel
theorem dX1_allHerds_9 : decode cX1_allHerds 9 = .ok (.iconst 1, 1) := by decide +kernel
theorem dX1_allHerds_10 : decode cX1_allHerds 10 = .ok (.isub, 1) := by decide +kernel
theorem dX1_allHerds_11 : decode cX1_allHerds 11 = .ok (.ireturn, 1) := by decide +kernel
theorem dX1_bottomHerds_0 : decode cX1_bottomHerds 0 = .ok (.aload_n 0, 1) := by decide +kernel
theorem dX1_bottomHerds_1 : decode cX1_bottomHerds 1 = .ok (.invokevirtual 69, 3) := by decide +kernel
theorem dX1_bottomHerds_4 : decode cX1_bottomHerds 4 = .ok (.istore_n 1, 1) := by decide +kernel
theorem dX1_bottomHerds_5 : decode cX1_bottomHerds 5 = .ok (.iconst 0, 1) := by decide +kernel
theorem dX1_bottomHerds_6 : decode cX1_bottomHerds 6 = .ok (.istore_n 2, 1) := by decide +kernel
theorem dX1_bottomHerds_7 : decode cX1_bottomHerds 7 = .ok (.iload_n 2, 1) := by decide +kernel
theorem dX1_bottomHerds_8 : decode cX1_bottomHerds 8 = .ok (.aload_n 0, 1) := by decide +kernel
theorem dX1_bottomHerds_9 : decode cX1_bottomHerds 9 = .ok (.getfield 28, 3) := by decide +kernel
theorem dX1_bottomHerds_12 : decode cX1_bottomHerds 12 = .ok (.getfield 40, 3) := by decide +kernel
theorem dX1_bottomHerds_15 : decode cX1_bottomHerds 15 = .ok (.if_icmp .ge 20, 3) := by decide +kernel
theorem dX1_bottomHerds_18 : decode cX1_bottomHerds 18 = .ok (.iload_n 1, 1) := by decide +kernel
theorem dX1_bottomHerds_19 : decode cX1_bottomHerds 19 = .ok (.aload_n 0, 1) := by decide +kernel
theorem dX1_bottomHerds_20 : decode cX1_bottomHerds 20 = .ok (.getfield 15, 3) := by decide +kernel
theorem dX1_bottomHerds_23 : decode cX1_bottomHerds 23 = .ok (.iload_n 2, 1) := by decide +kernel
theorem dX1_bottomHerds_24 : decode cX1_bottomHerds 24 = .ok (.iaload, 1) := by decide +kernel
theorem dX1_bottomHerds_25 : decode cX1_bottomHerds 25 = .ok (.iconst (-1), 1) := by decide +kernel
theorem dX1_bottomHerds_26 : decode cX1_bottomHerds 26 = .ok (.ixor, 1) := by decide +kernel
theorem dX1_bottomHerds_27 : decode cX1_bottomHerds 27 = .ok (.iand, 1) := by decide +kernel
theorem dX1_bottomHerds_28 : decode cX1_bottomHerds 28 = .ok (.istore_n 1, 1) := by decide +kernel
theorem dX1_bottomHerds_29 : decode cX1_bottomHerds 29 = .ok (.iinc 2 1, 3) := by decide +kernel
theorem dX1_bottomHerds_32 : decode cX1_bottomHerds 32 = .ok (.goto (-25), 3) := by decide +kernel
theorem dX1_bottomHerds_35 : decode cX1_bottomHerds 35 = .ok (.iload_n 1, 1) := by decide +kernel
theorem dX1_bottomHerds_36 : decode cX1_bottomHerds 36 = .ok (.ireturn, 1) := by decide +kernel
theorem dX1_topHerds_0 : decode cX1_topHerds 0 = .ok (.iconst 0, 1) := by decide +kernel
theorem dX1_topHerds_1 : decode cX1_topHerds 1 = .ok (.istore_n 1, 1) := by decide +kernel
theorem dX1_topHerds_2 : decode cX1_topHerds 2 = .ok (.iconst 0, 1) := by decide +kernel
theorem dX1_topHerds_3 : decode cX1_topHerds 3 = .ok (.istore_n 2, 1) := by decide +kernel
theorem dX1_topHerds_4 : decode cX1_topHerds 4 = .ok (.iload_n 2, 1) := by decide +kernel
theorem dX1_topHerds_5 : decode cX1_topHerds 5 = .ok (.aload_n 0, 1) := by decide +kernel
theorem dX1_topHerds_6 : decode cX1_topHerds 6 = .ok (.getfield 28, 3) := by decide +kernel
theorem dX1_topHerds_9 : decode cX1_topHerds 9 = .ok (.getfield 40, 3) := by decide +kernel
theorem dX1_topHerds_12 : decode cX1_topHerds 12 = .ok (.if_icmp .ge 28, 3) := by decide +kernel
theorem dX1_topHerds_15 : decode cX1_topHerds 15 = .ok (.iload_n 1, 1) := by decide +kernel
theorem dX1_topHerds_16 : decode cX1_topHerds 16 = .ok (.aload_n 0, 1) := by decide +kernel
theorem dX1_topHerds_17 : decode cX1_topHerds 17 = .ok (.getfield 15, 3) := by decide +kernel
theorem dX1_topHerds_20 : decode cX1_topHerds 20 = .ok (.iload_n 2, 1) := by decide +kernel
theorem dX1_topHerds_21 : decode cX1_topHerds 21 = .ok (.iaload, 1) := by decide +kernel
theorem dX1_topHerds_22 : decode cX1_topHerds 22 = .ok (.ifCond .ne 9, 3) := by decide +kernel
theorem dX1_topHerds_25 : decode cX1_topHerds 25 = .ok (.iconst 1, 1) := by decide +kernel
theorem dX1_topHerds_26 : decode cX1_topHerds 26 = .ok (.iload_n 2, 1) := by decide +kernel
theorem dX1_topHerds_27 : decode cX1_topHerds 27 = .ok (.ishl, 1) := by decide +kernel
theorem dX1_topHerds_28 : decode cX1_topHerds 28 = .ok (.goto 4, 3) := by decide +kernel
theorem dX1_topHerds_31 : decode cX1_topHerds 31 = .ok (.iconst 0, 1) := by decide +kernel
theorem dX1_topHerds_32 : decode cX1_topHerds 32 = .ok (.ior, 1) := by decide +kernel
theorem dX1_topHerds_33 : decode cX1_topHerds 33 = .ok (.istore_n 1, 1) := by decide +kernel
theorem dX1_topHerds_34 : decode cX1_topHerds 34 = .ok (.iinc 2 1, 3) := by decide +kernel
theorem dX1_topHerds_37 : decode cX1_topHerds 37 = .ok (.goto (-33), 3) := by decide +kernel
theorem dX1_topHerds_40 : decode cX1_topHerds 40 = .ok (.iload_n 1, 1) := by decide +kernel
theorem dX1_topHerds_41 : decode cX1_topHerds 41 = .ok (.ireturn, 1) := by decide +kernel
theorem dX1_twinCount_0 : decode cX1_twinCount 0 = .ok (.iconst 0, 1) := by decide +kernel
theorem dX1_twinCount_1 : decode cX1_twinCount 1 = .ok (.istore_n 1, 1) := by decide +kernel
theorem dX1_twinCount_2 : decode cX1_twinCount 2 = .ok (.iconst 0, 1) := by decide +kernel
theorem dX1_twinCount_3 : decode cX1_twinCount 3 = .ok (.istore_n 2, 1) := by decide +kernel
theorem dX1_twinCount_4 : decode cX1_twinCount 4 = .ok (.iload_n 2, 1) := by decide +kernel
theorem dX1_twinCount_5 : decode cX1_twinCount 5 = .ok (.aload_n 0, 1) := by decide +kernel
theorem dX1_twinCount_6 : decode cX1_twinCount 6 = .ok (.getfield 28, 3) := by decide +kernel
theorem dX1_twinCount_9 : decode cX1_twinCount 9 = .ok (.getfield 40, 3) := by decide +kernel
theorem dX1_twinCount_12 : decode cX1_twinCount 12 = .ok (.if_icmp .ge 53, 3) := by decide +kernel
theorem dX1_twinCount_15 : decode cX1_twinCount 15 = .ok (.iload_n 2, 1) := by decide +kernel
theorem dX1_twinCount_16 : decode cX1_twinCount 16 = .ok (.iconst 1, 1) := by decide +kernel
theorem dX1_twinCount_17 : decode cX1_twinCount 17 = .ok (.iadd, 1) := by decide +kernel
theorem dX1_twinCount_18 : decode cX1_twinCount 18 = .ok (.istore_n 3, 1) := by decide +kernel
theorem dX1_twinCount_19 : decode cX1_twinCount 19 = .ok (.iload_n 3, 1) := by decide +kernel
theorem dX1_twinCount_20 : decode cX1_twinCount 20 = .ok (.aload_n 0, 1) := by decide +kernel
theorem dX1_twinCount_21 : decode cX1_twinCount 21 = .ok (.getfield 28, 3) := by decide +kernel
theorem dX1_twinCount_24 : decode cX1_twinCount 24 = .ok (.getfield 40, 3) := by decide +kernel
theorem dX1_twinCount_27 : decode cX1_twinCount 27 = .ok (.if_icmp .ge 32, 3) := by decide +kernel
theorem dX1_twinCount_30 : decode cX1_twinCount 30 = .ok (.iload_n 1, 1) := by decide +kernel
theorem dX1_twinCount_31 : decode cX1_twinCount 31 = .ok (.aload_n 0, 1) := by decide +kernel
theorem dX1_twinCount_32 : decode cX1_twinCount 32 = .ok (.getfield 9, 3) := by decide +kernel
theorem dX1_twinCount_35 : decode cX1_twinCount 35 = .ok (.iload_n 2, 1) := by decide +kernel
theorem dX1_twinCount_36 : decode cX1_twinCount 36 = .ok (.iaload, 1) := by decide +kernel
theorem dX1_twinCount_37 : decode cX1_twinCount 37 = .ok (.aload_n 0, 1) := by decide +kernel
theorem dX1_twinCount_38 : decode cX1_twinCount 38 = .ok (.getfield 9, 3) := by decide +kernel
theorem dX1_twinCount_41 : decode cX1_twinCount 41 = .ok (.iload_n 3, 1) := by decide +kernel
theorem dX1_twinCount_42 : decode cX1_twinCount 42 = .ok (.iaload, 1) := by decide +kernel
theorem dX1_twinCount_43 : decode cX1_twinCount 43 = .ok (.if_icmp .ne 7, 3) := by decide +kernel
theorem dX1_twinCount_46 : decode cX1_twinCount 46 = .ok (.iconst 1, 1) := by decide +kernel
theorem dX1_twinCount_47 : decode cX1_twinCount 47 = .ok (.goto 4, 3) := by decide +kernel
theorem dX1_twinCount_50 : decode cX1_twinCount 50 = .ok (.iconst 0, 1) := by decide +kernel
theorem dX1_twinCount_51 : decode cX1_twinCount 51 = .ok (.iadd, 1) := by decide +kernel
theorem dX1_twinCount_52 : decode cX1_twinCount 52 = .ok (.istore_n 1, 1) := by decide +kernel
theorem dX1_twinCount_53 : decode cX1_twinCount 53 = .ok (.iinc 3 1, 3) := by decide +kernel
theorem dX1_twinCount_56 : decode cX1_twinCount 56 = .ok (.goto (-37), 3) := by decide +kernel
theorem dX1_twinCount_59 : decode cX1_twinCount 59 = .ok (.iinc 2 1, 3) := by decide +kernel
theorem dX1_twinCount_62 : decode cX1_twinCount 62 = .ok (.goto (-58), 3) := by decide +kernel
theorem dX1_twinCount_65 : decode cX1_twinCount 65 = .ok (.iload_n 1, 1) := by decide +kernel
theorem dX1_twinCount_66 : decode cX1_twinCount 66 = .ok (.ireturn, 1) := by decide +kernel
theorem dX1_isClosed_0 : decode cX1_isClosed 0 = .ok (.aload_n 0, 1) := by decide +kernel
theorem dX1_isClosed_1 : decode cX1_isClosed 1 = .ok (.invokevirtual 72, 3) := by decide +kernel
theorem dX1_isClosed_4 : decode cX1_isClosed 4 = .ok (.aload_n 0, 1) := by decide +kernel
theorem dX1_isClosed_5 : decode cX1_isClosed 5 = .ok (.invokevirtual 69, 3) := by decide +kernel
theorem dX1_isClosed_8 : decode cX1_isClosed 8 = .ok (.if_icmp .ne 14, 3) := by decide +kernel
theorem dX1_isClosed_11 : decode cX1_isClosed 11 = .ok (.aload_n 0, 1) := by decide +kernel
theorem dX1_isClosed_12 : decode cX1_isClosed 12 = .ok (.invokevirtual 75, 3) := by decide +kernel
theorem dX1_isClosed_15 : decode cX1_isClosed 15 = .ok (.ifCond .ne 7, 3) := by decide +kernel
theorem dX1_isClosed_18 : decode cX1_isClosed 18 = .ok (.iconst 1, 1) := by decide +kernel
theorem dX1_isClosed_19 : decode cX1_isClosed 19 = .ok (.goto 4, 3) := by decide +kernel
theorem dX1_isClosed_22 : decode cX1_isClosed 22 = .ok (.iconst 0, 1) := by decide +kernel
theorem dX1_isClosed_23 : decode cX1_isClosed 23 = .ok (.ireturn, 1) := by decide +kernel
theorem dX1_longestChain_0 : decode cX1_longestChain 0 = .ok (.aload_n 0, 1) := by decide +kernel
theorem dX1_longestChain_1 : decode cX1_longestChain 1 = .ok (.invokevirtual 78, 3) := by decide +kernel
theorem dX1_longestChain_4 : decode cX1_longestChain 4 = .ok (.istore_n 2, 1) := by decide +kernel
theorem dX1_longestChain_5 : decode cX1_longestChain 5 = .ok (.aload_n 0, 1) := by decide +kernel
theorem dX1_longestChain_6 : decode cX1_longestChain 6 = .ok (.invokevirtual 69, 3) := by decide +kernel
theorem dX1_longestChain_9 : decode cX1_longestChain 9 = .ok (.istore_n 3, 1) := by decide +kernel
theorem dX1_longestChain_10 : decode cX1_longestChain 10 = .ok (.iconst 0, 1) := by decide +kernel
theorem dX1_longestChain_11 : decode cX1_longestChain 11 = .ok (.istore 4, 2) := by decide +kernel
theorem dX1_longestChain_13 : decode cX1_longestChain 13 = .ok (.iload 4, 2) := by decide +kernel
theorem dX1_longestChain_15 : decode cX1_longestChain 15 = .ok (.iload_n 2, 1) := by decide +kernel
theorem dX1_longestChain_16 : decode cX1_longestChain 16 = .ok (.if_icmp .ge 50, 3) := by decide +kernel
theorem dX1_longestChain_19 : decode cX1_longestChain 19 = .ok (.iload 4, 2) := by decide +kernel
theorem dX1_longestChain_21 : decode cX1_longestChain 21 = .ok (.aload_n 1, 1) := by decide +kernel
theorem dX1_longestChain_22 : decode cX1_longestChain 22 = .ok (.arraylength, 1) := by decide +kernel
theorem dX1_longestChain_23 : decode cX1_longestChain 23 = .ok (.if_icmp .ge 43, 3) := by decide +kernel
theorem dX1_longestChain_26 : decode cX1_longestChain 26 = .ok (.aload_n 0, 1) := by decide +kernel
theorem dX1_longestChain_27 : decode cX1_longestChain 27 = .ok (.iload_n 2, 1) := by decide +kernel
theorem dX1_longestChain_28 : decode cX1_longestChain 28 = .ok (.iload 4, 2) := by decide +kernel
theorem dX1_longestChain_30 : decode cX1_longestChain 30 = .ok (.isub, 1) := by decide +kernel
theorem dX1_longestChain_31 : decode cX1_longestChain 31 = .ok (.iload_n 3, 1) := by decide +kernel
theorem dX1_longestChain_32 : decode cX1_longestChain 32 = .ok (.invokevirtual 81, 3) := by decide +kernel
theorem dX1_longestChain_35 : decode cX1_longestChain 35 = .ok (.istore 5, 2) := by decide +kernel
theorem dX1_longestChain_37 : decode cX1_longestChain 37 = .ok (.iload 5, 2) := by decide +kernel
theorem dX1_longestChain_39 : decode cX1_longestChain 39 = .ok (.iconst (-1), 1) := by decide +kernel
theorem dX1_longestChain_40 : decode cX1_longestChain 40 = .ok (.if_icmp .ne 6, 3) := by decide +kernel
theorem dX1_longestChain_43 : decode cX1_longestChain 43 = .ok (.iload 4, 2) := by decide +kernel
theorem dX1_longestChain_45 : decode cX1_longestChain 45 = .ok (.ireturn, 1) := by decide +kernel
theorem dX1_longestChain_46 : decode cX1_longestChain 46 = .ok (.aload_n 1, 1) := by decide +kernel
theorem dX1_longestChain_47 : decode cX1_longestChain 47 = .ok (.iload 4, 2) := by decide +kernel
theorem dX1_longestChain_49 : decode cX1_longestChain 49 = .ok (.iload 5, 2) := by decide +kernel
theorem dX1_longestChain_51 : decode cX1_longestChain 51 = .ok (.iastore, 1) := by decide +kernel
theorem dX1_longestChain_52 : decode cX1_longestChain 52 = .ok (.aload_n 0, 1) := by decide +kernel
theorem dX1_longestChain_53 : decode cX1_longestChain 53 = .ok (.getfield 15, 3) := by decide +kernel
theorem dX1_longestChain_56 : decode cX1_longestChain 56 = .ok (.iload 5, 2) := by decide +kernel
theorem dX1_longestChain_58 : decode cX1_longestChain 58 = .ok (.iaload, 1) := by decide +kernel
theorem dX1_longestChain_59 : decode cX1_longestChain 59 = .ok (.istore_n 3, 1) := by decide +kernel
theorem dX1_longestChain_60 : decode cX1_longestChain 60 = .ok (.iinc 4 1, 3) := by decide +kernel
theorem dX1_longestChain_63 : decode cX1_longestChain 63 = .ok (.goto (-50), 3) := by decide +kernel
theorem dX1_longestChain_66 : decode cX1_longestChain 66 = .ok (.iload_n 2, 1) := by decide +kernel
theorem dX1_longestChain_67 : decode cX1_longestChain 67 = .ok (.ireturn, 1) := by decide +kernel
theorem dX1_measureHeights_0 : decode cX1_measureHeights 0 = .ok (.iconst 0, 1) := by decide +kernel
theorem dX1_measureHeights_1 : decode cX1_measureHeights 1 = .ok (.istore_n 1, 1) := by decide +kernel
theorem dX1_measureHeights_2 : decode cX1_measureHeights 2 = .ok (.aload_n 0, 1) := by decide +kernel
theorem dX1_measureHeights_3 : decode cX1_measureHeights 3 = .ok (.getfield 18, 3) := by decide +kernel
theorem dX1_measureHeights_6 : decode cX1_measureHeights 6 = .ok (.iconst 0, 1) := by decide +kernel
theorem dX1_measureHeights_7 : decode cX1_measureHeights 7 = .ok (.invokestatic 84, 3) := by decide +kernel
theorem dX1_measureHeights_10 : decode cX1_measureHeights 10 = .ok (.iconst 0, 1) := by decide +kernel
theorem dX1_measureHeights_11 : decode cX1_measureHeights 11 = .ok (.istore_n 2, 1) := by decide +kernel
theorem dX1_measureHeights_12 : decode cX1_measureHeights 12 = .ok (.iload_n 2, 1) := by decide +kernel
theorem dX1_measureHeights_13 : decode cX1_measureHeights 13 = .ok (.aload_n 0, 1) := by decide +kernel
theorem dX1_measureHeights_14 : decode cX1_measureHeights 14 = .ok (.getfield 28, 3) := by decide +kernel
theorem dX1_measureHeights_17 : decode cX1_measureHeights 17 = .ok (.getfield 40, 3) := by decide +kernel
theorem dX1_measureHeights_20 : decode cX1_measureHeights 20 = .ok (.if_icmp .ge 57, 3) := by decide +kernel
theorem dX1_measureHeights_23 : decode cX1_measureHeights 23 = .ok (.iconst 0, 1) := by decide +kernel
theorem dX1_measureHeights_24 : decode cX1_measureHeights 24 = .ok (.istore_n 3, 1) := by decide +kernel
theorem dX1_measureHeights_25 : decode cX1_measureHeights 25 = .ok (.iload_n 3, 1) := by decide +kernel
theorem dX1_measureHeights_26 : decode cX1_measureHeights 26 = .ok (.aload_n 0, 1) := by decide +kernel
theorem dX1_measureHeights_27 : decode cX1_measureHeights 27 = .ok (.getfield 28, 3) := by decide +kernel
theorem dX1_measureHeights_30 : decode cX1_measureHeights 30 = .ok (.getfield 40, 3) := by decide +kernel
theorem dX1_measureHeights_33 : decode cX1_measureHeights 33 = .ok (.if_icmp .ge 38, 3) := by decide +kernel
theorem dX1_measureHeights_36 : decode cX1_measureHeights 36 = .ok (.aload_n 0, 1) := by decide +kernel
theorem dX1_measureHeights_37 : decode cX1_measureHeights 37 = .ok (.getfield 18, 3) := by decide +kernel
theorem dX1_measureHeights_40 : decode cX1_measureHeights 40 = .ok (.iload_n 3, 1) := by decide +kernel
theorem dX1_measureHeights_41 : decode cX1_measureHeights 41 = .ok (.iconst 1, 1) := by decide +kernel
theorem dX1_measureHeights_42 : decode cX1_measureHeights 42 = .ok (.aload_n 0, 1) := by decide +kernel
theorem dX1_measureHeights_43 : decode cX1_measureHeights 43 = .ok (.aload_n 0, 1) := by decide +kernel
theorem dX1_measureHeights_44 : decode cX1_measureHeights 44 = .ok (.getfield 15, 3) := by decide +kernel
theorem dX1_measureHeights_47 : decode cX1_measureHeights 47 = .ok (.iload_n 3, 1) := by decide +kernel
theorem dX1_measureHeights_48 : decode cX1_measureHeights 48 = .ok (.iaload, 1) := by decide +kernel
theorem dX1_measureHeights_49 : decode cX1_measureHeights 49 = .ok (.invokevirtual 90, 3) := by decide +kernel
theorem dX1_measureHeights_52 : decode cX1_measureHeights 52 = .ok (.iadd, 1) := by decide +kernel
theorem dX1_measureHeights_53 : decode cX1_measureHeights 53 = .ok (.iastore, 1) := by decide +kernel
theorem dX1_measureHeights_54 : decode cX1_measureHeights 54 = .ok (.iload_n 1, 1) := by decide +kernel
theorem dX1_measureHeights_55 : decode cX1_measureHeights 55 = .ok (.aload_n 0, 1) := by decide +kernel
theorem dX1_measureHeights_56 : decode cX1_measureHeights 56 = .ok (.getfield 18, 3) := by decide +kernel
theorem dX1_measureHeights_59 : decode cX1_measureHeights 59 = .ok (.iload_n 3, 1) := by decide +kernel
theorem dX1_measureHeights_60 : decode cX1_measureHeights 60 = .ok (.iaload, 1) := by decide +kernel
theorem dX1_measureHeights_61 : decode cX1_measureHeights 61 = .ok (.invokestatic 93, 3) := by decide +kernel
theorem dX1_measureHeights_64 : decode cX1_measureHeights 64 = .ok (.istore_n 1, 1) := by decide +kernel
theorem dX1_measureHeights_65 : decode cX1_measureHeights 65 = .ok (.iinc 3 1, 3) := by decide +kernel
theorem dX1_measureHeights_68 : decode cX1_measureHeights 68 = .ok (.goto (-43), 3) := by decide +kernel
theorem dX1_measureHeights_71 : decode cX1_measureHeights 71 = .ok (.iinc 2 1, 3) := by decide +kernel
theorem dX1_measureHeights_74 : decode cX1_measureHeights 74 = .ok (.goto (-62), 3) := by decide +kernel
theorem dX1_measureHeights_77 : decode cX1_measureHeights 77 = .ok (.iload_n 1, 1) := by decide +kernel
theorem dX1_measureHeights_78 : decode cX1_measureHeights 78 = .ok (.ireturn, 1) := by decide +kernel
theorem dX1_highestOf_0 : decode cX1_highestOf 0 = .ok (.iconst 0, 1) := by decide +kernel
theorem dX1_highestOf_1 : decode cX1_highestOf 1 = .ok (.istore_n 2, 1) := by decide +kernel
theorem dX1_highestOf_2 : decode cX1_highestOf 2 = .ok (.iconst 0, 1) := by decide +kernel
theorem dX1_highestOf_3 : decode cX1_highestOf 3 = .ok (.istore_n 3, 1) := by decide +kernel
theorem dX1_highestOf_4 : decode cX1_highestOf 4 = .ok (.iload_n 3, 1) := by decide +kernel
theorem dX1_highestOf_5 : decode cX1_highestOf 5 = .ok (.aload_n 0, 1) := by decide +kernel
theorem dX1_highestOf_6 : decode cX1_highestOf 6 = .ok (.getfield 28, 3) := by decide +kernel
theorem dX1_highestOf_9 : decode cX1_highestOf 9 = .ok (.getfield 40, 3) := by decide +kernel
theorem dX1_highestOf_12 : decode cX1_highestOf 12 = .ok (.if_icmp .ge 28, 3) := by decide +kernel
theorem dX1_highestOf_15 : decode cX1_highestOf 15 = .ok (.iload_n 1, 1) := by decide +kernel
theorem dX1_highestOf_16 : decode cX1_highestOf 16 = .ok (.iconst 1, 1) := by decide +kernel
theorem dX1_highestOf_17 : decode cX1_highestOf 17 = .ok (.iload_n 3, 1) := by decide +kernel
theorem dX1_highestOf_18 : decode cX1_highestOf 18 = .ok (.ishl, 1) := by decide +kernel
theorem dX1_highestOf_19 : decode cX1_highestOf 19 = .ok (.iand, 1) := by decide +kernel
theorem dX1_highestOf_20 : decode cX1_highestOf 20 = .ok (.ifCond .eq 14, 3) := by decide +kernel
theorem dX1_highestOf_23 : decode cX1_highestOf 23 = .ok (.iload_n 2, 1) := by decide +kernel
theorem dX1_highestOf_24 : decode cX1_highestOf 24 = .ok (.aload_n 0, 1) := by decide +kernel
theorem dX1_highestOf_25 : decode cX1_highestOf 25 = .ok (.getfield 18, 3) := by decide +kernel
theorem dX1_highestOf_28 : decode cX1_highestOf 28 = .ok (.iload_n 3, 1) := by decide +kernel
theorem dX1_highestOf_29 : decode cX1_highestOf 29 = .ok (.iaload, 1) := by decide +kernel
theorem dX1_highestOf_30 : decode cX1_highestOf 30 = .ok (.invokestatic 93, 3) := by decide +kernel
theorem dX1_highestOf_33 : decode cX1_highestOf 33 = .ok (.istore_n 2, 1) := by decide +kernel
theorem dX1_highestOf_34 : decode cX1_highestOf 34 = .ok (.iinc 3 1, 3) := by decide +kernel
theorem dX1_highestOf_37 : decode cX1_highestOf 37 = .ok (.goto (-33), 3) := by decide +kernel
theorem dX1_highestOf_40 : decode cX1_highestOf 40 = .ok (.iload_n 2, 1) := by decide +kernel
theorem dX1_highestOf_41 : decode cX1_highestOf 41 = .ok (.ireturn, 1) := by decide +kernel
theorem dX1_firstOfHeight_0 : decode cX1_firstOfHeight 0 = .ok (.iconst 0, 1) := by decide +kernel
theorem dX1_firstOfHeight_1 : decode cX1_firstOfHeight 1 = .ok (.istore_n 3, 1) := by decide +kernel
theorem dX1_firstOfHeight_2 : decode cX1_firstOfHeight 2 = .ok (.iload_n 3, 1) := by decide +kernel
theorem dX1_firstOfHeight_3 : decode cX1_firstOfHeight 3 = .ok (.aload_n 0, 1) := by decide +kernel
theorem dX1_firstOfHeight_4 : decode cX1_firstOfHeight 4 = .ok (.getfield 28, 3) := by decide +kernel
theorem dX1_firstOfHeight_7 : decode cX1_firstOfHeight 7 = .ok (.getfield 40, 3) := by decide +kernel
theorem dX1_firstOfHeight_10 : decode cX1_firstOfHeight 10 = .ok (.if_icmp .ge 29, 3) := by decide +kernel
theorem dX1_firstOfHeight_13 : decode cX1_firstOfHeight 13 = .ok (.iload_n 2, 1) := by decide +kernel
theorem dX1_firstOfHeight_14 : decode cX1_firstOfHeight 14 = .ok (.iconst 1, 1) := by decide +kernel
theorem dX1_firstOfHeight_15 : decode cX1_firstOfHeight 15 = .ok (.iload_n 3, 1) := by decide +kernel
theorem dX1_firstOfHeight_16 : decode cX1_firstOfHeight 16 = .ok (.ishl, 1) := by decide +kernel
theorem dX1_firstOfHeight_17 : decode cX1_firstOfHeight 17 = .ok (.iand, 1) := by decide +kernel
theorem dX1_firstOfHeight_18 : decode cX1_firstOfHeight 18 = .ok (.ifCond .eq 15, 3) := by decide +kernel
theorem dX1_firstOfHeight_21 : decode cX1_firstOfHeight 21 = .ok (.aload_n 0, 1) := by decide +kernel
theorem dX1_firstOfHeight_22 : decode cX1_firstOfHeight 22 = .ok (.getfield 18, 3) := by decide +kernel
theorem dX1_firstOfHeight_25 : decode cX1_firstOfHeight 25 = .ok (.iload_n 3, 1) := by decide +kernel
theorem dX1_firstOfHeight_26 : decode cX1_firstOfHeight 26 = .ok (.iaload, 1) := by decide +kernel
theorem dX1_firstOfHeight_27 : decode cX1_firstOfHeight 27 = .ok (.iload_n 1, 1) := by decide +kernel
theorem dX1_firstOfHeight_28 : decode cX1_firstOfHeight 28 = .ok (.if_icmp .ne 5, 3) := by decide +kernel
theorem dX1_firstOfHeight_31 : decode cX1_firstOfHeight 31 = .ok (.iload_n 3, 1) := by decide +kernel
theorem dX1_firstOfHeight_32 : decode cX1_firstOfHeight 32 = .ok (.ireturn, 1) := by decide +kernel
theorem dX1_firstOfHeight_33 : decode cX1_firstOfHeight 33 = .ok (.iinc 3 1, 3) := by decide +kernel
theorem dX1_firstOfHeight_36 : decode cX1_firstOfHeight 36 = .ok (.goto (-34), 3) := by decide +kernel
theorem dX1_firstOfHeight_39 : decode cX1_firstOfHeight 39 = .ok (.iconst (-1), 1) := by decide +kernel
theorem dX1_firstOfHeight_40 : decode cX1_firstOfHeight 40 = .ok (.ireturn, 1) := by decide +kernel
theorem dX1_freshMark_0 : decode cX1_freshMark 0 = .ok (.iconst (-1), 1) := by decide +kernel
theorem dX1_freshMark_1 : decode cX1_freshMark 1 = .ok (.istore_n 1, 1) := by decide +kernel
theorem dX1_freshMark_2 : decode cX1_freshMark 2 = .ok (.bipush 13, 2) := by decide +kernel
theorem dX1_freshMark_4 : decode cX1_freshMark 4 = .ok (.istore_n 2, 1) := by decide +kernel
theorem dX1_freshMark_5 : decode cX1_freshMark 5 = .ok (.iconst 1, 1) := by decide +kernel
theorem dX1_freshMark_6 : decode cX1_freshMark 6 = .ok (.istore_n 3, 1) := by decide +kernel
theorem dX1_freshMark_7 : decode cX1_freshMark 7 = .ok (.iload_n 3, 1) := by decide +kernel
theorem dX1_freshMark_8 : decode cX1_freshMark 8 = .ok (.sipush 4096, 3) := by decide +kernel
theorem dX1_freshMark_11 : decode cX1_freshMark 11 = .ok (.if_icmp .ge 34, 3) := by decide +kernel
theorem dX1_freshMark_14 : decode cX1_freshMark 14 = .ok (.iload_n 3, 1) := by decide +kernel
theorem dX1_freshMark_15 : decode cX1_freshMark 15 = .ok (.invokestatic 98, 3) := by decide +kernel
theorem dX1_freshMark_18 : decode cX1_freshMark 18 = .ok (.istore 4, 2) := by decide +kernel
theorem dX1_freshMark_20 : decode cX1_freshMark 20 = .ok (.iload 4, 2) := by decide +kernel
theorem dX1_freshMark_22 : decode cX1_freshMark 22 = .ok (.iload_n 2, 1) := by decide +kernel
theorem dX1_freshMark_23 : decode cX1_freshMark 23 = .ok (.if_icmp .ge 16, 3) := by decide +kernel
theorem dX1_freshMark_26 : decode cX1_freshMark 26 = .ok (.aload_n 0, 1) := by decide +kernel
theorem dX1_freshMark_27 : decode cX1_freshMark 27 = .ok (.iload_n 3, 1) := by decide +kernel
theorem dX1_freshMark_28 : decode cX1_freshMark 28 = .ok (.invokevirtual 103, 3) := by decide +kernel
theorem dX1_freshMark_31 : decode cX1_freshMark 31 = .ok (.ifCond .eq 8, 3) := by decide +kernel
theorem dX1_freshMark_34 : decode cX1_freshMark 34 = .ok (.iload_n 3, 1) := by decide +kernel
theorem dX1_freshMark_35 : decode cX1_freshMark 35 = .ok (.istore_n 1, 1) := by decide +kernel
theorem dX1_freshMark_36 : decode cX1_freshMark 36 = .ok (.iload 4, 2) := by decide +kernel
theorem dX1_freshMark_38 : decode cX1_freshMark 38 = .ok (.istore_n 2, 1) := by decide +kernel
theorem dX1_freshMark_39 : decode cX1_freshMark 39 = .ok (.iinc 3 1, 3) := by decide +kernel
theorem dX1_freshMark_42 : decode cX1_freshMark 42 = .ok (.goto (-35), 3) := by decide +kernel
theorem dX1_freshMark_45 : decode cX1_freshMark 45 = .ok (.iload_n 1, 1) := by decide +kernel
theorem dX1_freshMark_46 : decode cX1_freshMark 46 = .ok (.ireturn, 1) := by decide +kernel
theorem dX1_isFresh_0 : decode cX1_isFresh 0 = .ok (.iconst 0, 1) := by decide +kernel
theorem dX1_isFresh_1 : decode cX1_isFresh 1 = .ok (.istore_n 2, 1) := by decide +kernel
theorem dX1_isFresh_2 : decode cX1_isFresh 2 = .ok (.iload_n 2, 1) := by decide +kernel
theorem dX1_isFresh_3 : decode cX1_isFresh 3 = .ok (.aload_n 0, 1) := by decide +kernel
theorem dX1_isFresh_4 : decode cX1_isFresh 4 = .ok (.getfield 24, 3) := by decide +kernel
theorem dX1_isFresh_7 : decode cX1_isFresh 7 = .ok (.if_icmp .ge 35, 3) := by decide +kernel
theorem dX1_isFresh_10 : decode cX1_isFresh 10 = .ok (.iload_n 1, 1) := by decide +kernel
theorem dX1_isFresh_11 : decode cX1_isFresh 11 = .ok (.aload_n 0, 1) := by decide +kernel
theorem dX1_isFresh_12 : decode cX1_isFresh 12 = .ok (.getfield 21, 3) := by decide +kernel
theorem dX1_isFresh_15 : decode cX1_isFresh 15 = .ok (.iload_n 2, 1) := by decide +kernel
theorem dX1_isFresh_16 : decode cX1_isFresh 16 = .ok (.iaload, 1) := by decide +kernel
theorem dX1_isFresh_17 : decode cX1_isFresh 17 = .ok (.iand, 1) := by decide +kernel
theorem dX1_isFresh_18 : decode cX1_isFresh 18 = .ok (.istore_n 3, 1) := by decide +kernel
theorem dX1_isFresh_19 : decode cX1_isFresh 19 = .ok (.iload_n 3, 1) := by decide +kernel
theorem dX1_isFresh_20 : decode cX1_isFresh 20 = .ok (.iload_n 1, 1) := by decide +kernel
theorem dX1_isFresh_21 : decode cX1_isFresh 21 = .ok (.if_icmp .eq 13, 3) := by decide +kernel
theorem dX1_isFresh_24 : decode cX1_isFresh 24 = .ok (.iload_n 3, 1) := by decide +kernel
theorem dX1_isFresh_25 : decode cX1_isFresh 25 = .ok (.aload_n 0, 1) := by decide +kernel
theorem dX1_isFresh_26 : decode cX1_isFresh 26 = .ok (.getfield 21, 3) := by decide +kernel
theorem dX1_isFresh_29 : decode cX1_isFresh 29 = .ok (.iload_n 2, 1) := by decide +kernel
theorem dX1_isFresh_30 : decode cX1_isFresh 30 = .ok (.iaload, 1) := by decide +kernel
theorem dX1_isFresh_31 : decode cX1_isFresh 31 = .ok (.if_icmp .ne 5, 3) := by decide +kernel
theorem dX1_isFresh_34 : decode cX1_isFresh 34 = .ok (.iconst 0, 1) := by decide +kernel
theorem dX1_isFresh_35 : decode cX1_isFresh 35 = .ok (.ireturn, 1) := by decide +kernel
theorem dX1_isFresh_36 : decode cX1_isFresh 36 = .ok (.iinc 2 1, 3) := by decide +kernel
theorem dX1_isFresh_39 : decode cX1_isFresh 39 = .ok (.goto (-37), 3) := by decide +kernel
theorem dX1_isFresh_42 : decode cX1_isFresh 42 = .ok (.iconst 1, 1) := by decide +kernel
theorem dX1_isFresh_43 : decode cX1_isFresh 43 = .ok (.ireturn, 1) := by decide +kernel
theorem dX1_safeHerds_0 : decode cX1_safeHerds 0 = .ok (.aload_n 0, 1) := by decide +kernel
theorem dX1_safeHerds_1 : decode cX1_safeHerds 1 = .ok (.invokevirtual 69, 3) := by decide +kernel
theorem dX1_safeHerds_4 : decode cX1_safeHerds 4 = .ok (.istore_n 1, 1) := by decide +kernel
theorem dX1_safeHerds_5 : decode cX1_safeHerds 5 = .ok (.iconst 0, 1) := by decide +kernel
theorem dX1_safeHerds_6 : decode cX1_safeHerds 6 = .ok (.istore_n 2, 1) := by decide +kernel
theorem dX1_safeHerds_7 : decode cX1_safeHerds 7 = .ok (.iload_n 2, 1) := by decide +kernel
theorem dX1_safeHerds_8 : decode cX1_safeHerds 8 = .ok (.aload_n 0, 1) := by decide +kernel
theorem dX1_safeHerds_9 : decode cX1_safeHerds 9 = .ok (.getfield 28, 3) := by decide +kernel
theorem dX1_safeHerds_12 : decode cX1_safeHerds 12 = .ok (.getfield 40, 3) := by decide +kernel
theorem dX1_safeHerds_15 : decode cX1_safeHerds 15 = .ok (.if_icmp .ge 60, 3) := by decide +kernel
theorem dX1_safeHerds_18 : decode cX1_safeHerds 18 = .ok (.iconst 0, 1) := by decide +kernel
theorem dX1_safeHerds_19 : decode cX1_safeHerds 19 = .ok (.istore_n 3, 1) := by decide +kernel
theorem dX1_safeHerds_20 : decode cX1_safeHerds 20 = .ok (.iload_n 3, 1) := by decide +kernel
theorem dX1_safeHerds_21 : decode cX1_safeHerds 21 = .ok (.aload_n 0, 1) := by decide +kernel
theorem dX1_safeHerds_22 : decode cX1_safeHerds 22 = .ok (.getfield 28, 3) := by decide +kernel
theorem dX1_safeHerds_25 : decode cX1_safeHerds 25 = .ok (.getfield 40, 3) := by decide +kernel
theorem dX1_safeHerds_28 : decode cX1_safeHerds 28 = .ok (.if_icmp .ge 41, 3) := by decide +kernel
theorem dX1_safeHerds_31 : decode cX1_safeHerds 31 = .ok (.aload_n 0, 1) := by decide +kernel
theorem dX1_safeHerds_32 : decode cX1_safeHerds 32 = .ok (.getfield 9, 3) := by decide +kernel
theorem dX1_safeHerds_35 : decode cX1_safeHerds 35 = .ok (.iload_n 3, 1) := by decide +kernel
theorem dX1_safeHerds_36 : decode cX1_safeHerds 36 = .ok (.iaload, 1) := by decide +kernel
theorem dX1_safeHerds_37 : decode cX1_safeHerds 37 = .ok (.aload_n 0, 1) := by decide +kernel
theorem dX1_safeHerds_38 : decode cX1_safeHerds 38 = .ok (.getfield 9, 3) := by decide +kernel
theorem dX1_safeHerds_41 : decode cX1_safeHerds 41 = .ok (.iload_n 2, 1) := by decide +kernel
theorem dX1_safeHerds_42 : decode cX1_safeHerds 42 = .ok (.iaload, 1) := by decide +kernel
theorem dX1_safeHerds_43 : decode cX1_safeHerds 43 = .ok (.if_icmp .eq 20, 3) := by decide +kernel
theorem dX1_safeHerds_46 : decode cX1_safeHerds 46 = .ok (.aload_n 0, 1) := by decide +kernel
theorem dX1_safeHerds_47 : decode cX1_safeHerds 47 = .ok (.iload_n 3, 1) := by decide +kernel
theorem dX1_safeHerds_48 : decode cX1_safeHerds 48 = .ok (.iload_n 2, 1) := by decide +kernel
theorem dX1_safeHerds_49 : decode cX1_safeHerds 49 = .ok (.invokevirtual 107, 3) := by decide +kernel
theorem dX1_safeHerds_52 : decode cX1_safeHerds 52 = .ok (.ifCond .eq 11, 3) := by decide +kernel
theorem dX1_safeHerds_55 : decode cX1_safeHerds 55 = .ok (.iload_n 1, 1) := by decide +kernel
theorem dX1_safeHerds_56 : decode cX1_safeHerds 56 = .ok (.iconst 1, 1) := by decide +kernel
theorem dX1_safeHerds_57 : decode cX1_safeHerds 57 = .ok (.iload_n 3, 1) := by decide +kernel
theorem dX1_safeHerds_58 : decode cX1_safeHerds 58 = .ok (.ishl, 1) := by decide +kernel
theorem dX1_safeHerds_59 : decode cX1_safeHerds 59 = .ok (.iconst (-1), 1) := by decide +kernel
theorem dX1_safeHerds_60 : decode cX1_safeHerds 60 = .ok (.ixor, 1) := by decide +kernel
theorem dX1_safeHerds_61 : decode cX1_safeHerds 61 = .ok (.iand, 1) := by decide +kernel
theorem dX1_safeHerds_62 : decode cX1_safeHerds 62 = .ok (.istore_n 1, 1) := by decide +kernel
theorem dX1_safeHerds_63 : decode cX1_safeHerds 63 = .ok (.iinc 3 1, 3) := by decide +kernel
theorem dX1_safeHerds_66 : decode cX1_safeHerds 66 = .ok (.goto (-46), 3) := by decide +kernel
theorem dX1_safeHerds_69 : decode cX1_safeHerds 69 = .ok (.iinc 2 1, 3) := by decide +kernel
theorem dX1_safeHerds_72 : decode cX1_safeHerds 72 = .ok (.goto (-65), 3) := by decide +kernel
theorem dX1_safeHerds_75 : decode cX1_safeHerds 75 = .ok (.iload_n 1, 1) := by decide +kernel
theorem dX1_safeHerds_76 : decode cX1_safeHerds 76 = .ok (.ireturn, 1) := by decide +kernel
theorem dX1_canBeMade_0 : decode cX1_canBeMade 0 = .ok (.aload_n 0, 1) := by decide +kernel
theorem dX1_canBeMade_1 : decode cX1_canBeMade 1 = .ok (.getfield 36, 3) := by decide +kernel
theorem dX1_canBeMade_4 : decode cX1_canBeMade 4 = .ok (.aload_n 0, 1) := by decide +kernel
theorem dX1_canBeMade_5 : decode cX1_canBeMade 5 = .ok (.getfield 28, 3) := by decide +kernel
theorem dX1_canBeMade_8 : decode cX1_canBeMade 8 = .ok (.getfield 45, 3) := by decide +kernel
theorem dX1_canBeMade_11 : decode cX1_canBeMade 11 = .ok (.iload_n 1, 1) := by decide +kernel
theorem dX1_canBeMade_12 : decode cX1_canBeMade 12 = .ok (.iaload, 1) := by decide +kernel
theorem dX1_canBeMade_13 : decode cX1_canBeMade 13 = .ok (.aload_n 0, 1) := by decide +kernel
theorem dX1_canBeMade_14 : decode cX1_canBeMade 14 = .ok (.getfield 28, 3) := by decide +kernel
theorem dX1_canBeMade_17 : decode cX1_canBeMade 17 = .ok (.getfield 45, 3) := by decide +kernel
theorem dX1_canBeMade_20 : decode cX1_canBeMade 20 = .ok (.iload_n 2, 1) := by decide +kernel
theorem dX1_canBeMade_21 : decode cX1_canBeMade 21 = .ok (.iaload, 1) := by decide +kernel
theorem dX1_canBeMade_22 : decode cX1_canBeMade 22 = .ok (.invokevirtual 110, 3) := by decide +kernel
theorem dX1_canBeMade_25 : decode cX1_canBeMade 25 = .ok (.iconst (-1), 1) := by decide +kernel
theorem dX1_canBeMade_26 : decode cX1_canBeMade 26 = .ok (.if_icmp .eq 7, 3) := by decide +kernel
theorem dX1_canBeMade_29 : decode cX1_canBeMade 29 = .ok (.iconst 1, 1) := by decide +kernel
theorem dX1_canBeMade_30 : decode cX1_canBeMade 30 = .ok (.goto 4, 3) := by decide +kernel
theorem dX1_canBeMade_33 : decode cX1_canBeMade 33 = .ok (.iconst 0, 1) := by decide +kernel
theorem dX1_canBeMade_34 : decode cX1_canBeMade 34 = .ok (.ireturn, 1) := by decide +kernel
theorem dX1_kingHerd_0 : decode cX1_kingHerd 0 = .ok (.iconst (-1), 1) := by decide +kernel
theorem dX1_kingHerd_1 : decode cX1_kingHerd 1 = .ok (.istore_n 1, 1) := by decide +kernel
theorem dX1_kingHerd_2 : decode cX1_kingHerd 2 = .ok (.iconst (-1), 1) := by decide +kernel
theorem dX1_kingHerd_3 : decode cX1_kingHerd 3 = .ok (.istore_n 2, 1) := by decide +kernel
theorem dX1_kingHerd_4 : decode cX1_kingHerd 4 = .ok (.iconst 0, 1) := by decide +kernel
theorem dX1_kingHerd_5 : decode cX1_kingHerd 5 = .ok (.istore_n 3, 1) := by decide +kernel
theorem dX1_kingHerd_6 : decode cX1_kingHerd 6 = .ok (.iload_n 3, 1) := by decide +kernel
theorem dX1_kingHerd_7 : decode cX1_kingHerd 7 = .ok (.aload_n 0, 1) := by decide +kernel
theorem dX1_kingHerd_8 : decode cX1_kingHerd 8 = .ok (.getfield 28, 3) := by decide +kernel
theorem dX1_kingHerd_11 : decode cX1_kingHerd 11 = .ok (.getfield 40, 3) := by decide +kernel
theorem dX1_kingHerd_14 : decode cX1_kingHerd 14 = .ok (.if_icmp .ge 27, 3) := by decide +kernel
theorem dX1_kingHerd_17 : decode cX1_kingHerd 17 = .ok (.aload_n 0, 1) := by decide +kernel
theorem dX1_kingHerd_18 : decode cX1_kingHerd 18 = .ok (.iload_n 3, 1) := by decide +kernel
theorem dX1_kingHerd_19 : decode cX1_kingHerd 19 = .ok (.invokevirtual 115, 3) := by decide +kernel
theorem dX1_kingHerd_22 : decode cX1_kingHerd 22 = .ok (.istore 4, 2) := by decide +kernel
theorem dX1_kingHerd_24 : decode cX1_kingHerd 24 = .ok (.iload 4, 2) := by decide +kernel
theorem dX1_kingHerd_26 : decode cX1_kingHerd 26 = .ok (.iload_n 2, 1) := by decide +kernel
theorem dX1_kingHerd_27 : decode cX1_kingHerd 27 = .ok (.if_icmp .le 8, 3) := by decide +kernel
theorem dX1_kingHerd_30 : decode cX1_kingHerd 30 = .ok (.iload_n 3, 1) := by decide +kernel
theorem dX1_kingHerd_31 : decode cX1_kingHerd 31 = .ok (.istore_n 1, 1) := by decide +kernel
theorem dX1_kingHerd_32 : decode cX1_kingHerd 32 = .ok (.iload 4, 2) := by decide +kernel
theorem dX1_kingHerd_34 : decode cX1_kingHerd 34 = .ok (.istore_n 2, 1) := by decide +kernel
theorem dX1_kingHerd_35 : decode cX1_kingHerd 35 = .ok (.iinc 3 1, 3) := by decide +kernel
theorem dX1_kingHerd_38 : decode cX1_kingHerd 38 = .ok (.goto (-32), 3) := by decide +kernel
theorem dX1_kingHerd_41 : decode cX1_kingHerd 41 = .ok (.iload_n 1, 1) := by decide +kernel
theorem dX1_kingHerd_42 : decode cX1_kingHerd 42 = .ok (.ireturn, 1) := by decide +kernel
theorem dX1_makersOf_0 : decode cX1_makersOf 0 = .ok (.iconst 0, 1) := by decide +kernel
theorem dX1_makersOf_1 : decode cX1_makersOf 1 = .ok (.istore_n 2, 1) := by decide +kernel
theorem dX1_makersOf_2 : decode cX1_makersOf 2 = .ok (.iconst 0, 1) := by decide +kernel
theorem dX1_makersOf_3 : decode cX1_makersOf 3 = .ok (.istore_n 3, 1) := by decide +kernel
theorem dX1_makersOf_4 : decode cX1_makersOf 4 = .ok (.iload_n 3, 1) := by decide +kernel
theorem dX1_makersOf_5 : decode cX1_makersOf 5 = .ok (.aload_n 0, 1) := by decide +kernel
theorem dX1_makersOf_6 : decode cX1_makersOf 6 = .ok (.getfield 28, 3) := by decide +kernel
theorem dX1_makersOf_9 : decode cX1_makersOf 9 = .ok (.getfield 40, 3) := by decide +kernel
theorem dX1_makersOf_12 : decode cX1_makersOf 12 = .ok (.if_icmp .ge 31, 3) := by decide +kernel
theorem dX1_makersOf_15 : decode cX1_makersOf 15 = .ok (.iload_n 2, 1) := by decide +kernel
theorem dX1_makersOf_16 : decode cX1_makersOf 16 = .ok (.iload_n 3, 1) := by decide +kernel
theorem dX1_makersOf_17 : decode cX1_makersOf 17 = .ok (.iload_n 1, 1) := by decide +kernel
theorem dX1_makersOf_18 : decode cX1_makersOf 18 = .ok (.if_icmp .eq 16, 3) := by decide +kernel
theorem dX1_makersOf_21 : decode cX1_makersOf 21 = .ok (.aload_n 0, 1) := by decide +kernel
theorem dX1_makersOf_22 : decode cX1_makersOf 22 = .ok (.iload_n 3, 1) := by decide +kernel
theorem dX1_makersOf_23 : decode cX1_makersOf 23 = .ok (.iload_n 1, 1) := by decide +kernel
theorem dX1_makersOf_24 : decode cX1_makersOf 24 = .ok (.invokevirtual 107, 3) := by decide +kernel
theorem dX1_makersOf_27 : decode cX1_makersOf 27 = .ok (.ifCond .eq 7, 3) := by decide +kernel
theorem dX1_makersOf_30 : decode cX1_makersOf 30 = .ok (.iconst 1, 1) := by decide +kernel
theorem dX1_makersOf_31 : decode cX1_makersOf 31 = .ok (.goto 4, 3) := by decide +kernel
theorem dX1_makersOf_34 : decode cX1_makersOf 34 = .ok (.iconst 0, 1) := by decide +kernel
theorem dX1_makersOf_35 : decode cX1_makersOf 35 = .ok (.iadd, 1) := by decide +kernel
theorem dX1_makersOf_36 : decode cX1_makersOf 36 = .ok (.istore_n 2, 1) := by decide +kernel
theorem dX1_makersOf_37 : decode cX1_makersOf 37 = .ok (.iinc 3 1, 3) := by decide +kernel
theorem dX1_makersOf_40 : decode cX1_makersOf 40 = .ok (.goto (-36), 3) := by decide +kernel
theorem dX1_makersOf_43 : decode cX1_makersOf 43 = .ok (.iload_n 2, 1) := by decide +kernel
theorem dX1_makersOf_44 : decode cX1_makersOf 44 = .ok (.ireturn, 1) := by decide +kernel
theorem dX1_usefulIrons_0 : decode cX1_usefulIrons 0 = .ok (.iconst 0, 1) := by decide +kernel
theorem dX1_usefulIrons_1 : decode cX1_usefulIrons 1 = .ok (.istore_n 1, 1) := by decide +kernel
theorem dX1_usefulIrons_2 : decode cX1_usefulIrons 2 = .ok (.iconst 0, 1) := by decide +kernel
theorem dX1_usefulIrons_3 : decode cX1_usefulIrons 3 = .ok (.istore_n 2, 1) := by decide +kernel
theorem dX1_usefulIrons_4 : decode cX1_usefulIrons 4 = .ok (.iload_n 2, 1) := by decide +kernel
theorem dX1_usefulIrons_5 : decode cX1_usefulIrons 5 = .ok (.aload_n 0, 1) := by decide +kernel
theorem dX1_usefulIrons_6 : decode cX1_usefulIrons 6 = .ok (.getfield 28, 3) := by decide +kernel
theorem dX1_usefulIrons_9 : decode cX1_usefulIrons 9 = .ok (.getfield 118, 3) := by decide +kernel
theorem dX1_usefulIrons_12 : decode cX1_usefulIrons 12 = .ok (.if_icmp .ge 43, 3) := by decide +kernel
theorem dX1_usefulIrons_15 : decode cX1_usefulIrons 15 = .ok (.iconst 0, 1) := by decide +kernel
theorem dX1_usefulIrons_16 : decode cX1_usefulIrons 16 = .ok (.istore_n 3, 1) := by decide +kernel
theorem dX1_usefulIrons_17 : decode cX1_usefulIrons 17 = .ok (.iload_n 3, 1) := by decide +kernel
theorem dX1_usefulIrons_18 : decode cX1_usefulIrons 18 = .ok (.aload_n 0, 1) := by decide +kernel
theorem dX1_usefulIrons_19 : decode cX1_usefulIrons 19 = .ok (.getfield 28, 3) := by decide +kernel
theorem dX1_usefulIrons_22 : decode cX1_usefulIrons 22 = .ok (.getfield 40, 3) := by decide +kernel
theorem dX1_usefulIrons_25 : decode cX1_usefulIrons 25 = .ok (.if_icmp .ge 24, 3) := by decide +kernel
theorem dX1_usefulIrons_28 : decode cX1_usefulIrons 28 = .ok (.aload_n 0, 1) := by decide +kernel
theorem dX1_usefulIrons_29 : decode cX1_usefulIrons 29 = .ok (.iload_n 2, 1) := by decide +kernel
theorem dX1_usefulIrons_30 : decode cX1_usefulIrons 30 = .ok (.iload_n 3, 1) := by decide +kernel
theorem dX1_usefulIrons_31 : decode cX1_usefulIrons 31 = .ok (.invokevirtual 121, 3) := by decide +kernel
theorem dX1_usefulIrons_34 : decode cX1_usefulIrons 34 = .ok (.ifCond .eq 9, 3) := by decide +kernel
theorem dX1_usefulIrons_37 : decode cX1_usefulIrons 37 = .ok (.iload_n 1, 1) := by decide +kernel
theorem dX1_usefulIrons_38 : decode cX1_usefulIrons 38 = .ok (.iconst 1, 1) := by decide +kernel
theorem dX1_usefulIrons_39 : decode cX1_usefulIrons 39 = .ok (.iload_n 2, 1) := by decide +kernel
theorem dX1_usefulIrons_40 : decode cX1_usefulIrons 40 = .ok (.ishl, 1) := by decide +kernel
theorem dX1_usefulIrons_41 : decode cX1_usefulIrons 41 = .ok (.ior, 1) := by decide +kernel
theorem dX1_usefulIrons_42 : decode cX1_usefulIrons 42 = .ok (.istore_n 1, 1) := by decide +kernel
theorem dX1_usefulIrons_43 : decode cX1_usefulIrons 43 = .ok (.iinc 3 1, 3) := by decide +kernel
theorem dX1_usefulIrons_46 : decode cX1_usefulIrons 46 = .ok (.goto (-29), 3) := by decide +kernel
theorem dX1_usefulIrons_49 : decode cX1_usefulIrons 49 = .ok (.iinc 2 1, 3) := by decide +kernel
theorem dX1_usefulIrons_52 : decode cX1_usefulIrons 52 = .ok (.goto (-48), 3) := by decide +kernel
theorem dX1_usefulIrons_55 : decode cX1_usefulIrons 55 = .ok (.iload_n 1, 1) := by decide +kernel
theorem dX1_usefulIrons_56 : decode cX1_usefulIrons 56 = .ok (.ireturn, 1) := by decide +kernel
theorem dX1_makesAnother_0 : decode cX1_makesAnother 0 = .ok (.iconst 0, 1) := by decide +kernel
theorem dX1_makesAnother_1 : decode cX1_makesAnother 1 = .ok (.istore_n 3, 1) := by decide +kernel
theorem dX1_makesAnother_2 : decode cX1_makesAnother 2 = .ok (.iload_n 3, 1) := by decide +kernel
theorem dX1_makesAnother_3 : decode cX1_makesAnother 3 = .ok (.aload_n 0, 1) := by decide +kernel
theorem dX1_makesAnother_4 : decode cX1_makesAnother 4 = .ok (.getfield 32, 3) := by decide +kernel
theorem dX1_makesAnother_7 : decode cX1_makesAnother 7 = .ok (.invokevirtual 54, 3) := by decide +kernel
theorem dX1_makesAnother_10 : decode cX1_makesAnother 10 = .ok (.if_icmp .ge 83, 3) := by decide +kernel
theorem dX1_makesAnother_13 : decode cX1_makesAnother 13 = .ok (.aload_n 0, 1) := by decide +kernel
theorem dX1_makesAnother_14 : decode cX1_makesAnother 14 = .ok (.getfield 32, 3) := by decide +kernel
theorem dX1_makesAnother_17 : decode cX1_makesAnother 17 = .ok (.aload_n 0, 1) := by decide +kernel
theorem dX1_makesAnother_18 : decode cX1_makesAnother 18 = .ok (.getfield 28, 3) := by decide +kernel
theorem dX1_makesAnother_21 : decode cX1_makesAnother 21 = .ok (.getfield 45, 3) := by decide +kernel
theorem dX1_makesAnother_24 : decode cX1_makesAnother 24 = .ok (.iload_n 2, 1) := by decide +kernel
theorem dX1_makesAnother_25 : decode cX1_makesAnother 25 = .ok (.iaload, 1) := by decide +kernel
theorem dX1_makesAnother_26 : decode cX1_makesAnother 26 = .ok (.aload_n 0, 1) := by decide +kernel
theorem dX1_makesAnother_27 : decode cX1_makesAnother 27 = .ok (.getfield 36, 3) := by decide +kernel
theorem dX1_makesAnother_30 : decode cX1_makesAnother 30 = .ok (.iload_n 1, 1) := by decide +kernel
theorem dX1_makesAnother_31 : decode cX1_makesAnother 31 = .ok (.iload_n 3, 1) := by decide +kernel
theorem dX1_makesAnother_32 : decode cX1_makesAnother 32 = .ok (.invokevirtual 124, 3) := by decide +kernel
theorem dX1_makesAnother_35 : decode cX1_makesAnother 35 = .ok (.ior, 1) := by decide +kernel
theorem dX1_makesAnother_36 : decode cX1_makesAnother 36 = .ok (.invokevirtual 48, 3) := by decide +kernel
theorem dX1_makesAnother_39 : decode cX1_makesAnother 39 = .ok (.istore 4, 2) := by decide +kernel
theorem dX1_makesAnother_41 : decode cX1_makesAnother 41 = .ok (.iconst 0, 1) := by decide +kernel
theorem dX1_makesAnother_42 : decode cX1_makesAnother 42 = .ok (.istore 5, 2) := by decide +kernel
theorem dX1_makesAnother_44 : decode cX1_makesAnother 44 = .ok (.iload 5, 2) := by decide +kernel
theorem dX1_makesAnother_46 : decode cX1_makesAnother 46 = .ok (.aload_n 0, 1) := by decide +kernel
theorem dX1_makesAnother_47 : decode cX1_makesAnother 47 = .ok (.getfield 28, 3) := by decide +kernel
theorem dX1_makesAnother_50 : decode cX1_makesAnother 50 = .ok (.getfield 40, 3) := by decide +kernel
theorem dX1_makesAnother_53 : decode cX1_makesAnother 53 = .ok (.if_icmp .ge 34, 3) := by decide +kernel
theorem dX1_makesAnother_56 : decode cX1_makesAnother 56 = .ok (.aload_n 0, 1) := by decide +kernel
theorem dX1_makesAnother_57 : decode cX1_makesAnother 57 = .ok (.getfield 9, 3) := by decide +kernel
theorem dX1_makesAnother_60 : decode cX1_makesAnother 60 = .ok (.iload 5, 2) := by decide +kernel
theorem dX1_makesAnother_62 : decode cX1_makesAnother 62 = .ok (.iaload, 1) := by decide +kernel
theorem dX1_makesAnother_63 : decode cX1_makesAnother 63 = .ok (.iload 4, 2) := by decide +kernel
theorem dX1_makesAnother_65 : decode cX1_makesAnother 65 = .ok (.if_icmp .ne 16, 3) := by decide +kernel
theorem dX1_makesAnother_68 : decode cX1_makesAnother 68 = .ok (.iload 4, 2) := by decide +kernel
theorem dX1_makesAnother_70 : decode cX1_makesAnother 70 = .ok (.aload_n 0, 1) := by decide +kernel
theorem dX1_makesAnother_71 : decode cX1_makesAnother 71 = .ok (.getfield 9, 3) := by decide +kernel
theorem dX1_makesAnother_74 : decode cX1_makesAnother 74 = .ok (.iload_n 2, 1) := by decide +kernel
theorem dX1_makesAnother_75 : decode cX1_makesAnother 75 = .ok (.iaload, 1) := by decide +kernel
theorem dX1_makesAnother_76 : decode cX1_makesAnother 76 = .ok (.if_icmp .eq 5, 3) := by decide +kernel
theorem dX1_makesAnother_79 : decode cX1_makesAnother 79 = .ok (.iconst 1, 1) := by decide +kernel
theorem dX1_makesAnother_80 : decode cX1_makesAnother 80 = .ok (.ireturn, 1) := by decide +kernel
theorem dX1_makesAnother_81 : decode cX1_makesAnother 81 = .ok (.iinc 5 1, 3) := by decide +kernel
theorem dX1_makesAnother_84 : decode cX1_makesAnother 84 = .ok (.goto (-40), 3) := by decide +kernel
theorem dX1_makesAnother_87 : decode cX1_makesAnother 87 = .ok (.iinc 3 1, 3) := by decide +kernel
theorem dX1_makesAnother_90 : decode cX1_makesAnother 90 = .ok (.goto (-88), 3) := by decide +kernel
theorem dX1_makesAnother_93 : decode cX1_makesAnother 93 = .ok (.iconst 0, 1) := by decide +kernel
theorem dX1_makesAnother_94 : decode cX1_makesAnother 94 = .ok (.ireturn, 1) := by decide +kernel
theorem dX1_nearestHerd_0 : decode cX1_nearestHerd 0 = .ok (.iconst (-1), 1) := by decide +kernel
theorem dX1_nearestHerd_1 : decode cX1_nearestHerd 1 = .ok (.istore_n 2, 1) := by decide +kernel
theorem dX1_nearestHerd_2 : decode cX1_nearestHerd 2 = .ok (.bipush 13, 2) := by decide +kernel
theorem dX1_nearestHerd_4 : decode cX1_nearestHerd 4 = .ok (.istore_n 3, 1) := by decide +kernel
theorem dX1_nearestHerd_5 : decode cX1_nearestHerd 5 = .ok (.iconst 0, 1) := by decide +kernel
theorem dX1_nearestHerd_6 : decode cX1_nearestHerd 6 = .ok (.istore 4, 2) := by decide +kernel
theorem dX1_nearestHerd_8 : decode cX1_nearestHerd 8 = .ok (.iload 4, 2) := by decide +kernel
theorem dX1_nearestHerd_10 : decode cX1_nearestHerd 10 = .ok (.aload_n 0, 1) := by decide +kernel
theorem dX1_nearestHerd_11 : decode cX1_nearestHerd 11 = .ok (.getfield 28, 3) := by decide +kernel
theorem dX1_nearestHerd_14 : decode cX1_nearestHerd 14 = .ok (.getfield 40, 3) := by decide +kernel
theorem dX1_nearestHerd_17 : decode cX1_nearestHerd 17 = .ok (.if_icmp .ge 41, 3) := by decide +kernel
theorem dX1_nearestHerd_20 : decode cX1_nearestHerd 20 = .ok (.aload_n 0, 1) := by decide +kernel
theorem dX1_nearestHerd_21 : decode cX1_nearestHerd 21 = .ok (.getfield 32, 3) := by decide +kernel
theorem dX1_nearestHerd_24 : decode cX1_nearestHerd 24 = .ok (.aload_n 0, 1) := by decide +kernel
theorem dX1_nearestHerd_25 : decode cX1_nearestHerd 25 = .ok (.getfield 28, 3) := by decide +kernel
theorem dX1_nearestHerd_28 : decode cX1_nearestHerd 28 = .ok (.getfield 45, 3) := by decide +kernel
theorem dX1_nearestHerd_31 : decode cX1_nearestHerd 31 = .ok (.iload 4, 2) := by decide +kernel
theorem dX1_nearestHerd_33 : decode cX1_nearestHerd 33 = .ok (.iaload, 1) := by decide +kernel
theorem dX1_nearestHerd_34 : decode cX1_nearestHerd 34 = .ok (.iload_n 1, 1) := by decide +kernel
theorem dX1_nearestHerd_35 : decode cX1_nearestHerd 35 = .ok (.invokevirtual 127, 3) := by decide +kernel
theorem dX1_nearestHerd_38 : decode cX1_nearestHerd 38 = .ok (.istore 5, 2) := by decide +kernel
theorem dX1_nearestHerd_40 : decode cX1_nearestHerd 40 = .ok (.iload 5, 2) := by decide +kernel
theorem dX1_nearestHerd_42 : decode cX1_nearestHerd 42 = .ok (.iload_n 3, 1) := by decide +kernel
theorem dX1_nearestHerd_43 : decode cX1_nearestHerd 43 = .ok (.if_icmp .ge 9, 3) := by decide +kernel
theorem dX1_nearestHerd_46 : decode cX1_nearestHerd 46 = .ok (.iload 4, 2) := by decide +kernel
theorem dX1_nearestHerd_48 : decode cX1_nearestHerd 48 = .ok (.istore_n 2, 1) := by decide +kernel
theorem dX1_nearestHerd_49 : decode cX1_nearestHerd 49 = .ok (.iload 5, 2) := by decide +kernel
theorem dX1_nearestHerd_51 : decode cX1_nearestHerd 51 = .ok (.istore_n 3, 1) := by decide +kernel
theorem dX1_nearestHerd_52 : decode cX1_nearestHerd 52 = .ok (.iinc 4 1, 3) := by decide +kernel
theorem dX1_nearestHerd_55 : decode cX1_nearestHerd 55 = .ok (.goto (-47), 3) := by decide +kernel
theorem dX1_nearestHerd_58 : decode cX1_nearestHerd 58 = .ok (.iload_n 2, 1) := by decide +kernel
theorem dX1_nearestHerd_59 : decode cX1_nearestHerd 59 = .ok (.ireturn, 1) := by decide +kernel
theorem dX2_init_0 : decode cX2_init 0 = .ok (.aload_n 0, 1) := by decide +kernel
theorem dX2_init_1 : decode cX2_init 1 = .ok (.invokespecial 3, 3) := by decide +kernel
theorem dX2_init_4 : decode cX2_init 4 = .ok (.aload_n 0, 1) := by decide +kernel
theorem dX2_init_5 : decode cX2_init 5 = .ok (.sipush 270, 3) := by decide +kernel
theorem dX2_init_8 : decode cX2_init 8 = .ok (.newarray .int, 2) := by decide +kernel
theorem dX2_init_10 : decode cX2_init 10 = .ok (.putfield 9, 3) := by decide +kernel
theorem dX2_init_13 : decode cX2_init 13 = .ok (.aload_n 0, 1) := by decide +kernel
theorem dX2_init_14 : decode cX2_init 14 = .ok (.sipush 270, 3) := by decide +kernel
theorem dX2_init_17 : decode cX2_init 17 = .ok (.newarray .int, 2) := by decide +kernel
theorem dX2_init_19 : decode cX2_init 19 = .ok (.putfield 13, 3) := by decide +kernel
theorem dX2_init_22 : decode cX2_init 22 = .ok (.aload_n 0, 1) := by decide +kernel
theorem dX2_init_23 : decode cX2_init 23 = .ok (.bipush 30, 2) := by decide +kernel
theorem dX2_init_25 : decode cX2_init 25 = .ok (.newarray .int, 2) := by decide +kernel
theorem dX2_init_27 : decode cX2_init 27 = .ok (.putfield 16, 3) := by decide +kernel
theorem dX2_init_30 : decode cX2_init 30 = .ok (.aload_n 0, 1) := by decide +kernel
theorem dX2_init_31 : decode cX2_init 31 = .ok (.iconst 5, 1) := by decide +kernel
theorem dX2_init_32 : decode cX2_init 32 = .ok (.newarray .int, 2) := by decide +kernel
theorem dX2_init_34 : decode cX2_init 34 = .ok (.putfield 19, 3) := by decide +kernel
theorem dX2_init_37 : decode cX2_init 37 = .ok (.aload_n 0, 1) := by decide +kernel
theorem dX2_init_38 : decode cX2_init 38 = .ok (.iconst 0, 1) := by decide +kernel
theorem dX2_init_39 : decode cX2_init 39 = .ok (.putfield 22, 3) := by decide +kernel
theorem dX2_init_42 : decode cX2_init 42 = .ok (.aload_n 0, 1) := by decide +kernel
theorem dX2_init_43 : decode cX2_init 43 = .ok (.iconst 0, 1) := by decide +kernel
theorem dX2_init_44 : decode cX2_init 44 = .ok (.putfield 26, 3) := by decide +kernel
theorem dX2_init_47 : decode cX2_init 47 = .ok (.return_, 1) := by decide +kernel
theorem dX2_empty_0 : decode cX2_empty 0 = .ok (.aload_n 0, 1) := by decide +kernel
theorem dX2_empty_1 : decode cX2_empty 1 = .ok (.iconst 0, 1) := by decide +kernel
theorem dX2_empty_2 : decode cX2_empty 2 = .ok (.putfield 22, 3) := by decide +kernel
theorem dX2_empty_5 : decode cX2_empty 5 = .ok (.aload_n 0, 1) := by decide +kernel
theorem dX2_empty_6 : decode cX2_empty 6 = .ok (.iconst 0, 1) := by decide +kernel
theorem dX2_empty_7 : decode cX2_empty 7 = .ok (.putfield 26, 3) := by decide +kernel
theorem dX2_empty_10 : decode cX2_empty 10 = .ok (.return_, 1) := by decide +kernel
theorem dX2_units_0 : decode cX2_units 0 = .ok (.aload_n 0, 1) := by decide +kernel
theorem dX2_units_1 : decode cX2_units 1 = .ok (.getfield 26, 3) := by decide +kernel
theorem dX2_units_4 : decode cX2_units 4 = .ok (.ireturn, 1) := by decide +kernel
theorem dX2_countUnit_0 : decode cX2_countUnit 0 = .ok (.aload_n 0, 1) := by decide +kernel
theorem dX2_countUnit_1 : decode cX2_countUnit 1 = .ok (.getfield 26, 3) := by decide +kernel
theorem dX2_countUnit_4 : decode cX2_countUnit 4 = .ok (.bipush 30, 2) := by decide +kernel
theorem dX2_countUnit_6 : decode cX2_countUnit 6 = .ok (.if_icmp .lt 5, 3) := by decide +kernel
theorem dX2_countUnit_9 : decode cX2_countUnit 9 = .ok (.iconst 0, 1) := by decide +kernel
theorem dX2_countUnit_10 : decode cX2_countUnit 10 = .ok (.ireturn, 1) := by decide +kernel
theorem dX2_countUnit_11 : decode cX2_countUnit 11 = .ok (.aload_n 0, 1) := by decide +kernel
theorem dX2_countUnit_12 : decode cX2_countUnit 12 = .ok (.dup, 1) := by decide +kernel
theorem dX2_countUnit_13 : decode cX2_countUnit 13 = .ok (.getfield 26, 3) := by decide +kernel
theorem dX2_countUnit_16 : decode cX2_countUnit 16 = .ok (.iconst 1, 1) := by decide +kernel
theorem dX2_countUnit_17 : decode cX2_countUnit 17 = .ok (.iadd, 1) := by decide +kernel
theorem dX2_countUnit_18 : decode cX2_countUnit 18 = .ok (.putfield 26, 3) := by decide +kernel
theorem dX2_countUnit_21 : decode cX2_countUnit 21 = .ok (.iconst 1, 1) := by decide +kernel
theorem dX2_countUnit_22 : decode cX2_countUnit 22 = .ok (.ireturn, 1) := by decide +kernel
theorem dX2_add_0 : decode cX2_add 0 = .ok (.aload_n 0, 1) := by decide +kernel
theorem dX2_add_1 : decode cX2_add 1 = .ok (.getfield 22, 3) := by decide +kernel
theorem dX2_add_4 : decode cX2_add 4 = .ok (.sipush 270, 3) := by decide +kernel
theorem dX2_add_7 : decode cX2_add 7 = .ok (.if_icmp .ge 33, 3) := by decide +kernel
theorem dX2_add_10 : decode cX2_add 10 = .ok (.aload_n 0, 1) := by decide +kernel
theorem dX2_add_11 : decode cX2_add 11 = .ok (.getfield 9, 3) := by decide +kernel
theorem dX2_add_14 : decode cX2_add 14 = .ok (.aload_n 0, 1) := by decide +kernel
theorem dX2_add_15 : decode cX2_add 15 = .ok (.getfield 22, 3) := by decide +kernel
theorem dX2_add_18 : decode cX2_add 18 = .ok (.iload_n 1, 1) := by decide +kernel
theorem dX2_add_19 : decode cX2_add 19 = .ok (.iastore, 1) := by decide +kernel
theorem dX2_add_20 : decode cX2_add 20 = .ok (.aload_n 0, 1) := by decide +kernel
theorem dX2_add_21 : decode cX2_add 21 = .ok (.getfield 13, 3) := by decide +kernel
theorem dX2_add_24 : decode cX2_add 24 = .ok (.aload_n 0, 1) := by decide +kernel
theorem dX2_add_25 : decode cX2_add 25 = .ok (.getfield 22, 3) := by decide +kernel
theorem dX2_add_28 : decode cX2_add 28 = .ok (.iload_n 2, 1) := by decide +kernel
theorem dX2_add_29 : decode cX2_add 29 = .ok (.iastore, 1) := by decide +kernel
theorem dX2_add_30 : decode cX2_add 30 = .ok (.aload_n 0, 1) := by decide +kernel
theorem dX2_add_31 : decode cX2_add 31 = .ok (.dup, 1) := by decide +kernel
theorem dX2_add_32 : decode cX2_add 32 = .ok (.getfield 22, 3) := by decide +kernel
theorem dX2_add_35 : decode cX2_add 35 = .ok (.iconst 1, 1) := by decide +kernel
theorem dX2_add_36 : decode cX2_add 36 = .ok (.iadd, 1) := by decide +kernel
theorem dX2_add_37 : decode cX2_add 37 = .ok (.putfield 22, 3) := by decide +kernel
theorem dX2_add_40 : decode cX2_add 40 = .ok (.return_, 1) := by decide +kernel
theorem dX2_copyFrom_0 : decode cX2_copyFrom 0 = .ok (.aload_n 1, 1) := by decide +kernel
theorem dX2_copyFrom_1 : decode cX2_copyFrom 1 = .ok (.getfield 9, 3) := by decide +kernel
theorem dX2_copyFrom_4 : decode cX2_copyFrom 4 = .ok (.iconst 0, 1) := by decide +kernel
theorem dX2_copyFrom_5 : decode cX2_copyFrom 5 = .ok (.aload_n 0, 1) := by decide +kernel
theorem dX2_copyFrom_6 : decode cX2_copyFrom 6 = .ok (.getfield 9, 3) := by decide +kernel
theorem dX2_copyFrom_9 : decode cX2_copyFrom 9 = .ok (.iconst 0, 1) := by decide +kernel
theorem dX2_copyFrom_10 : decode cX2_copyFrom 10 = .ok (.sipush 270, 3) := by decide +kernel
theorem dX2_copyFrom_13 : decode cX2_copyFrom 13 = .ok (.invokestatic 29, 3) := by decide +kernel
theorem dX2_copyFrom_16 : decode cX2_copyFrom 16 = .ok (.aload_n 1, 1) := by decide +kernel
theorem dX2_copyFrom_17 : decode cX2_copyFrom 17 = .ok (.getfield 13, 3) := by decide +kernel
theorem dX2_copyFrom_20 : decode cX2_copyFrom 20 = .ok (.iconst 0, 1) := by decide +kernel
theorem dX2_copyFrom_21 : decode cX2_copyFrom 21 = .ok (.aload_n 0, 1) := by decide +kernel
theorem dX2_copyFrom_22 : decode cX2_copyFrom 22 = .ok (.getfield 13, 3) := by decide +kernel
theorem dX2_copyFrom_25 : decode cX2_copyFrom 25 = .ok (.iconst 0, 1) := by decide +kernel
theorem dX2_copyFrom_26 : decode cX2_copyFrom 26 = .ok (.sipush 270, 3) := by decide +kernel
theorem dX2_copyFrom_29 : decode cX2_copyFrom 29 = .ok (.invokestatic 29, 3) := by decide +kernel
theorem dX2_copyFrom_32 : decode cX2_copyFrom 32 = .ok (.aload_n 0, 1) := by decide +kernel
theorem dX2_copyFrom_33 : decode cX2_copyFrom 33 = .ok (.aload_n 1, 1) := by decide +kernel
theorem dX2_copyFrom_34 : decode cX2_copyFrom 34 = .ok (.getfield 22, 3) := by decide +kernel
theorem dX2_copyFrom_37 : decode cX2_copyFrom 37 = .ok (.putfield 22, 3) := by decide +kernel
theorem dX2_copyFrom_40 : decode cX2_copyFrom 40 = .ok (.aload_n 0, 1) := by decide +kernel
theorem dX2_copyFrom_41 : decode cX2_copyFrom 41 = .ok (.aload_n 1, 1) := by decide +kernel
theorem dX2_copyFrom_42 : decode cX2_copyFrom 42 = .ok (.getfield 26, 3) := by decide +kernel
theorem dX2_copyFrom_45 : decode cX2_copyFrom 45 = .ok (.putfield 26, 3) := by decide +kernel
theorem dX2_copyFrom_48 : decode cX2_copyFrom 48 = .ok (.return_, 1) := by decide +kernel
theorem dX2_holds_0 : decode cX2_holds 0 = .ok (.aload_n 0, 1) := by decide +kernel
theorem dX2_holds_1 : decode cX2_holds 1 = .ok (.getfield 22, 3) := by decide +kernel
theorem dX2_holds_4 : decode cX2_holds 4 = .ok (.ifCond .ne 5, 3) := by decide +kernel
theorem dX2_holds_7 : decode cX2_holds 7 = .ok (.iconst 1, 1) := by decide +kernel
theorem dX2_holds_8 : decode cX2_holds 8 = .ok (.ireturn, 1) := by decide +kernel
theorem dX2_holds_9 : decode cX2_holds 9 = .ok (.aload_n 0, 1) := by decide +kernel
theorem dX2_holds_10 : decode cX2_holds 10 = .ok (.getfield 19, 3) := by decide +kernel
theorem dX2_holds_13 : decode cX2_holds 13 = .ok (.iconst 0, 1) := by decide +kernel
theorem dX2_holds_14 : decode cX2_holds 14 = .ok (.iload_n 1, 1) := by decide +kernel
theorem dX2_holds_15 : decode cX2_holds 15 = .ok (.iastore, 1) := by decide +kernel
theorem dX2_holds_16 : decode cX2_holds 16 = .ok (.aload_n 0, 1) := by decide +kernel
theorem dX2_holds_17 : decode cX2_holds 17 = .ok (.getfield 19, 3) := by decide +kernel
theorem dX2_holds_20 : decode cX2_holds 20 = .ok (.iconst 1, 1) := by decide +kernel
theorem dX2_holds_21 : decode cX2_holds 21 = .ok (.iload_n 2, 1) := by decide +kernel
theorem dX2_holds_22 : decode cX2_holds 22 = .ok (.iastore, 1) := by decide +kernel
theorem dX2_holds_23 : decode cX2_holds 23 = .ok (.aload_n 0, 1) := by decide +kernel
theorem dX2_holds_24 : decode cX2_holds 24 = .ok (.getfield 19, 3) := by decide +kernel
theorem dX2_holds_27 : decode cX2_holds 27 = .ok (.iconst 2, 1) := by decide +kernel
theorem dX2_holds_28 : decode cX2_holds 28 = .ok (.iload_n 3, 1) := by decide +kernel
theorem dX2_holds_29 : decode cX2_holds 29 = .ok (.iastore, 1) := by decide +kernel
theorem dX2_holds_30 : decode cX2_holds 30 = .ok (.aload_n 0, 1) := by decide +kernel
theorem dX2_holds_31 : decode cX2_holds 31 = .ok (.getfield 19, 3) := by decide +kernel
theorem dX2_holds_34 : decode cX2_holds 34 = .ok (.iconst 3, 1) := by decide +kernel
theorem dX2_holds_35 : decode cX2_holds 35 = .ok (.iload 4, 2) := by decide +kernel
theorem dX2_holds_37 : decode cX2_holds 37 = .ok (.iastore, 1) := by decide +kernel
theorem dX2_holds_38 : decode cX2_holds 38 = .ok (.aload_n 0, 1) := by decide +kernel
theorem dX2_holds_39 : decode cX2_holds 39 = .ok (.getfield 19, 3) := by decide +kernel
theorem dX2_holds_42 : decode cX2_holds 42 = .ok (.iconst 4, 1) := by decide +kernel
theorem dX2_holds_43 : decode cX2_holds 43 = .ok (.iload 5, 2) := by decide +kernel
theorem dX2_holds_45 : decode cX2_holds 45 = .ok (.iastore, 1) := by decide +kernel
theorem dX2_holds_46 : decode cX2_holds 46 = .ok (.iconst 0, 1) := by decide +kernel
theorem dX2_holds_47 : decode cX2_holds 47 = .ok (.istore 6, 2) := by decide +kernel
theorem dX2_holds_49 : decode cX2_holds 49 = .ok (.iconst 0, 1) := by decide +kernel
theorem dX2_holds_50 : decode cX2_holds 50 = .ok (.istore 7, 2) := by decide +kernel
theorem dX2_holds_52 : decode cX2_holds 52 = .ok (.iload 7, 2) := by decide +kernel
theorem dX2_holds_54 : decode cX2_holds 54 = .ok (.aload_n 0, 1) := by decide +kernel
theorem dX2_holds_55 : decode cX2_holds 55 = .ok (.getfield 22, 3) := by decide +kernel
theorem dX2_holds_58 : decode cX2_holds 58 = .ok (.if_icmp .ge 31, 3) := by decide +kernel
theorem dX2_holds_61 : decode cX2_holds 61 = .ok (.aload_n 0, 1) := by decide +kernel
theorem dX2_holds_62 : decode cX2_holds 62 = .ok (.aload_n 0, 1) := by decide +kernel
theorem dX2_holds_63 : decode cX2_holds 63 = .ok (.getfield 9, 3) := by decide +kernel
theorem dX2_holds_66 : decode cX2_holds 66 = .ok (.iload 7, 2) := by decide +kernel
theorem dX2_holds_68 : decode cX2_holds 68 = .ok (.iaload, 1) := by decide +kernel
theorem dX2_holds_69 : decode cX2_holds 69 = .ok (.aload_n 0, 1) := by decide +kernel
theorem dX2_holds_70 : decode cX2_holds 70 = .ok (.getfield 13, 3) := by decide +kernel
theorem dX2_holds_73 : decode cX2_holds 73 = .ok (.iload 7, 2) := by decide +kernel
theorem dX2_holds_75 : decode cX2_holds 75 = .ok (.iaload, 1) := by decide +kernel
theorem dX2_holds_76 : decode cX2_holds 76 = .ok (.iload 6, 2) := by decide +kernel
theorem dX2_holds_78 : decode cX2_holds 78 = .ok (.invokevirtual 35, 3) := by decide +kernel
theorem dX2_holds_81 : decode cX2_holds 81 = .ok (.istore 6, 2) := by decide +kernel
theorem dX2_holds_83 : decode cX2_holds 83 = .ok (.iinc 7 1, 3) := by decide +kernel
theorem dX2_holds_86 : decode cX2_holds 86 = .ok (.goto (-34), 3) := by decide +kernel
theorem dX2_holds_89 : decode cX2_holds 89 = .ok (.aload_n 0, 1) := by decide +kernel
theorem dX2_holds_90 : decode cX2_holds 90 = .ok (.getfield 16, 3) := by decide +kernel
theorem dX2_holds_93 : decode cX2_holds 93 = .ok (.iconst 0, 1) := by decide +kernel
theorem dX2_holds_94 : decode cX2_holds 94 = .ok (.iaload, 1) := by decide +kernel
theorem dX2_holds_95 : decode cX2_holds 95 = .ok (.ifCond .eq 7, 3) := by decide +kernel
theorem dX2_holds_98 : decode cX2_holds 98 = .ok (.iconst 1, 1) := by decide +kernel
theorem dX2_holds_99 : decode cX2_holds 99 = .ok (.goto 4, 3) := by decide +kernel
theorem dX2_holds_102 : decode cX2_holds 102 = .ok (.iconst 0, 1) := by decide +kernel
theorem dX2_holds_103 : decode cX2_holds 103 = .ok (.ireturn, 1) := by decide +kernel
theorem dX2_work_0 : decode cX2_work 0 = .ok (.iload_n 1, 1) := by decide +kernel
theorem dX2_work_1 : decode cX2_work 1 = .ok (.sipush 141, 3) := by decide +kernel
theorem dX2_work_4 : decode cX2_work 4 = .ok (.if_icmp .lt 14, 3) := by decide +kernel
theorem dX2_work_7 : decode cX2_work 7 = .ok (.iload_n 1, 1) := by decide +kernel
theorem dX2_work_8 : decode cX2_work 8 = .ok (.sipush 145, 3) := by decide +kernel
theorem dX2_work_11 : decode cX2_work 11 = .ok (.if_icmp .gt 7, 3) := by decide +kernel
