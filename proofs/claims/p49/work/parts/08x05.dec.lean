theorem dX8_takeNewName_25 : decode cX8_takeNewName 25 = .ok (.invokevirtual 134, 3) := by decide +kernel
theorem dX8_takeNewName_28 : decode cX8_takeNewName 28 = .ok (.iconst (-1), 1) := by decide +kernel
theorem dX8_takeNewName_29 : decode cX8_takeNewName 29 = .ok (.if_icmp .eq 11, 3) := by decide +kernel
theorem dX8_takeNewName_32 : decode cX8_takeNewName 32 = .ok (.aload_n 0, 1) := by decide +kernel
theorem dX8_takeNewName_33 : decode cX8_takeNewName 33 = .ok (.getfield 9, 3) := by decide +kernel
theorem dX8_takeNewName_36 : decode cX8_takeNewName 36 = .ok (.iconst 3, 1) := by decide +kernel
theorem dX8_takeNewName_37 : decode cX8_takeNewName 37 = .ok (.invokevirtual 67, 3) := by decide +kernel
theorem dX8_takeNewName_40 : decode cX8_takeNewName 40 = .ok (.iload_n 2, 1) := by decide +kernel
theorem dX8_takeNewName_41 : decode cX8_takeNewName 41 = .ok (.aload_n 1, 1) := by decide +kernel
theorem dX8_takeNewName_42 : decode cX8_takeNewName 42 = .ok (.arraylength, 1) := by decide +kernel
theorem dX8_takeNewName_43 : decode cX8_takeNewName 43 = .ok (.if_icmp .ge 13, 3) := by decide +kernel
theorem dX8_takeNewName_46 : decode cX8_takeNewName 46 = .ok (.aload_n 1, 1) := by decide +kernel
theorem dX8_takeNewName_47 : decode cX8_takeNewName 47 = .ok (.iload_n 2, 1) := by decide +kernel
theorem dX8_takeNewName_48 : decode cX8_takeNewName 48 = .ok (.aload_n 0, 1) := by decide +kernel
theorem dX8_takeNewName_49 : decode cX8_takeNewName 49 = .ok (.getfield 9, 3) := by decide +kernel
theorem dX8_takeNewName_52 : decode cX8_takeNewName 52 = .ok (.invokevirtual 138, 3) := by decide +kernel
theorem dX8_takeNewName_55 : decode cX8_takeNewName 55 = .ok (.lastore, 1) := by decide +kernel
theorem dX8_takeNewName_56 : decode cX8_takeNewName 56 = .ok (.aload_n 0, 1) := by decide +kernel
theorem dX8_takeNewName_57 : decode cX8_takeNewName 57 = .ok (.getfield 9, 3) := by decide +kernel
theorem dX8_takeNewName_60 : decode cX8_takeNewName 60 = .ok (.invokevirtual 83, 3) := by decide +kernel
theorem dX8_takeNewName_63 : decode cX8_takeNewName 63 = .ok (.return_, 1) := by decide +kernel
theorem dX8_takeHerd_0 : decode cX8_takeHerd 0 = .ok (.aload_n 0, 1) := by decide +kernel
theorem dX8_takeHerd_1 : decode cX8_takeHerd 1 = .ok (.getfield 9, 3) := by decide +kernel
theorem dX8_takeHerd_4 : decode cX8_takeHerd 4 = .ok (.invokevirtual 29, 3) := by decide +kernel
theorem dX8_takeHerd_7 : decode cX8_takeHerd 7 = .ok (.sipush 200, 3) := by decide +kernel
theorem dX8_takeHerd_10 : decode cX8_takeHerd 10 = .ok (.if_icmp .eq 13, 3) := by decide +kernel
theorem dX8_takeHerd_13 : decode cX8_takeHerd 13 = .ok (.aload_n 0, 1) := by decide +kernel
theorem dX8_takeHerd_14 : decode cX8_takeHerd 14 = .ok (.getfield 9, 3) := by decide +kernel
theorem dX8_takeHerd_17 : decode cX8_takeHerd 17 = .ok (.iconst 2, 1) := by decide +kernel
theorem dX8_takeHerd_18 : decode cX8_takeHerd 18 = .ok (.invokevirtual 67, 3) := by decide +kernel
theorem dX8_takeHerd_21 : decode cX8_takeHerd 21 = .ok (.iconst 0, 1) := by decide +kernel
theorem dX8_takeHerd_22 : decode cX8_takeHerd 22 = .ok (.ireturn, 1) := by decide +kernel
theorem dX8_takeHerd_23 : decode cX8_takeHerd 23 = .ok (.aload_n 0, 1) := by decide +kernel
theorem dX8_takeHerd_24 : decode cX8_takeHerd 24 = .ok (.aload_n 0, 1) := by decide +kernel
theorem dX8_takeHerd_25 : decode cX8_takeHerd 25 = .ok (.getfield 15, 3) := by decide +kernel
theorem dX8_takeHerd_28 : decode cX8_takeHerd 28 = .ok (.getfield 95, 3) := by decide +kernel
theorem dX8_takeHerd_31 : decode cX8_takeHerd 31 = .ok (.aload_n 0, 1) := by decide +kernel
theorem dX8_takeHerd_32 : decode cX8_takeHerd 32 = .ok (.getfield 15, 3) := by decide +kernel
theorem dX8_takeHerd_35 : decode cX8_takeHerd 35 = .ok (.getfield 92, 3) := by decide +kernel
theorem dX8_takeHerd_38 : decode cX8_takeHerd 38 = .ok (.invokevirtual 134, 3) := by decide +kernel
theorem dX8_takeHerd_41 : decode cX8_takeHerd 41 = .ok (.istore_n 1, 1) := by decide +kernel
theorem dX8_takeHerd_42 : decode cX8_takeHerd 42 = .ok (.iload_n 1, 1) := by decide +kernel
theorem dX8_takeHerd_43 : decode cX8_takeHerd 43 = .ok (.iconst (-1), 1) := by decide +kernel
theorem dX8_takeHerd_44 : decode cX8_takeHerd 44 = .ok (.if_icmp .ne 13, 3) := by decide +kernel
theorem dX8_takeHerd_47 : decode cX8_takeHerd 47 = .ok (.aload_n 0, 1) := by decide +kernel
theorem dX8_takeHerd_48 : decode cX8_takeHerd 48 = .ok (.getfield 9, 3) := by decide +kernel
theorem dX8_takeHerd_51 : decode cX8_takeHerd 51 = .ok (.iconst 5, 1) := by decide +kernel
theorem dX8_takeHerd_52 : decode cX8_takeHerd 52 = .ok (.invokevirtual 67, 3) := by decide +kernel
theorem dX8_takeHerd_55 : decode cX8_takeHerd 55 = .ok (.iconst 0, 1) := by decide +kernel
theorem dX8_takeHerd_56 : decode cX8_takeHerd 56 = .ok (.ireturn, 1) := by decide +kernel
theorem dX8_takeHerd_57 : decode cX8_takeHerd 57 = .ok (.aload_n 0, 1) := by decide +kernel
theorem dX8_takeHerd_58 : decode cX8_takeHerd 58 = .ok (.getfield 9, 3) := by decide +kernel
theorem dX8_takeHerd_61 : decode cX8_takeHerd 61 = .ok (.invokevirtual 83, 3) := by decide +kernel
theorem dX8_takeHerd_64 : decode cX8_takeHerd 64 = .ok (.iload_n 1, 1) := by decide +kernel
theorem dX8_takeHerd_65 : decode cX8_takeHerd 65 = .ok (.ireturn, 1) := by decide +kernel
theorem dX8_indexOfName_0 : decode cX8_indexOfName 0 = .ok (.iconst 0, 1) := by decide +kernel
theorem dX8_indexOfName_1 : decode cX8_indexOfName 1 = .ok (.istore_n 3, 1) := by decide +kernel
theorem dX8_indexOfName_2 : decode cX8_indexOfName 2 = .ok (.iload_n 3, 1) := by decide +kernel
theorem dX8_indexOfName_3 : decode cX8_indexOfName 3 = .ok (.iload_n 2, 1) := by decide +kernel
theorem dX8_indexOfName_4 : decode cX8_indexOfName 4 = .ok (.if_icmp .ge 31, 3) := by decide +kernel
theorem dX8_indexOfName_7 : decode cX8_indexOfName 7 = .ok (.iload_n 3, 1) := by decide +kernel
theorem dX8_indexOfName_8 : decode cX8_indexOfName 8 = .ok (.aload_n 1, 1) := by decide +kernel
theorem dX8_indexOfName_9 : decode cX8_indexOfName 9 = .ok (.arraylength, 1) := by decide +kernel
theorem dX8_indexOfName_10 : decode cX8_indexOfName 10 = .ok (.if_icmp .ge 25, 3) := by decide +kernel
theorem dX8_indexOfName_13 : decode cX8_indexOfName 13 = .ok (.aload_n 1, 1) := by decide +kernel
theorem dX8_indexOfName_14 : decode cX8_indexOfName 14 = .ok (.iload_n 3, 1) := by decide +kernel
theorem dX8_indexOfName_15 : decode cX8_indexOfName 15 = .ok (.laload, 1) := by decide +kernel
theorem dX8_indexOfName_16 : decode cX8_indexOfName 16 = .ok (.aload_n 0, 1) := by decide +kernel
theorem dX8_indexOfName_17 : decode cX8_indexOfName 17 = .ok (.getfield 9, 3) := by decide +kernel
theorem dX8_indexOfName_20 : decode cX8_indexOfName 20 = .ok (.invokevirtual 138, 3) := by decide +kernel
theorem dX8_indexOfName_23 : decode cX8_indexOfName 23 = .ok (.lcmp, 1) := by decide +kernel
theorem dX8_indexOfName_24 : decode cX8_indexOfName 24 = .ok (.ifCond .ne 5, 3) := by decide +kernel
theorem dX8_indexOfName_27 : decode cX8_indexOfName 27 = .ok (.iload_n 3, 1) := by decide +kernel
theorem dX8_indexOfName_28 : decode cX8_indexOfName 28 = .ok (.ireturn, 1) := by decide +kernel
theorem dX8_indexOfName_29 : decode cX8_indexOfName 29 = .ok (.iinc 3 1, 3) := by decide +kernel
theorem dX8_indexOfName_32 : decode cX8_indexOfName 32 = .ok (.goto (-30), 3) := by decide +kernel
theorem dX8_indexOfName_35 : decode cX8_indexOfName 35 = .ok (.iconst (-1), 1) := by decide +kernel
theorem dX8_indexOfName_36 : decode cX8_indexOfName 36 = .ok (.ireturn, 1) := by decide +kernel
theorem dX8_takeNumber_0 : decode cX8_takeNumber 0 = .ok (.aload_n 0, 1) := by decide +kernel
theorem dX8_takeNumber_1 : decode cX8_takeNumber 1 = .ok (.getfield 9, 3) := by decide +kernel
theorem dX8_takeNumber_4 : decode cX8_takeNumber 4 = .ok (.invokevirtual 29, 3) := by decide +kernel
theorem dX8_takeNumber_7 : decode cX8_takeNumber 7 = .ok (.sipush 201, 3) := by decide +kernel
theorem dX8_takeNumber_10 : decode cX8_takeNumber 10 = .ok (.if_icmp .eq 13, 3) := by decide +kernel
theorem dX8_takeNumber_13 : decode cX8_takeNumber 13 = .ok (.aload_n 0, 1) := by decide +kernel
theorem dX8_takeNumber_14 : decode cX8_takeNumber 14 = .ok (.getfield 9, 3) := by decide +kernel
theorem dX8_takeNumber_17 : decode cX8_takeNumber 17 = .ok (.iconst 2, 1) := by decide +kernel
theorem dX8_takeNumber_18 : decode cX8_takeNumber 18 = .ok (.invokevirtual 67, 3) := by decide +kernel
theorem dX8_takeNumber_21 : decode cX8_takeNumber 21 = .ok (.iconst 0, 1) := by decide +kernel
theorem dX8_takeNumber_22 : decode cX8_takeNumber 22 = .ok (.ireturn, 1) := by decide +kernel
theorem dX8_takeNumber_23 : decode cX8_takeNumber 23 = .ok (.aload_n 0, 1) := by decide +kernel
theorem dX8_takeNumber_24 : decode cX8_takeNumber 24 = .ok (.getfield 9, 3) := by decide +kernel
theorem dX8_takeNumber_27 : decode cX8_takeNumber 27 = .ok (.invokevirtual 86, 3) := by decide +kernel
theorem dX8_takeNumber_30 : decode cX8_takeNumber 30 = .ok (.istore_n 2, 1) := by decide +kernel
theorem dX8_takeNumber_31 : decode cX8_takeNumber 31 = .ok (.iload_n 2, 1) := by decide +kernel
theorem dX8_takeNumber_32 : decode cX8_takeNumber 32 = .ok (.iload_n 1, 1) := by decide +kernel
theorem dX8_takeNumber_33 : decode cX8_takeNumber 33 = .ok (.if_icmp .le 11, 3) := by decide +kernel
theorem dX8_takeNumber_36 : decode cX8_takeNumber 36 = .ok (.aload_n 0, 1) := by decide +kernel
theorem dX8_takeNumber_37 : decode cX8_takeNumber 37 = .ok (.getfield 9, 3) := by decide +kernel
theorem dX8_takeNumber_40 : decode cX8_takeNumber 40 = .ok (.iconst 4, 1) := by decide +kernel
theorem dX8_takeNumber_41 : decode cX8_takeNumber 41 = .ok (.invokevirtual 67, 3) := by decide +kernel
theorem dX8_takeNumber_44 : decode cX8_takeNumber 44 = .ok (.aload_n 0, 1) := by decide +kernel
theorem dX8_takeNumber_45 : decode cX8_takeNumber 45 = .ok (.getfield 9, 3) := by decide +kernel
theorem dX8_takeNumber_48 : decode cX8_takeNumber 48 = .ok (.invokevirtual 83, 3) := by decide +kernel
theorem dX8_takeNumber_51 : decode cX8_takeNumber 51 = .ok (.iload_n 2, 1) := by decide +kernel
theorem dX8_takeNumber_52 : decode cX8_takeNumber 52 = .ok (.ireturn, 1) := by decide +kernel
theorem dX8_takeStrokes_0 : decode cX8_takeStrokes 0 = .ok (.aload_n 0, 1) := by decide +kernel
theorem dX8_takeStrokes_1 : decode cX8_takeStrokes 1 = .ok (.getfield 9, 3) := by decide +kernel
theorem dX8_takeStrokes_4 : decode cX8_takeStrokes 4 = .ok (.sipush 136, 3) := by decide +kernel
theorem dX8_takeStrokes_7 : decode cX8_takeStrokes 7 = .ok (.invokevirtual 70, 3) := by decide +kernel
theorem dX8_takeStrokes_10 : decode cX8_takeStrokes 10 = .ok (.iconst 0, 1) := by decide +kernel
theorem dX8_takeStrokes_11 : decode cX8_takeStrokes 11 = .ok (.istore_n 1, 1) := by decide +kernel
theorem dX8_takeStrokes_12 : decode cX8_takeStrokes 12 = .ok (.iconst 0, 1) := by decide +kernel
theorem dX8_takeStrokes_13 : decode cX8_takeStrokes 13 = .ok (.istore_n 2, 1) := by decide +kernel
theorem dX8_takeStrokes_14 : decode cX8_takeStrokes 14 = .ok (.iload_n 2, 1) := by decide +kernel
theorem dX8_takeStrokes_15 : decode cX8_takeStrokes 15 = .ok (.bipush 12, 2) := by decide +kernel
theorem dX8_takeStrokes_17 : decode cX8_takeStrokes 17 = .ok (.if_icmp .gt 90, 3) := by decide +kernel
theorem dX8_takeStrokes_20 : decode cX8_takeStrokes 20 = .ok (.iload_n 2, 1) := by decide +kernel
theorem dX8_takeStrokes_21 : decode cX8_takeStrokes 21 = .ok (.ifCond .eq 16, 3) := by decide +kernel
theorem dX8_takeStrokes_24 : decode cX8_takeStrokes 24 = .ok (.aload_n 0, 1) := by decide +kernel
theorem dX8_takeStrokes_25 : decode cX8_takeStrokes 25 = .ok (.getfield 9, 3) := by decide +kernel
theorem dX8_takeStrokes_28 : decode cX8_takeStrokes 28 = .ok (.invokevirtual 29, 3) := by decide +kernel
theorem dX8_takeStrokes_31 : decode cX8_takeStrokes 31 = .ok (.sipush 201, 3) := by decide +kernel
theorem dX8_takeStrokes_34 : decode cX8_takeStrokes 34 = .ok (.if_icmp .ne 73, 3) := by decide +kernel
theorem dX8_takeStrokes_37 : decode cX8_takeStrokes 37 = .ok (.aload_n 0, 1) := by decide +kernel
theorem dX8_takeStrokes_38 : decode cX8_takeStrokes 38 = .ok (.getfield 9, 3) := by decide +kernel
theorem dX8_takeStrokes_41 : decode cX8_takeStrokes 41 = .ok (.invokevirtual 86, 3) := by decide +kernel
theorem dX8_takeStrokes_44 : decode cX8_takeStrokes 44 = .ok (.bipush 12, 2) := by decide +kernel
theorem dX8_takeStrokes_46 : decode cX8_takeStrokes 46 = .ok (.if_icmp .ge 15, 3) := by decide +kernel
theorem dX8_takeStrokes_49 : decode cX8_takeStrokes 49 = .ok (.iconst 1, 1) := by decide +kernel
theorem dX8_takeStrokes_50 : decode cX8_takeStrokes 50 = .ok (.aload_n 0, 1) := by decide +kernel
theorem dX8_takeStrokes_51 : decode cX8_takeStrokes 51 = .ok (.getfield 9, 3) := by decide +kernel
theorem dX8_takeStrokes_54 : decode cX8_takeStrokes 54 = .ok (.invokevirtual 86, 3) := by decide +kernel
theorem dX8_takeStrokes_57 : decode cX8_takeStrokes 57 = .ok (.ishl, 1) := by decide +kernel
theorem dX8_takeStrokes_58 : decode cX8_takeStrokes 58 = .ok (.goto 4, 3) := by decide +kernel
theorem dX8_takeStrokes_61 : decode cX8_takeStrokes 61 = .ok (.iconst 0, 1) := by decide +kernel
theorem dX8_takeStrokes_62 : decode cX8_takeStrokes 62 = .ok (.istore_n 3, 1) := by decide +kernel
theorem dX8_takeStrokes_63 : decode cX8_takeStrokes 63 = .ok (.aload_n 0, 1) := by decide +kernel
theorem dX8_takeStrokes_64 : decode cX8_takeStrokes 64 = .ok (.getfield 9, 3) := by decide +kernel
theorem dX8_takeStrokes_67 : decode cX8_takeStrokes 67 = .ok (.invokevirtual 29, 3) := by decide +kernel
theorem dX8_takeStrokes_70 : decode cX8_takeStrokes 70 = .ok (.sipush 201, 3) := by decide +kernel
theorem dX8_takeStrokes_73 : decode cX8_takeStrokes 73 = .ok (.if_icmp .ne 17, 3) := by decide +kernel
theorem dX8_takeStrokes_76 : decode cX8_takeStrokes 76 = .ok (.iload_n 1, 1) := by decide +kernel
theorem dX8_takeStrokes_77 : decode cX8_takeStrokes 77 = .ok (.iload_n 3, 1) := by decide +kernel
theorem dX8_takeStrokes_78 : decode cX8_takeStrokes 78 = .ok (.iand, 1) := by decide +kernel
theorem dX8_takeStrokes_79 : decode cX8_takeStrokes 79 = .ok (.ifCond .eq 11, 3) := by decide +kernel
theorem dX8_takeStrokes_82 : decode cX8_takeStrokes 82 = .ok (.aload_n 0, 1) := by decide +kernel
theorem dX8_takeStrokes_83 : decode cX8_takeStrokes 83 = .ok (.getfield 9, 3) := by decide +kernel
theorem dX8_takeStrokes_86 : decode cX8_takeStrokes 86 = .ok (.iconst 3, 1) := by decide +kernel
theorem dX8_takeStrokes_87 : decode cX8_takeStrokes 87 = .ok (.invokevirtual 67, 3) := by decide +kernel
theorem dX8_takeStrokes_90 : decode cX8_takeStrokes 90 = .ok (.aload_n 0, 1) := by decide +kernel
theorem dX8_takeStrokes_91 : decode cX8_takeStrokes 91 = .ok (.bipush 11, 2) := by decide +kernel
theorem dX8_takeStrokes_93 : decode cX8_takeStrokes 93 = .ok (.invokevirtual 56, 3) := by decide +kernel
theorem dX8_takeStrokes_96 : decode cX8_takeStrokes 96 = .ok (.pop, 1) := by decide +kernel
theorem dX8_takeStrokes_97 : decode cX8_takeStrokes 97 = .ok (.iload_n 1, 1) := by decide +kernel
theorem dX8_takeStrokes_98 : decode cX8_takeStrokes 98 = .ok (.iload_n 3, 1) := by decide +kernel
theorem dX8_takeStrokes_99 : decode cX8_takeStrokes 99 = .ok (.ior, 1) := by decide +kernel
theorem dX8_takeStrokes_100 : decode cX8_takeStrokes 100 = .ok (.istore_n 1, 1) := by decide +kernel
theorem dX8_takeStrokes_101 : decode cX8_takeStrokes 101 = .ok (.iinc 2 1, 3) := by decide +kernel
theorem dX8_takeStrokes_104 : decode cX8_takeStrokes 104 = .ok (.goto (-90), 3) := by decide +kernel
theorem dX8_takeStrokes_107 : decode cX8_takeStrokes 107 = .ok (.iload_n 1, 1) := by decide +kernel
theorem dX8_takeStrokes_108 : decode cX8_takeStrokes 108 = .ok (.ireturn, 1) := by decide +kernel
theorem dX8_readEither_0 : decode cX8_readEither 0 = .ok (.aload_n 0, 1) := by decide +kernel
theorem dX8_readEither_1 : decode cX8_readEither 1 = .ok (.iload_n 1, 1) := by decide +kernel
theorem dX8_readEither_2 : decode cX8_readEither 2 = .ok (.invokevirtual 142, 3) := by decide +kernel
theorem dX8_readEither_5 : decode cX8_readEither 5 = .ok (.iconst 0, 1) := by decide +kernel
theorem dX8_readEither_6 : decode cX8_readEither 6 = .ok (.istore_n 2, 1) := by decide +kernel
theorem dX8_readEither_7 : decode cX8_readEither 7 = .ok (.iload_n 2, 1) := by decide +kernel
theorem dX8_readEither_8 : decode cX8_readEither 8 = .ok (.bipush 30, 2) := by decide +kernel
theorem dX8_readEither_10 : decode cX8_readEither 10 = .ok (.if_icmp .ge 48, 3) := by decide +kernel
theorem dX8_readEither_13 : decode cX8_readEither 13 = .ok (.aload_n 0, 1) := by decide +kernel
theorem dX8_readEither_14 : decode cX8_readEither 14 = .ok (.getfield 9, 3) := by decide +kernel
theorem dX8_readEither_17 : decode cX8_readEither 17 = .ok (.invokevirtual 29, 3) := by decide +kernel
theorem dX8_readEither_20 : decode cX8_readEither 20 = .ok (.sipush 138, 3) := by decide +kernel
theorem dX8_readEither_23 : decode cX8_readEither 23 = .ok (.if_icmp .ne 35, 3) := by decide +kernel
theorem dX8_readEither_26 : decode cX8_readEither 26 = .ok (.aload_n 0, 1) := by decide +kernel
theorem dX8_readEither_27 : decode cX8_readEither 27 = .ok (.getfield 9, 3) := by decide +kernel
theorem dX8_readEither_30 : decode cX8_readEither 30 = .ok (.invokevirtual 83, 3) := by decide +kernel
theorem dX8_readEither_33 : decode cX8_readEither 33 = .ok (.aload_n 0, 1) := by decide +kernel
theorem dX8_readEither_34 : decode cX8_readEither 34 = .ok (.iload_n 1, 1) := by decide +kernel
theorem dX8_readEither_35 : decode cX8_readEither 35 = .ok (.invokevirtual 142, 3) := by decide +kernel
theorem dX8_readEither_38 : decode cX8_readEither 38 = .ok (.aload_n 0, 1) := by decide +kernel
theorem dX8_readEither_39 : decode cX8_readEither 39 = .ok (.getfield 15, 3) := by decide +kernel
theorem dX8_readEither_42 : decode cX8_readEither 42 = .ok (.getfield 147, 3) := by decide +kernel
theorem dX8_readEither_45 : decode cX8_readEither 45 = .ok (.sipush 138, 3) := by decide +kernel
theorem dX8_readEither_48 : decode cX8_readEither 48 = .ok (.iconst 0, 1) := by decide +kernel
theorem dX8_readEither_49 : decode cX8_readEither 49 = .ok (.invokevirtual 151, 3) := by decide +kernel
theorem dX8_readEither_52 : decode cX8_readEither 52 = .ok (.iinc 2 1, 3) := by decide +kernel
theorem dX8_readEither_55 : decode cX8_readEither 55 = .ok (.goto (-48), 3) := by decide +kernel
theorem dX8_readEither_58 : decode cX8_readEither 58 = .ok (.return_, 1) := by decide +kernel
theorem dX8_readBoth_0 : decode cX8_readBoth 0 = .ok (.aload_n 0, 1) := by decide +kernel
theorem dX8_readBoth_1 : decode cX8_readBoth 1 = .ok (.iload_n 1, 1) := by decide +kernel
theorem dX8_readBoth_2 : decode cX8_readBoth 2 = .ok (.invokevirtual 155, 3) := by decide +kernel
theorem dX8_readBoth_5 : decode cX8_readBoth 5 = .ok (.iconst 0, 1) := by decide +kernel
theorem dX8_readBoth_6 : decode cX8_readBoth 6 = .ok (.istore_n 2, 1) := by decide +kernel
theorem dX8_readBoth_7 : decode cX8_readBoth 7 = .ok (.iload_n 2, 1) := by decide +kernel
theorem dX8_readBoth_8 : decode cX8_readBoth 8 = .ok (.bipush 30, 2) := by decide +kernel
theorem dX8_readBoth_10 : decode cX8_readBoth 10 = .ok (.if_icmp .ge 48, 3) := by decide +kernel
theorem dX8_readBoth_13 : decode cX8_readBoth 13 = .ok (.aload_n 0, 1) := by decide +kernel
theorem dX8_readBoth_14 : decode cX8_readBoth 14 = .ok (.getfield 9, 3) := by decide +kernel
theorem dX8_readBoth_17 : decode cX8_readBoth 17 = .ok (.invokevirtual 29, 3) := by decide +kernel
theorem dX8_readBoth_20 : decode cX8_readBoth 20 = .ok (.sipush 139, 3) := by decide +kernel
theorem dX8_readBoth_23 : decode cX8_readBoth 23 = .ok (.if_icmp .ne 35, 3) := by decide +kernel
theorem dX8_readBoth_26 : decode cX8_readBoth 26 = .ok (.aload_n 0, 1) := by decide +kernel
theorem dX8_readBoth_27 : decode cX8_readBoth 27 = .ok (.getfield 9, 3) := by decide +kernel
theorem dX8_readBoth_30 : decode cX8_readBoth 30 = .ok (.invokevirtual 83, 3) := by decide +kernel
theorem dX8_readBoth_33 : decode cX8_readBoth 33 = .ok (.aload_n 0, 1) := by decide +kernel
theorem dX8_readBoth_34 : decode cX8_readBoth 34 = .ok (.iload_n 1, 1) := by decide +kernel
theorem dX8_readBoth_35 : decode cX8_readBoth 35 = .ok (.invokevirtual 155, 3) := by decide +kernel
theorem dX8_readBoth_38 : decode cX8_readBoth 38 = .ok (.aload_n 0, 1) := by decide +kernel
theorem dX8_readBoth_39 : decode cX8_readBoth 39 = .ok (.getfield 15, 3) := by decide +kernel
theorem dX8_readBoth_42 : decode cX8_readBoth 42 = .ok (.getfield 147, 3) := by decide +kernel
theorem dX8_readBoth_45 : decode cX8_readBoth 45 = .ok (.sipush 139, 3) := by decide +kernel
theorem dX8_readBoth_48 : decode cX8_readBoth 48 = .ok (.iconst 0, 1) := by decide +kernel
theorem dX8_readBoth_49 : decode cX8_readBoth 49 = .ok (.invokevirtual 151, 3) := by decide +kernel
theorem dX8_readBoth_52 : decode cX8_readBoth 52 = .ok (.iinc 2 1, 3) := by decide +kernel
theorem dX8_readBoth_55 : decode cX8_readBoth 55 = .ok (.goto (-48), 3) := by decide +kernel
theorem dX8_readBoth_58 : decode cX8_readBoth 58 = .ok (.return_, 1) := by decide +kernel
theorem dX8_readOne_0 : decode cX8_readOne 0 = .ok (.aload_n 0, 1) := by decide +kernel
theorem dX8_readOne_1 : decode cX8_readOne 1 = .ok (.getfield 9, 3) := by decide +kernel
theorem dX8_readOne_4 : decode cX8_readOne 4 = .ok (.invokevirtual 29, 3) := by decide +kernel
theorem dX8_readOne_7 : decode cX8_readOne 7 = .ok (.sipush 140, 3) := by decide +kernel
theorem dX8_readOne_10 : decode cX8_readOne 10 = .ok (.if_icmp .ne 33, 3) := by decide +kernel
theorem dX8_readOne_13 : decode cX8_readOne 13 = .ok (.aload_n 0, 1) := by decide +kernel
theorem dX8_readOne_14 : decode cX8_readOne 14 = .ok (.iload_n 1, 1) := by decide +kernel
theorem dX8_readOne_15 : decode cX8_readOne 15 = .ok (.invokevirtual 158, 3) := by decide +kernel
theorem dX8_readOne_18 : decode cX8_readOne 18 = .ok (.ifCond .eq 24, 3) := by decide +kernel
theorem dX8_readOne_21 : decode cX8_readOne 21 = .ok (.aload_n 0, 1) := by decide +kernel
theorem dX8_readOne_22 : decode cX8_readOne 22 = .ok (.iload_n 1, 1) := by decide +kernel
theorem dX8_readOne_23 : decode cX8_readOne 23 = .ok (.iconst 1, 1) := by decide +kernel
theorem dX8_readOne_24 : decode cX8_readOne 24 = .ok (.iadd, 1) := by decide +kernel
theorem dX8_readOne_25 : decode cX8_readOne 25 = .ok (.invokevirtual 155, 3) := by decide +kernel
theorem dX8_readOne_28 : decode cX8_readOne 28 = .ok (.aload_n 0, 1) := by decide +kernel
theorem dX8_readOne_29 : decode cX8_readOne 29 = .ok (.getfield 15, 3) := by decide +kernel
theorem dX8_readOne_32 : decode cX8_readOne 32 = .ok (.getfield 147, 3) := by decide +kernel
theorem dX8_readOne_35 : decode cX8_readOne 35 = .ok (.sipush 140, 3) := by decide +kernel
theorem dX8_readOne_38 : decode cX8_readOne 38 = .ok (.iconst 0, 1) := by decide +kernel
theorem dX8_readOne_39 : decode cX8_readOne 39 = .ok (.invokevirtual 151, 3) := by decide +kernel
theorem dX8_readOne_42 : decode cX8_readOne 42 = .ok (.return_, 1) := by decide +kernel
theorem dX8_readOne_43 : decode cX8_readOne 43 = .ok (.aload_n 0, 1) := by decide +kernel
theorem dX8_readOne_44 : decode cX8_readOne 44 = .ok (.iload_n 1, 1) := by decide +kernel
theorem dX8_readOne_45 : decode cX8_readOne 45 = .ok (.invokevirtual 162, 3) := by decide +kernel
theorem dX8_readOne_48 : decode cX8_readOne 48 = .ok (.aload_n 0, 1) := by decide +kernel
theorem dX8_readOne_49 : decode cX8_readOne 49 = .ok (.getfield 9, 3) := by decide +kernel
theorem dX8_readOne_52 : decode cX8_readOne 52 = .ok (.invokevirtual 29, 3) := by decide +kernel
theorem dX8_readOne_55 : decode cX8_readOne 55 = .ok (.istore_n 2, 1) := by decide +kernel
theorem dX8_readOne_56 : decode cX8_readOne 56 = .ok (.iload_n 2, 1) := by decide +kernel
theorem dX8_readOne_57 : decode cX8_readOne 57 = .ok (.bipush 60, 2) := by decide +kernel
theorem dX8_readOne_59 : decode cX8_readOne 59 = .ok (.if_icmp .eq 15, 3) := by decide +kernel
theorem dX8_readOne_62 : decode cX8_readOne 62 = .ok (.iload_n 2, 1) := by decide +kernel
theorem dX8_readOne_63 : decode cX8_readOne 63 = .ok (.bipush 62, 2) := by decide +kernel
theorem dX8_readOne_65 : decode cX8_readOne 65 = .ok (.if_icmp .eq 9, 3) := by decide +kernel
theorem dX8_readOne_68 : decode cX8_readOne 68 = .ok (.iload_n 2, 1) := by decide +kernel
theorem dX8_readOne_69 : decode cX8_readOne 69 = .ok (.bipush 61, 2) := by decide +kernel
theorem dX8_readOne_71 : decode cX8_readOne 71 = .ok (.if_icmp .ne 27, 3) := by decide +kernel
theorem dX8_readOne_74 : decode cX8_readOne 74 = .ok (.aload_n 0, 1) := by decide +kernel
theorem dX8_readOne_75 : decode cX8_readOne 75 = .ok (.getfield 9, 3) := by decide +kernel
theorem dX8_readOne_78 : decode cX8_readOne 78 = .ok (.invokevirtual 83, 3) := by decide +kernel
theorem dX8_readOne_81 : decode cX8_readOne 81 = .ok (.aload_n 0, 1) := by decide +kernel
theorem dX8_readOne_82 : decode cX8_readOne 82 = .ok (.iload_n 1, 1) := by decide +kernel
theorem dX8_readOne_83 : decode cX8_readOne 83 = .ok (.invokevirtual 162, 3) := by decide +kernel
theorem dX8_readOne_86 : decode cX8_readOne 86 = .ok (.aload_n 0, 1) := by decide +kernel
theorem dX8_readOne_87 : decode cX8_readOne 87 = .ok (.getfield 15, 3) := by decide +kernel
theorem dX8_readOne_90 : decode cX8_readOne 90 = .ok (.getfield 147, 3) := by decide +kernel
theorem dX8_readOne_93 : decode cX8_readOne 93 = .ok (.iload_n 2, 1) := by decide +kernel
theorem dX8_readOne_94 : decode cX8_readOne 94 = .ok (.iconst 0, 1) := by decide +kernel
theorem dX8_readOne_95 : decode cX8_readOne 95 = .ok (.invokevirtual 151, 3) := by decide +kernel
theorem dX8_readOne_98 : decode cX8_readOne 98 = .ok (.return_, 1) := by decide +kernel
theorem dX8_readSum_0 : decode cX8_readSum 0 = .ok (.aload_n 0, 1) := by decide +kernel
theorem dX8_readSum_1 : decode cX8_readSum 1 = .ok (.iload_n 1, 1) := by decide +kernel
theorem dX8_readSum_2 : decode cX8_readSum 2 = .ok (.invokevirtual 165, 3) := by decide +kernel
theorem dX8_readSum_5 : decode cX8_readSum 5 = .ok (.iconst 0, 1) := by decide +kernel
theorem dX8_readSum_6 : decode cX8_readSum 6 = .ok (.istore_n 2, 1) := by decide +kernel
theorem dX8_readSum_7 : decode cX8_readSum 7 = .ok (.iload_n 2, 1) := by decide +kernel
theorem dX8_readSum_8 : decode cX8_readSum 8 = .ok (.bipush 30, 2) := by decide +kernel
theorem dX8_readSum_10 : decode cX8_readSum 10 = .ok (.if_icmp .ge 65, 3) := by decide +kernel
theorem dX8_readSum_13 : decode cX8_readSum 13 = .ok (.aload_n 0, 1) := by decide +kernel
theorem dX8_readSum_14 : decode cX8_readSum 14 = .ok (.getfield 9, 3) := by decide +kernel
theorem dX8_readSum_17 : decode cX8_readSum 17 = .ok (.invokevirtual 29, 3) := by decide +kernel
theorem dX8_readSum_20 : decode cX8_readSum 20 = .ok (.bipush 43, 2) := by decide +kernel
theorem dX8_readSum_22 : decode cX8_readSum 22 = .ok (.if_icmp .eq 15, 3) := by decide +kernel
theorem dX8_readSum_25 : decode cX8_readSum 25 = .ok (.aload_n 0, 1) := by decide +kernel
theorem dX8_readSum_26 : decode cX8_readSum 26 = .ok (.getfield 9, 3) := by decide +kernel
theorem dX8_readSum_29 : decode cX8_readSum 29 = .ok (.invokevirtual 29, 3) := by decide +kernel
theorem dX8_readSum_32 : decode cX8_readSum 32 = .ok (.bipush 45, 2) := by decide +kernel
theorem dX8_readSum_34 : decode cX8_readSum 34 = .ok (.if_icmp .ne 41, 3) := by decide +kernel
theorem dX8_readSum_37 : decode cX8_readSum 37 = .ok (.aload_n 0, 1) := by decide +kernel
theorem dX8_readSum_38 : decode cX8_readSum 38 = .ok (.getfield 9, 3) := by decide +kernel
theorem dX8_readSum_41 : decode cX8_readSum 41 = .ok (.invokevirtual 29, 3) := by decide +kernel
theorem dX8_readSum_44 : decode cX8_readSum 44 = .ok (.istore_n 3, 1) := by decide +kernel
theorem dX8_readSum_45 : decode cX8_readSum 45 = .ok (.aload_n 0, 1) := by decide +kernel
theorem dX8_readSum_46 : decode cX8_readSum 46 = .ok (.getfield 9, 3) := by decide +kernel
theorem dX8_readSum_49 : decode cX8_readSum 49 = .ok (.invokevirtual 83, 3) := by decide +kernel
theorem dX8_readSum_52 : decode cX8_readSum 52 = .ok (.aload_n 0, 1) := by decide +kernel
theorem dX8_readSum_53 : decode cX8_readSum 53 = .ok (.iload_n 1, 1) := by decide +kernel
theorem dX8_readSum_54 : decode cX8_readSum 54 = .ok (.invokevirtual 165, 3) := by decide +kernel
theorem dX8_readSum_57 : decode cX8_readSum 57 = .ok (.aload_n 0, 1) := by decide +kernel
theorem dX8_readSum_58 : decode cX8_readSum 58 = .ok (.getfield 15, 3) := by decide +kernel
theorem dX8_readSum_61 : decode cX8_readSum 61 = .ok (.getfield 147, 3) := by decide +kernel
theorem dX8_readSum_64 : decode cX8_readSum 64 = .ok (.iload_n 3, 1) := by decide +kernel
theorem dX8_readSum_65 : decode cX8_readSum 65 = .ok (.iconst 0, 1) := by decide +kernel
theorem dX8_readSum_66 : decode cX8_readSum 66 = .ok (.invokevirtual 151, 3) := by decide +kernel
theorem dX8_readSum_69 : decode cX8_readSum 69 = .ok (.iinc 2 1, 3) := by decide +kernel
theorem dX8_readSum_72 : decode cX8_readSum 72 = .ok (.goto (-65), 3) := by decide +kernel
theorem dX8_readSum_75 : decode cX8_readSum 75 = .ok (.return_, 1) := by decide +kernel
theorem dX8_readTerm_0 : decode cX8_readTerm 0 = .ok (.aload_n 0, 1) := by decide +kernel
theorem dX8_readTerm_1 : decode cX8_readTerm 1 = .ok (.iload_n 1, 1) := by decide +kernel
theorem dX8_readTerm_2 : decode cX8_readTerm 2 = .ok (.invokevirtual 168, 3) := by decide +kernel
theorem dX8_readTerm_5 : decode cX8_readTerm 5 = .ok (.iconst 0, 1) := by decide +kernel
theorem dX8_readTerm_6 : decode cX8_readTerm 6 = .ok (.istore_n 2, 1) := by decide +kernel
theorem dX8_readTerm_7 : decode cX8_readTerm 7 = .ok (.iload_n 2, 1) := by decide +kernel
theorem dX8_readTerm_8 : decode cX8_readTerm 8 = .ok (.bipush 30, 2) := by decide +kernel
theorem dX8_readTerm_10 : decode cX8_readTerm 10 = .ok (.if_icmp .ge 54, 3) := by decide +kernel
theorem dX8_readTerm_13 : decode cX8_readTerm 13 = .ok (.aload_n 0, 1) := by decide +kernel
theorem dX8_readTerm_14 : decode cX8_readTerm 14 = .ok (.getfield 9, 3) := by decide +kernel
theorem dX8_readTerm_17 : decode cX8_readTerm 17 = .ok (.invokevirtual 29, 3) := by decide +kernel
theorem dX8_readTerm_20 : decode cX8_readTerm 20 = .ok (.invokestatic 171, 3) := by decide +kernel
theorem dX8_readTerm_23 : decode cX8_readTerm 23 = .ok (.ifCond .eq 41, 3) := by decide +kernel
theorem dX8_readTerm_26 : decode cX8_readTerm 26 = .ok (.aload_n 0, 1) := by decide +kernel
theorem dX8_readTerm_27 : decode cX8_readTerm 27 = .ok (.getfield 9, 3) := by decide +kernel
theorem dX8_readTerm_30 : decode cX8_readTerm 30 = .ok (.invokevirtual 29, 3) := by decide +kernel
theorem dX8_readTerm_33 : decode cX8_readTerm 33 = .ok (.istore_n 3, 1) := by decide +kernel
theorem dX8_readTerm_34 : decode cX8_readTerm 34 = .ok (.aload_n 0, 1) := by decide +kernel
theorem dX8_readTerm_35 : decode cX8_readTerm 35 = .ok (.getfield 9, 3) := by decide +kernel
theorem dX8_readTerm_38 : decode cX8_readTerm 38 = .ok (.invokevirtual 83, 3) := by decide +kernel
theorem dX8_readTerm_41 : decode cX8_readTerm 41 = .ok (.aload_n 0, 1) := by decide +kernel
theorem dX8_readTerm_42 : decode cX8_readTerm 42 = .ok (.iload_n 1, 1) := by decide +kernel
theorem dX8_readTerm_43 : decode cX8_readTerm 43 = .ok (.invokevirtual 168, 3) := by decide +kernel
theorem dX8_readTerm_46 : decode cX8_readTerm 46 = .ok (.aload_n 0, 1) := by decide +kernel
theorem dX8_readTerm_47 : decode cX8_readTerm 47 = .ok (.getfield 15, 3) := by decide +kernel
theorem dX8_readTerm_50 : decode cX8_readTerm 50 = .ok (.getfield 147, 3) := by decide +kernel
theorem dX8_readTerm_53 : decode cX8_readTerm 53 = .ok (.iload_n 3, 1) := by decide +kernel
theorem dX8_readTerm_54 : decode cX8_readTerm 54 = .ok (.iconst 0, 1) := by decide +kernel
theorem dX8_readTerm_55 : decode cX8_readTerm 55 = .ok (.invokevirtual 151, 3) := by decide +kernel
theorem dX8_readTerm_58 : decode cX8_readTerm 58 = .ok (.iinc 2 1, 3) := by decide +kernel
theorem dX8_readTerm_61 : decode cX8_readTerm 61 = .ok (.goto (-54), 3) := by decide +kernel
theorem dX8_readTerm_64 : decode cX8_readTerm 64 = .ok (.return_, 1) := by decide +kernel
theorem dX8_isTermSign_0 : decode cX8_isTermSign 0 = .ok (.iload_n 0, 1) := by decide +kernel
theorem dX8_isTermSign_1 : decode cX8_isTermSign 1 = .ok (.bipush 42, 2) := by decide +kernel
theorem dX8_isTermSign_3 : decode cX8_isTermSign 3 = .ok (.if_icmp .eq 15, 3) := by decide +kernel
theorem dX8_isTermSign_6 : decode cX8_isTermSign 6 = .ok (.iload_n 0, 1) := by decide +kernel
theorem dX8_isTermSign_7 : decode cX8_isTermSign 7 = .ok (.bipush 47, 2) := by decide +kernel
theorem dX8_isTermSign_9 : decode cX8_isTermSign 9 = .ok (.if_icmp .eq 9, 3) := by decide +kernel
theorem dX8_isTermSign_12 : decode cX8_isTermSign 12 = .ok (.iload_n 0, 1) := by decide +kernel
theorem dX8_isTermSign_13 : decode cX8_isTermSign 13 = .ok (.bipush 37, 2) := by decide +kernel
theorem dX8_isTermSign_15 : decode cX8_isTermSign 15 = .ok (.if_icmp .ne 7, 3) := by decide +kernel
theorem dX8_isTermSign_18 : decode cX8_isTermSign 18 = .ok (.iconst 1, 1) := by decide +kernel
theorem dX8_isTermSign_19 : decode cX8_isTermSign 19 = .ok (.goto 4, 3) := by decide +kernel
theorem dX8_isTermSign_22 : decode cX8_isTermSign 22 = .ok (.iconst 0, 1) := by decide +kernel
theorem dX8_isTermSign_23 : decode cX8_isTermSign 23 = .ok (.ireturn, 1) := by decide +kernel
theorem dX8_readUnit_0 : decode cX8_readUnit 0 = .ok (.aload_n 0, 1) := by decide +kernel
theorem dX8_readUnit_1 : decode cX8_readUnit 1 = .ok (.getfield 15, 3) := by decide +kernel
theorem dX8_readUnit_4 : decode cX8_readUnit 4 = .ok (.getfield 147, 3) := by decide +kernel
theorem dX8_readUnit_7 : decode cX8_readUnit 7 = .ok (.invokevirtual 174, 3) := by decide +kernel
theorem dX8_readUnit_10 : decode cX8_readUnit 10 = .ok (.ifCond .ne 11, 3) := by decide +kernel
theorem dX8_readUnit_13 : decode cX8_readUnit 13 = .ok (.aload_n 0, 1) := by decide +kernel
theorem dX8_readUnit_14 : decode cX8_readUnit 14 = .ok (.getfield 9, 3) := by decide +kernel
theorem dX8_readUnit_17 : decode cX8_readUnit 17 = .ok (.iconst 2, 1) := by decide +kernel
theorem dX8_readUnit_18 : decode cX8_readUnit 18 = .ok (.invokevirtual 67, 3) := by decide +kernel
theorem dX8_readUnit_21 : decode cX8_readUnit 21 = .ok (.aload_n 0, 1) := by decide +kernel
theorem dX8_readUnit_22 : decode cX8_readUnit 22 = .ok (.getfield 9, 3) := by decide +kernel
theorem dX8_readUnit_25 : decode cX8_readUnit 25 = .ok (.invokevirtual 29, 3) := by decide +kernel
theorem dX8_readUnit_28 : decode cX8_readUnit 28 = .ok (.istore_n 2, 1) := by decide +kernel
theorem dX8_readUnit_29 : decode cX8_readUnit 29 = .ok (.iload_n 2, 1) := by decide +kernel
theorem dX8_readUnit_30 : decode cX8_readUnit 30 = .ok (.sipush 201, 3) := by decide +kernel
theorem dX8_readUnit_33 : decode cX8_readUnit 33 = .ok (.if_icmp .ne 31, 3) := by decide +kernel
theorem dX8_readUnit_36 : decode cX8_readUnit 36 = .ok (.aload_n 0, 1) := by decide +kernel
theorem dX8_readUnit_37 : decode cX8_readUnit 37 = .ok (.getfield 15, 3) := by decide +kernel
theorem dX8_readUnit_40 : decode cX8_readUnit 40 = .ok (.getfield 147, 3) := by decide +kernel
theorem dX8_readUnit_43 : decode cX8_readUnit 43 = .ok (.iload_n 2, 1) := by decide +kernel
theorem dX8_readUnit_44 : decode cX8_readUnit 44 = .ok (.aload_n 0, 1) := by decide +kernel
theorem dX8_readUnit_45 : decode cX8_readUnit 45 = .ok (.getfield 9, 3) := by decide +kernel
theorem dX8_readUnit_48 : decode cX8_readUnit 48 = .ok (.invokevirtual 86, 3) := by decide +kernel
theorem dX8_readUnit_51 : decode cX8_readUnit 51 = .ok (.invokevirtual 151, 3) := by decide +kernel
theorem dX8_readUnit_54 : decode cX8_readUnit 54 = .ok (.aload_n 0, 1) := by decide +kernel
theorem dX8_readUnit_55 : decode cX8_readUnit 55 = .ok (.getfield 9, 3) := by decide +kernel
theorem dX8_readUnit_58 : decode cX8_readUnit 58 = .ok (.invokevirtual 83, 3) := by decide +kernel
theorem dX8_readUnit_61 : decode cX8_readUnit 61 = .ok (.goto 80, 3) := by decide +kernel
theorem dX8_readUnit_64 : decode cX8_readUnit 64 = .ok (.iload_n 2, 1) := by decide +kernel
theorem dX8_readUnit_65 : decode cX8_readUnit 65 = .ok (.sipush 141, 3) := by decide +kernel
theorem dX8_readUnit_68 : decode cX8_readUnit 68 = .ok (.if_icmp .lt 32, 3) := by decide +kernel
theorem dX8_readUnit_71 : decode cX8_readUnit 71 = .ok (.iload_n 2, 1) := by decide +kernel
theorem dX8_readUnit_72 : decode cX8_readUnit 72 = .ok (.sipush 145, 3) := by decide +kernel
theorem dX8_readUnit_75 : decode cX8_readUnit 75 = .ok (.if_icmp .gt 25, 3) := by decide +kernel
theorem dX8_readUnit_78 : decode cX8_readUnit 78 = .ok (.aload_n 0, 1) := by decide +kernel
theorem dX8_readUnit_79 : decode cX8_readUnit 79 = .ok (.getfield 15, 3) := by decide +kernel
theorem dX8_readUnit_82 : decode cX8_readUnit 82 = .ok (.getfield 147, 3) := by decide +kernel
theorem dX8_readUnit_85 : decode cX8_readUnit 85 = .ok (.iload_n 2, 1) := by decide +kernel
theorem dX8_readUnit_86 : decode cX8_readUnit 86 = .ok (.iconst 0, 1) := by decide +kernel
theorem dX8_readUnit_87 : decode cX8_readUnit 87 = .ok (.invokevirtual 151, 3) := by decide +kernel
theorem dX8_readUnit_90 : decode cX8_readUnit 90 = .ok (.aload_n 0, 1) := by decide +kernel
theorem dX8_readUnit_91 : decode cX8_readUnit 91 = .ok (.getfield 9, 3) := by decide +kernel
theorem dX8_readUnit_94 : decode cX8_readUnit 94 = .ok (.invokevirtual 83, 3) := by decide +kernel
theorem dX8_readUnit_97 : decode cX8_readUnit 97 = .ok (.goto 44, 3) := by decide +kernel
theorem dX8_readUnit_100 : decode cX8_readUnit 100 = .ok (.iload_n 2, 1) := by decide +kernel
theorem dX8_readUnit_101 : decode cX8_readUnit 101 = .ok (.bipush 40, 2) := by decide +kernel
theorem dX8_readUnit_103 : decode cX8_readUnit 103 = .ok (.if_icmp .ne 30, 3) := by decide +kernel
theorem dX8_readUnit_106 : decode cX8_readUnit 106 = .ok (.aload_n 0, 1) := by decide +kernel
theorem dX8_readUnit_107 : decode cX8_readUnit 107 = .ok (.iload_n 1, 1) := by decide +kernel
theorem dX8_readUnit_108 : decode cX8_readUnit 108 = .ok (.invokevirtual 158, 3) := by decide +kernel
theorem dX8_readUnit_111 : decode cX8_readUnit 111 = .ok (.ifCond .eq 30, 3) := by decide +kernel
theorem dX8_readUnit_114 : decode cX8_readUnit 114 = .ok (.aload_n 0, 1) := by decide +kernel
theorem dX8_readUnit_115 : decode cX8_readUnit 115 = .ok (.iload_n 1, 1) := by decide +kernel
theorem dX8_readUnit_116 : decode cX8_readUnit 116 = .ok (.iconst 1, 1) := by decide +kernel
theorem dX8_readUnit_117 : decode cX8_readUnit 117 = .ok (.iadd, 1) := by decide +kernel
theorem dX8_readUnit_118 : decode cX8_readUnit 118 = .ok (.invokevirtual 52, 3) := by decide +kernel
theorem dX8_readUnit_121 : decode cX8_readUnit 121 = .ok (.aload_n 0, 1) := by decide +kernel
theorem dX8_readUnit_122 : decode cX8_readUnit 122 = .ok (.getfield 9, 3) := by decide +kernel
theorem dX8_readUnit_125 : decode cX8_readUnit 125 = .ok (.bipush 41, 2) := by decide +kernel
theorem dX8_readUnit_127 : decode cX8_readUnit 127 = .ok (.invokevirtual 70, 3) := by decide +kernel
theorem dX8_readUnit_130 : decode cX8_readUnit 130 = .ok (.goto 11, 3) := by decide +kernel
theorem dX8_readUnit_133 : decode cX8_readUnit 133 = .ok (.aload_n 0, 1) := by decide +kernel
theorem dX8_readUnit_134 : decode cX8_readUnit 134 = .ok (.getfield 9, 3) := by decide +kernel
theorem dX8_readUnit_137 : decode cX8_readUnit 137 = .ok (.iconst 2, 1) := by decide +kernel
theorem dX8_readUnit_138 : decode cX8_readUnit 138 = .ok (.invokevirtual 67, 3) := by decide +kernel
theorem dX8_readUnit_141 : decode cX8_readUnit 141 = .ok (.return_, 1) := by decide +kernel
theorem dX8_goesDeeper_0 : decode cX8_goesDeeper 0 = .ok (.iload_n 1, 1) := by decide +kernel
theorem dX8_goesDeeper_1 : decode cX8_goesDeeper 1 = .ok (.bipush 6, 2) := by decide +kernel
theorem dX8_goesDeeper_3 : decode cX8_goesDeeper 3 = .ok (.if_icmp .le 13, 3) := by decide +kernel
theorem dX8_goesDeeper_6 : decode cX8_goesDeeper 6 = .ok (.aload_n 0, 1) := by decide +kernel
theorem dX8_goesDeeper_7 : decode cX8_goesDeeper 7 = .ok (.getfield 9, 3) := by decide +kernel
theorem dX8_goesDeeper_10 : decode cX8_goesDeeper 10 = .ok (.iconst 2, 1) := by decide +kernel
theorem dX8_goesDeeper_11 : decode cX8_goesDeeper 11 = .ok (.invokevirtual 67, 3) := by decide +kernel
theorem dX8_goesDeeper_14 : decode cX8_goesDeeper 14 = .ok (.iconst 0, 1) := by decide +kernel
theorem dX8_goesDeeper_15 : decode cX8_goesDeeper 15 = .ok (.ireturn, 1) := by decide +kernel
theorem dX8_goesDeeper_16 : decode cX8_goesDeeper 16 = .ok (.aload_n 0, 1) := by decide +kernel
theorem dX8_goesDeeper_17 : decode cX8_goesDeeper 17 = .ok (.getfield 9, 3) := by decide +kernel
theorem dX8_goesDeeper_20 : decode cX8_goesDeeper 20 = .ok (.invokevirtual 83, 3) := by decide +kernel
theorem dX8_goesDeeper_23 : decode cX8_goesDeeper 23 = .ok (.iconst 1, 1) := by decide +kernel
theorem dX8_goesDeeper_24 : decode cX8_goesDeeper 24 = .ok (.ireturn, 1) := by decide +kernel
theorem dX9_init_0 : decode cX9_init 0 = .ok (.aload_n 0, 1) := by decide +kernel
theorem dX9_init_1 : decode cX9_init 1 = .ok (.invokespecial 3, 3) := by decide +kernel
theorem dX9_init_4 : decode cX9_init 4 = .ok (.aload_n 0, 1) := by decide +kernel
theorem dX9_init_5 : decode cX9_init 5 = .ok (.iconst 1, 1) := by decide +kernel
theorem dX9_init_6 : decode cX9_init 6 = .ok (.putfield 9, 3) := by decide +kernel
theorem dX9_init_9 : decode cX9_init 9 = .ok (.aload_n 0, 1) := by decide +kernel
theorem dX9_init_10 : decode cX9_init 10 = .ok (.iconst 0, 1) := by decide +kernel
theorem dX9_init_11 : decode cX9_init 11 = .ok (.putfield 15, 3) := by decide +kernel
theorem dX9_init_14 : decode cX9_init 14 = .ok (.aload_n 0, 1) := by decide +kernel
theorem dX9_init_15 : decode cX9_init 15 = .ok (.iconst 0, 1) := by decide +kernel
theorem dX9_init_16 : decode cX9_init 16 = .ok (.putfield 19, 3) := by decide +kernel
theorem dX9_init_19 : decode cX9_init 19 = .ok (.aload_n 0, 1) := by decide +kernel
theorem dX9_init_20 : decode cX9_init 20 = .ok (.iconst 0, 1) := by decide +kernel
theorem dX9_init_21 : decode cX9_init 21 = .ok (.putfield 22, 3) := by decide +kernel
theorem dX9_init_24 : decode cX9_init 24 = .ok (.aload_n 0, 1) := by decide +kernel
theorem dX9_init_25 : decode cX9_init 25 = .ok (.iconst 0, 1) := by decide +kernel
theorem dX9_init_26 : decode cX9_init 26 = .ok (.putfield 25, 3) := by decide +kernel
theorem dX9_init_29 : decode cX9_init 29 = .ok (.aload_n 0, 1) := by decide +kernel
theorem dX9_init_30 : decode cX9_init 30 = .ok (.iconst 0, 1) := by decide +kernel
theorem dX9_init_31 : decode cX9_init 31 = .ok (.putfield 28, 3) := by decide +kernel
theorem dX9_init_34 : decode cX9_init 34 = .ok (.aload_n 0, 1) := by decide +kernel
theorem dX9_init_35 : decode cX9_init 35 = .ok (.iconst 0, 1) := by decide +kernel
theorem dX9_init_36 : decode cX9_init 36 = .ok (.putfield 31, 3) := by decide +kernel
theorem dX9_init_39 : decode cX9_init 39 = .ok (.aload_n 0, 1) := by decide +kernel
theorem dX9_init_40 : decode cX9_init 40 = .ok (.iconst 0, 1) := by decide +kernel
theorem dX9_init_41 : decode cX9_init 41 = .ok (.putfield 34, 3) := by decide +kernel
theorem dX9_init_44 : decode cX9_init 44 = .ok (.aload_n 0, 1) := by decide +kernel
theorem dX9_init_45 : decode cX9_init 45 = .ok (.bipush 8, 2) := by decide +kernel
theorem dX9_init_47 : decode cX9_init 47 = .ok (.newarray .long, 2) := by decide +kernel
theorem dX9_init_49 : decode cX9_init 49 = .ok (.putfield 37, 3) := by decide +kernel
theorem dX9_init_52 : decode cX9_init 52 = .ok (.aload_n 0, 1) := by decide +kernel
theorem dX9_init_53 : decode cX9_init 53 = .ok (.bipush 6, 2) := by decide +kernel
theorem dX9_init_55 : decode cX9_init 55 = .ok (.newarray .long, 2) := by decide +kernel
theorem dX9_init_57 : decode cX9_init 57 = .ok (.putfield 41, 3) := by decide +kernel
theorem dX9_init_60 : decode cX9_init 60 = .ok (.aload_n 0, 1) := by decide +kernel
theorem dX9_init_61 : decode cX9_init 61 = .ok (.bipush 8, 2) := by decide +kernel
theorem dX9_init_63 : decode cX9_init 63 = .ok (.newarray .long, 2) := by decide +kernel
theorem dX9_init_65 : decode cX9_init 65 = .ok (.putfield 44, 3) := by decide +kernel
theorem dX9_init_68 : decode cX9_init 68 = .ok (.aload_n 0, 1) := by decide +kernel
theorem dX9_init_69 : decode cX9_init 69 = .ok (.bipush 8, 2) := by decide +kernel
theorem dX9_init_71 : decode cX9_init 71 = .ok (.newarray .int, 2) := by decide +kernel
theorem dX9_init_73 : decode cX9_init 73 = .ok (.putfield 47, 3) := by decide +kernel
theorem dX9_init_76 : decode cX9_init 76 = .ok (.aload_n 0, 1) := by decide +kernel
theorem dX9_init_77 : decode cX9_init 77 = .ok (.bipush 6, 2) := by decide +kernel
theorem dX9_init_79 : decode cX9_init 79 = .ok (.newarray .int, 2) := by decide +kernel
theorem dX9_init_81 : decode cX9_init 81 = .ok (.putfield 51, 3) := by decide +kernel
theorem dX9_init_84 : decode cX9_init 84 = .ok (.aload_n 0, 1) := by decide +kernel
theorem dX9_init_85 : decode cX9_init 85 = .ok (.bipush 8, 2) := by decide +kernel
theorem dX9_init_87 : decode cX9_init 87 = .ok (.newarray .int, 2) := by decide +kernel
theorem dX9_init_89 : decode cX9_init 89 = .ok (.putfield 54, 3) := by decide +kernel
theorem dX9_init_92 : decode cX9_init 92 = .ok (.aload_n 0, 1) := by decide +kernel
theorem dX9_init_93 : decode cX9_init 93 = .ok (.bipush 8, 2) := by decide +kernel
theorem dX9_init_95 : decode cX9_init 95 = .ok (.newarray .int, 2) := by decide +kernel
theorem dX9_init_97 : decode cX9_init 97 = .ok (.putfield 57, 3) := by decide +kernel
theorem dX9_init_100 : decode cX9_init 100 = .ok (.aload_n 0, 1) := by decide +kernel
theorem dX9_init_101 : decode cX9_init 101 = .ok (.new 60, 3) := by decide +kernel
theorem dX9_init_104 : decode cX9_init 104 = .ok (.dup, 1) := by decide +kernel
theorem dX9_init_105 : decode cX9_init 105 = .ok (.invokespecial 62, 3) := by decide +kernel
theorem dX9_init_108 : decode cX9_init 108 = .ok (.putfield 63, 3) := by decide +kernel
theorem dX9_init_111 : decode cX9_init 111 = .ok (.return_, 1) := by decide +kernel
theorem dX9_empty_0 : decode cX9_empty 0 = .ok (.aload_n 0, 1) := by decide +kernel
theorem dX9_empty_1 : decode cX9_empty 1 = .ok (.iconst 1, 1) := by decide +kernel
theorem dX9_empty_2 : decode cX9_empty 2 = .ok (.putfield 9, 3) := by decide +kernel
theorem dX9_empty_5 : decode cX9_empty 5 = .ok (.aload_n 0, 1) := by decide +kernel
theorem dX9_empty_6 : decode cX9_empty 6 = .ok (.iconst 0, 1) := by decide +kernel
theorem dX9_empty_7 : decode cX9_empty 7 = .ok (.putfield 15, 3) := by decide +kernel
theorem dX9_empty_10 : decode cX9_empty 10 = .ok (.aload_n 0, 1) := by decide +kernel
theorem dX9_empty_11 : decode cX9_empty 11 = .ok (.iconst 0, 1) := by decide +kernel
theorem dX9_empty_12 : decode cX9_empty 12 = .ok (.putfield 19, 3) := by decide +kernel
theorem dX9_empty_15 : decode cX9_empty 15 = .ok (.aload_n 0, 1) := by decide +kernel
theorem dX9_empty_16 : decode cX9_empty 16 = .ok (.iconst 0, 1) := by decide +kernel
theorem dX9_empty_17 : decode cX9_empty 17 = .ok (.putfield 22, 3) := by decide +kernel
theorem dX9_empty_20 : decode cX9_empty 20 = .ok (.aload_n 0, 1) := by decide +kernel
theorem dX9_empty_21 : decode cX9_empty 21 = .ok (.iconst 0, 1) := by decide +kernel
theorem dX9_empty_22 : decode cX9_empty 22 = .ok (.putfield 25, 3) := by decide +kernel
theorem dX9_empty_25 : decode cX9_empty 25 = .ok (.aload_n 0, 1) := by decide +kernel
theorem dX9_empty_26 : decode cX9_empty 26 = .ok (.iconst 0, 1) := by decide +kernel
theorem dX9_empty_27 : decode cX9_empty 27 = .ok (.putfield 28, 3) := by decide +kernel
theorem dX9_empty_30 : decode cX9_empty 30 = .ok (.aload_n 0, 1) := by decide +kernel
theorem dX9_empty_31 : decode cX9_empty 31 = .ok (.iconst 0, 1) := by decide +kernel
theorem dX9_empty_32 : decode cX9_empty 32 = .ok (.putfield 31, 3) := by decide +kernel
theorem dX9_empty_35 : decode cX9_empty 35 = .ok (.aload_n 0, 1) := by decide +kernel
theorem dX9_empty_36 : decode cX9_empty 36 = .ok (.iconst 0, 1) := by decide +kernel
theorem dX9_empty_37 : decode cX9_empty 37 = .ok (.putfield 34, 3) := by decide +kernel
theorem dX9_empty_40 : decode cX9_empty 40 = .ok (.aload_n 0, 1) := by decide +kernel
theorem dX9_empty_41 : decode cX9_empty 41 = .ok (.getfield 63, 3) := by decide +kernel
theorem dX9_empty_44 : decode cX9_empty 44 = .ok (.invokevirtual 67, 3) := by decide +kernel
theorem dX9_empty_47 : decode cX9_empty 47 = .ok (.return_, 1) := by decide +kernel
theorem dX9_copyFrom_0 : decode cX9_copyFrom 0 = .ok (.aload_n 0, 1) := by decide +kernel
theorem dX9_copyFrom_1 : decode cX9_copyFrom 1 = .ok (.aload_n 1, 1) := by decide +kernel
theorem dX9_copyFrom_2 : decode cX9_copyFrom 2 = .ok (.getfield 9, 3) := by decide +kernel
theorem dX9_copyFrom_5 : decode cX9_copyFrom 5 = .ok (.putfield 9, 3) := by decide +kernel
theorem dX9_copyFrom_8 : decode cX9_copyFrom 8 = .ok (.aload_n 0, 1) := by decide +kernel
theorem dX9_copyFrom_9 : decode cX9_copyFrom 9 = .ok (.aload_n 1, 1) := by decide +kernel
theorem dX9_copyFrom_10 : decode cX9_copyFrom 10 = .ok (.getfield 15, 3) := by decide +kernel
theorem dX9_copyFrom_13 : decode cX9_copyFrom 13 = .ok (.putfield 15, 3) := by decide +kernel
theorem dX9_copyFrom_16 : decode cX9_copyFrom 16 = .ok (.aload_n 0, 1) := by decide +kernel
theorem dX9_copyFrom_17 : decode cX9_copyFrom 17 = .ok (.aload_n 1, 1) := by decide +kernel
theorem dX9_copyFrom_18 : decode cX9_copyFrom 18 = .ok (.getfield 19, 3) := by decide +kernel
theorem dX9_copyFrom_21 : decode cX9_copyFrom 21 = .ok (.putfield 19, 3) := by decide +kernel
theorem dX9_copyFrom_24 : decode cX9_copyFrom 24 = .ok (.aload_n 0, 1) := by decide +kernel
theorem dX9_copyFrom_25 : decode cX9_copyFrom 25 = .ok (.aload_n 1, 1) := by decide +kernel
theorem dX9_copyFrom_26 : decode cX9_copyFrom 26 = .ok (.getfield 22, 3) := by decide +kernel
theorem dX9_copyFrom_29 : decode cX9_copyFrom 29 = .ok (.putfield 22, 3) := by decide +kernel
theorem dX9_copyFrom_32 : decode cX9_copyFrom 32 = .ok (.aload_n 0, 1) := by decide +kernel
theorem dX9_copyFrom_33 : decode cX9_copyFrom 33 = .ok (.aload_n 1, 1) := by decide +kernel
theorem dX9_copyFrom_34 : decode cX9_copyFrom 34 = .ok (.getfield 25, 3) := by decide +kernel
theorem dX9_copyFrom_37 : decode cX9_copyFrom 37 = .ok (.putfield 25, 3) := by decide +kernel
theorem dX9_copyFrom_40 : decode cX9_copyFrom 40 = .ok (.aload_n 0, 1) := by decide +kernel
theorem dX9_copyFrom_41 : decode cX9_copyFrom 41 = .ok (.aload_n 1, 1) := by decide +kernel
theorem dX9_copyFrom_42 : decode cX9_copyFrom 42 = .ok (.getfield 28, 3) := by decide +kernel
theorem dX9_copyFrom_45 : decode cX9_copyFrom 45 = .ok (.putfield 28, 3) := by decide +kernel
theorem dX9_copyFrom_48 : decode cX9_copyFrom 48 = .ok (.aload_n 0, 1) := by decide +kernel
theorem dX9_copyFrom_49 : decode cX9_copyFrom 49 = .ok (.aload_n 1, 1) := by decide +kernel
theorem dX9_copyFrom_50 : decode cX9_copyFrom 50 = .ok (.getfield 31, 3) := by decide +kernel
theorem dX9_copyFrom_53 : decode cX9_copyFrom 53 = .ok (.putfield 31, 3) := by decide +kernel
theorem dX9_copyFrom_56 : decode cX9_copyFrom 56 = .ok (.aload_n 1, 1) := by decide +kernel
theorem dX9_copyFrom_57 : decode cX9_copyFrom 57 = .ok (.getfield 47, 3) := by decide +kernel
theorem dX9_copyFrom_60 : decode cX9_copyFrom 60 = .ok (.iconst 0, 1) := by decide +kernel
theorem dX9_copyFrom_61 : decode cX9_copyFrom 61 = .ok (.aload_n 0, 1) := by decide +kernel
theorem dX9_copyFrom_62 : decode cX9_copyFrom 62 = .ok (.getfield 47, 3) := by decide +kernel
theorem dX9_copyFrom_65 : decode cX9_copyFrom 65 = .ok (.iconst 0, 1) := by decide +kernel
theorem dX9_copyFrom_66 : decode cX9_copyFrom 66 = .ok (.bipush 8, 2) := by decide +kernel
theorem dX9_copyFrom_68 : decode cX9_copyFrom 68 = .ok (.invokestatic 70, 3) := by decide +kernel
theorem dX9_copyFrom_71 : decode cX9_copyFrom 71 = .ok (.aload_n 1, 1) := by decide +kernel
theorem dX9_copyFrom_72 : decode cX9_copyFrom 72 = .ok (.getfield 51, 3) := by decide +kernel
theorem dX9_copyFrom_75 : decode cX9_copyFrom 75 = .ok (.iconst 0, 1) := by decide +kernel
theorem dX9_copyFrom_76 : decode cX9_copyFrom 76 = .ok (.aload_n 0, 1) := by decide +kernel
theorem dX9_copyFrom_77 : decode cX9_copyFrom 77 = .ok (.getfield 51, 3) := by decide +kernel
theorem dX9_copyFrom_80 : decode cX9_copyFrom 80 = .ok (.iconst 0, 1) := by decide +kernel
theorem dX9_copyFrom_81 : decode cX9_copyFrom 81 = .ok (.bipush 6, 2) := by decide +kernel
theorem dX9_copyFrom_83 : decode cX9_copyFrom 83 = .ok (.invokestatic 70, 3) := by decide +kernel
theorem dX9_copyFrom_86 : decode cX9_copyFrom 86 = .ok (.aload_n 1, 1) := by decide +kernel
theorem dX9_copyFrom_87 : decode cX9_copyFrom 87 = .ok (.getfield 54, 3) := by decide +kernel
theorem dX9_copyFrom_90 : decode cX9_copyFrom 90 = .ok (.iconst 0, 1) := by decide +kernel
theorem dX9_copyFrom_91 : decode cX9_copyFrom 91 = .ok (.aload_n 0, 1) := by decide +kernel
theorem dX9_copyFrom_92 : decode cX9_copyFrom 92 = .ok (.getfield 54, 3) := by decide +kernel
theorem dX9_copyFrom_95 : decode cX9_copyFrom 95 = .ok (.iconst 0, 1) := by decide +kernel
theorem dX9_copyFrom_96 : decode cX9_copyFrom 96 = .ok (.bipush 8, 2) := by decide +kernel
theorem dX9_copyFrom_98 : decode cX9_copyFrom 98 = .ok (.invokestatic 70, 3) := by decide +kernel
theorem dX9_copyFrom_101 : decode cX9_copyFrom 101 = .ok (.aload_n 1, 1) := by decide +kernel
theorem dX9_copyFrom_102 : decode cX9_copyFrom 102 = .ok (.getfield 57, 3) := by decide +kernel
theorem dX9_copyFrom_105 : decode cX9_copyFrom 105 = .ok (.iconst 0, 1) := by decide +kernel
theorem dX9_copyFrom_106 : decode cX9_copyFrom 106 = .ok (.aload_n 0, 1) := by decide +kernel
theorem dX9_copyFrom_107 : decode cX9_copyFrom 107 = .ok (.getfield 57, 3) := by decide +kernel
theorem dX9_copyFrom_110 : decode cX9_copyFrom 110 = .ok (.iconst 0, 1) := by decide +kernel
theorem dX9_copyFrom_111 : decode cX9_copyFrom 111 = .ok (.bipush 8, 2) := by decide +kernel
theorem dX9_copyFrom_113 : decode cX9_copyFrom 113 = .ok (.invokestatic 70, 3) := by decide +kernel
theorem dX9_copyFrom_116 : decode cX9_copyFrom 116 = .ok (.aload_n 0, 1) := by decide +kernel
theorem dX9_copyFrom_117 : decode cX9_copyFrom 117 = .ok (.getfield 63, 3) := by decide +kernel
theorem dX9_copyFrom_120 : decode cX9_copyFrom 120 = .ok (.aload_n 1, 1) := by decide +kernel
theorem dX9_copyFrom_121 : decode cX9_copyFrom 121 = .ok (.getfield 63, 3) := by decide +kernel
theorem dX9_copyFrom_124 : decode cX9_copyFrom 124 = .ok (.invokevirtual 76, 3) := by decide +kernel
theorem dX9_copyFrom_127 : decode cX9_copyFrom 127 = .ok (.return_, 1) := by decide +kernel
theorem dX10_init_0 : decode cX10_init 0 = .ok (.aload_n 0, 1) := by decide +kernel
theorem dX10_init_1 : decode cX10_init 1 = .ok (.invokespecial 3, 3) := by decide +kernel
theorem dX10_init_4 : decode cX10_init 4 = .ok (.aload_n 0, 1) := by decide +kernel
theorem dX10_init_5 : decode cX10_init 5 = .ok (.bipush 30, 2) := by decide +kernel
theorem dX10_init_7 : decode cX10_init 7 = .ok (.newarray .int, 2) := by decide +kernel
theorem dX10_init_9 : decode cX10_init 9 = .ok (.putfield 9, 3) := by decide +kernel
theorem dX10_init_12 : decode cX10_init 12 = .ok (.aload_n 0, 1) := by decide +kernel
theorem dX10_init_13 : decode cX10_init 13 = .ok (.bipush 30, 2) := by decide +kernel
theorem dX10_init_15 : decode cX10_init 15 = .ok (.newarray .int, 2) := by decide +kernel
theorem dX10_init_17 : decode cX10_init 17 = .ok (.putfield 15, 3) := by decide +kernel
theorem dX10_init_20 : decode cX10_init 20 = .ok (.aload_n 0, 1) := by decide +kernel
theorem dX10_init_21 : decode cX10_init 21 = .ok (.bipush 30, 2) := by decide +kernel
theorem dX10_init_23 : decode cX10_init 23 = .ok (.newarray .boolean, 2) := by decide +kernel
theorem dX10_init_25 : decode cX10_init 25 = .ok (.putfield 18, 3) := by decide +kernel
theorem dX10_init_28 : decode cX10_init 28 = .ok (.aload_n 0, 1) := by decide +kernel
theorem dX10_init_29 : decode cX10_init 29 = .ok (.bipush 30, 2) := by decide +kernel
theorem dX10_init_31 : decode cX10_init 31 = .ok (.newarray .int, 2) := by decide +kernel
theorem dX10_init_33 : decode cX10_init 33 = .ok (.putfield 22, 3) := by decide +kernel
theorem dX10_init_36 : decode cX10_init 36 = .ok (.aload_n 0, 1) := by decide +kernel
theorem dX10_init_37 : decode cX10_init 37 = .ok (.bipush 30, 2) := by decide +kernel
theorem dX10_init_39 : decode cX10_init 39 = .ok (.newarray .int, 2) := by decide +kernel
theorem dX10_init_41 : decode cX10_init 41 = .ok (.putfield 25, 3) := by decide +kernel
theorem dX10_init_44 : decode cX10_init 44 = .ok (.aload_n 0, 1) := by decide +kernel
theorem dX10_init_45 : decode cX10_init 45 = .ok (.iconst 0, 1) := by decide +kernel
theorem dX10_init_46 : decode cX10_init 46 = .ok (.putfield 28, 3) := by decide +kernel
theorem dX10_init_49 : decode cX10_init 49 = .ok (.aload_n 0, 1) := by decide +kernel
theorem dX10_init_50 : decode cX10_init 50 = .ok (.iconst 0, 1) := by decide +kernel
theorem dX10_init_51 : decode cX10_init 51 = .ok (.putfield 32, 3) := by decide +kernel
theorem dX10_init_54 : decode cX10_init 54 = .ok (.aload_n 0, 1) := by decide +kernel
theorem dX10_init_55 : decode cX10_init 55 = .ok (.iconst 2, 1) := by decide +kernel
theorem dX10_init_56 : decode cX10_init 56 = .ok (.newarray .int, 2) := by decide +kernel
theorem dX10_init_58 : decode cX10_init 58 = .ok (.putfield 35, 3) := by decide +kernel
theorem dX10_init_61 : decode cX10_init 61 = .ok (.aload_n 0, 1) := by decide +kernel
theorem dX10_init_62 : decode cX10_init 62 = .ok (.iconst 2, 1) := by decide +kernel
theorem dX10_init_63 : decode cX10_init 63 = .ok (.newarray .int, 2) := by decide +kernel
theorem dX10_init_65 : decode cX10_init 65 = .ok (.putfield 38, 3) := by decide +kernel
theorem dX10_init_68 : decode cX10_init 68 = .ok (.aload_n 0, 1) := by decide +kernel
theorem dX10_init_69 : decode cX10_init 69 = .ok (.bipush 6, 2) := by decide +kernel
theorem dX10_init_71 : decode cX10_init 71 = .ok (.newarray .int, 2) := by decide +kernel
theorem dX10_init_73 : decode cX10_init 73 = .ok (.putfield 41, 3) := by decide +kernel
theorem dX10_init_76 : decode cX10_init 76 = .ok (.aload_n 0, 1) := by decide +kernel
theorem dX10_init_77 : decode cX10_init 77 = .ok (.bipush 6, 2) := by decide +kernel
theorem dX10_init_79 : decode cX10_init 79 = .ok (.newarray .int, 2) := by decide +kernel
theorem dX10_init_81 : decode cX10_init 81 = .ok (.putfield 44, 3) := by decide +kernel
theorem dX10_init_84 : decode cX10_init 84 = .ok (.aload_n 0, 1) := by decide +kernel
theorem dX10_init_85 : decode cX10_init 85 = .ok (.aload_n 1, 1) := by decide +kernel
theorem dX10_init_86 : decode cX10_init 86 = .ok (.putfield 47, 3) := by decide +kernel
theorem dX10_init_89 : decode cX10_init 89 = .ok (.aload_n 0, 1) := by decide +kernel
theorem dX10_init_90 : decode cX10_init 90 = .ok (.aload_n 2, 1) := by decide +kernel
theorem dX10_init_91 : decode cX10_init 91 = .ok (.putfield 51, 3) := by decide +kernel
theorem dX10_init_94 : decode cX10_init 94 = .ok (.return_, 1) := by decide +kernel
theorem dX10_count_0 : decode cX10_count 0 = .ok (.aload_n 0, 1) := by decide +kernel
theorem dX10_count_1 : decode cX10_count 1 = .ok (.getfield 28, 3) := by decide +kernel
theorem dX10_count_4 : decode cX10_count 4 = .ok (.ireturn, 1) := by decide +kernel
theorem dX10_time_0 : decode cX10_time 0 = .ok (.aload_n 0, 1) := by decide +kernel
theorem dX10_time_1 : decode cX10_time 1 = .ok (.getfield 32, 3) := by decide +kernel
theorem dX10_time_4 : decode cX10_time 4 = .ok (.ireturn, 1) := by decide +kernel
theorem dX10_forget_0 : decode cX10_forget 0 = .ok (.aload_n 0, 1) := by decide +kernel
theorem dX10_forget_1 : decode cX10_forget 1 = .ok (.iconst 0, 1) := by decide +kernel
theorem dX10_forget_2 : decode cX10_forget 2 = .ok (.putfield 28, 3) := by decide +kernel
theorem dX10_forget_5 : decode cX10_forget 5 = .ok (.return_, 1) := by decide +kernel
theorem dX10_tell_0 : decode cX10_tell 0 = .ok (.aload_n 0, 1) := by decide +kernel
theorem dX10_tell_1 : decode cX10_tell 1 = .ok (.getfield 28, 3) := by decide +kernel
theorem dX10_tell_4 : decode cX10_tell 4 = .ok (.bipush 30, 2) := by decide +kernel
theorem dX10_tell_6 : decode cX10_tell 6 = .ok (.if_icmp .lt 5, 3) := by decide +kernel
theorem dX10_tell_9 : decode cX10_tell 9 = .ok (.iconst (-1), 1) := by decide +kernel
theorem dX10_tell_10 : decode cX10_tell 10 = .ok (.ireturn, 1) := by decide +kernel
theorem dX10_tell_11 : decode cX10_tell 11 = .ok (.aload_n 0, 1) := by decide +kernel
theorem dX10_tell_12 : decode cX10_tell 12 = .ok (.getfield 9, 3) := by decide +kernel
theorem dX10_tell_15 : decode cX10_tell 15 = .ok (.aload_n 0, 1) := by decide +kernel
theorem dX10_tell_16 : decode cX10_tell 16 = .ok (.getfield 28, 3) := by decide +kernel
theorem dX10_tell_19 : decode cX10_tell 19 = .ok (.iload_n 1, 1) := by decide +kernel
theorem dX10_tell_20 : decode cX10_tell 20 = .ok (.iastore, 1) := by decide +kernel
theorem dX10_tell_21 : decode cX10_tell 21 = .ok (.aload_n 0, 1) := by decide +kernel
theorem dX10_tell_22 : decode cX10_tell 22 = .ok (.getfield 15, 3) := by decide +kernel
theorem dX10_tell_25 : decode cX10_tell 25 = .ok (.aload_n 0, 1) := by decide +kernel
theorem dX10_tell_26 : decode cX10_tell 26 = .ok (.getfield 28, 3) := by decide +kernel
theorem dX10_tell_29 : decode cX10_tell 29 = .ok (.iload_n 2, 1) := by decide +kernel
theorem dX10_tell_30 : decode cX10_tell 30 = .ok (.iastore, 1) := by decide +kernel
theorem dX10_tell_31 : decode cX10_tell 31 = .ok (.aload_n 0, 1) := by decide +kernel
theorem dX10_tell_32 : decode cX10_tell 32 = .ok (.getfield 18, 3) := by decide +kernel
theorem dX10_tell_35 : decode cX10_tell 35 = .ok (.aload_n 0, 1) := by decide +kernel
theorem dX10_tell_36 : decode cX10_tell 36 = .ok (.getfield 28, 3) := by decide +kernel
theorem dX10_tell_39 : decode cX10_tell 39 = .ok (.iload_n 3, 1) := by decide +kernel
theorem dX10_tell_40 : decode cX10_tell 40 = .ok (.bastore, 1) := by decide +kernel
theorem dX10_tell_41 : decode cX10_tell 41 = .ok (.aload_n 0, 1) := by decide +kernel
theorem dX10_tell_42 : decode cX10_tell 42 = .ok (.getfield 22, 3) := by decide +kernel
theorem dX10_tell_45 : decode cX10_tell 45 = .ok (.aload_n 0, 1) := by decide +kernel
theorem dX10_tell_46 : decode cX10_tell 46 = .ok (.getfield 28, 3) := by decide +kernel
theorem dX10_tell_49 : decode cX10_tell 49 = .ok (.aload_n 0, 1) := by decide +kernel
theorem dX10_tell_50 : decode cX10_tell 50 = .ok (.getfield 32, 3) := by decide +kernel
theorem dX10_tell_53 : decode cX10_tell 53 = .ok (.iastore, 1) := by decide +kernel
theorem dX10_tell_54 : decode cX10_tell 54 = .ok (.aload_n 0, 1) := by decide +kernel
theorem dX10_tell_55 : decode cX10_tell 55 = .ok (.getfield 25, 3) := by decide +kernel
theorem dX10_tell_58 : decode cX10_tell 58 = .ok (.aload_n 0, 1) := by decide +kernel
theorem dX10_tell_59 : decode cX10_tell 59 = .ok (.getfield 28, 3) := by decide +kernel
theorem dX10_tell_62 : decode cX10_tell 62 = .ok (.iconst (-1), 1) := by decide +kernel
theorem dX10_tell_63 : decode cX10_tell 63 = .ok (.iastore, 1) := by decide +kernel
theorem dX10_tell_64 : decode cX10_tell 64 = .ok (.aload_n 0, 1) := by decide +kernel
theorem dX10_tell_65 : decode cX10_tell 65 = .ok (.dup, 1) := by decide +kernel
theorem dX10_tell_66 : decode cX10_tell 66 = .ok (.getfield 28, 3) := by decide +kernel
theorem dX10_tell_69 : decode cX10_tell 69 = .ok (.iconst 1, 1) := by decide +kernel
theorem dX10_tell_70 : decode cX10_tell 70 = .ok (.iadd, 1) := by decide +kernel
theorem dX10_tell_71 : decode cX10_tell 71 = .ok (.putfield 28, 3) := by decide +kernel
theorem dX10_tell_74 : decode cX10_tell 74 = .ok (.aload_n 0, 1) := by decide +kernel
theorem dX10_tell_75 : decode cX10_tell 75 = .ok (.getfield 28, 3) := by decide +kernel
theorem dX10_tell_78 : decode cX10_tell 78 = .ok (.iconst 1, 1) := by decide +kernel
theorem dX10_tell_79 : decode cX10_tell 79 = .ok (.isub, 1) := by decide +kernel
theorem dX10_tell_80 : decode cX10_tell 80 = .ok (.ireturn, 1) := by decide +kernel
theorem dX10_takeBack_0 : decode cX10_takeBack 0 = .ok (.iload_n 1, 1) := by decide +kernel
theorem dX10_takeBack_1 : decode cX10_takeBack 1 = .ok (.ifCond .lt 21, 3) := by decide +kernel
theorem dX10_takeBack_4 : decode cX10_takeBack 4 = .ok (.iload_n 1, 1) := by decide +kernel
theorem dX10_takeBack_5 : decode cX10_takeBack 5 = .ok (.aload_n 0, 1) := by decide +kernel
theorem dX10_takeBack_6 : decode cX10_takeBack 6 = .ok (.getfield 28, 3) := by decide +kernel
theorem dX10_takeBack_9 : decode cX10_takeBack 9 = .ok (.if_icmp .ge 13, 3) := by decide +kernel
theorem dX10_takeBack_12 : decode cX10_takeBack 12 = .ok (.aload_n 0, 1) := by decide +kernel
theorem dX10_takeBack_13 : decode cX10_takeBack 13 = .ok (.getfield 25, 3) := by decide +kernel
