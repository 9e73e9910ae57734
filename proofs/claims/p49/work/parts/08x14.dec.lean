theorem dX12_lowest_37 : decode cX12_lowest 37 = .ok (.ifCond .ne 7, 3) := by decide +kernel
theorem dX12_lowest_40 : decode cX12_lowest 40 = .ok (.iconst 1, 1) := by decide +kernel
theorem dX12_lowest_41 : decode cX12_lowest 41 = .ok (.goto 4, 3) := by decide +kernel
theorem dX12_lowest_44 : decode cX12_lowest 44 = .ok (.iconst 0, 1) := by decide +kernel
theorem dX12_lowest_45 : decode cX12_lowest 45 = .ok (.istore_n 3, 1) := by decide +kernel
theorem dX12_lowest_46 : decode cX12_lowest 46 = .ok (.iinc 4 1, 3) := by decide +kernel
theorem dX12_lowest_49 : decode cX12_lowest 49 = .ok (.goto (-32), 3) := by decide +kernel
theorem dX12_lowest_52 : decode cX12_lowest 52 = .ok (.iload_n 3, 1) := by decide +kernel
theorem dX12_lowest_53 : decode cX12_lowest 53 = .ok (.ifCond .eq 9, 3) := by decide +kernel
theorem dX12_lowest_56 : decode cX12_lowest 56 = .ok (.iload_n 1, 1) := by decide +kernel
theorem dX12_lowest_57 : decode cX12_lowest 57 = .ok (.iconst 1, 1) := by decide +kernel
theorem dX12_lowest_58 : decode cX12_lowest 58 = .ok (.iload_n 2, 1) := by decide +kernel
theorem dX12_lowest_59 : decode cX12_lowest 59 = .ok (.ishl, 1) := by decide +kernel
theorem dX12_lowest_60 : decode cX12_lowest 60 = .ok (.ior, 1) := by decide +kernel
theorem dX12_lowest_61 : decode cX12_lowest 61 = .ok (.istore_n 1, 1) := by decide +kernel
theorem dX12_lowest_62 : decode cX12_lowest 62 = .ok (.iinc 2 1, 3) := by decide +kernel
theorem dX12_lowest_65 : decode cX12_lowest 65 = .ok (.goto (-61), 3) := by decide +kernel
theorem dX12_lowest_68 : decode cX12_lowest 68 = .ok (.iload_n 1, 1) := by decide +kernel
theorem dX12_lowest_69 : decode cX12_lowest 69 = .ok (.ireturn, 1) := by decide +kernel
theorem dX12_highest_0 : decode cX12_highest 0 = .ok (.iconst 0, 1) := by decide +kernel
theorem dX12_highest_1 : decode cX12_highest 1 = .ok (.istore_n 1, 1) := by decide +kernel
theorem dX12_highest_2 : decode cX12_highest 2 = .ok (.iconst 0, 1) := by decide +kernel
theorem dX12_highest_3 : decode cX12_highest 3 = .ok (.istore_n 2, 1) := by decide +kernel
theorem dX12_highest_4 : decode cX12_highest 4 = .ok (.iload_n 2, 1) := by decide +kernel
theorem dX12_highest_5 : decode cX12_highest 5 = .ok (.aload_n 0, 1) := by decide +kernel
theorem dX12_highest_6 : decode cX12_highest 6 = .ok (.invokevirtual 367, 3) := by decide +kernel
theorem dX12_highest_9 : decode cX12_highest 9 = .ok (.if_icmp .ge 59, 3) := by decide +kernel
theorem dX12_highest_12 : decode cX12_highest 12 = .ok (.iconst 1, 1) := by decide +kernel
theorem dX12_highest_13 : decode cX12_highest 13 = .ok (.istore_n 3, 1) := by decide +kernel
theorem dX12_highest_14 : decode cX12_highest 14 = .ok (.iconst 0, 1) := by decide +kernel
theorem dX12_highest_15 : decode cX12_highest 15 = .ok (.istore 4, 2) := by decide +kernel
theorem dX12_highest_17 : decode cX12_highest 17 = .ok (.iload 4, 2) := by decide +kernel
theorem dX12_highest_19 : decode cX12_highest 19 = .ok (.aload_n 0, 1) := by decide +kernel
theorem dX12_highest_20 : decode cX12_highest 20 = .ok (.invokevirtual 367, 3) := by decide +kernel
theorem dX12_highest_23 : decode cX12_highest 23 = .ok (.if_icmp .ge 29, 3) := by decide +kernel
theorem dX12_highest_26 : decode cX12_highest 26 = .ok (.iload_n 3, 1) := by decide +kernel
theorem dX12_highest_27 : decode cX12_highest 27 = .ok (.ifCond .eq 17, 3) := by decide +kernel
theorem dX12_highest_30 : decode cX12_highest 30 = .ok (.aload_n 0, 1) := by decide +kernel
theorem dX12_highest_31 : decode cX12_highest 31 = .ok (.iload_n 2, 1) := by decide +kernel
theorem dX12_highest_32 : decode cX12_highest 32 = .ok (.iload 4, 2) := by decide +kernel
theorem dX12_highest_34 : decode cX12_highest 34 = .ok (.invokevirtual 454, 3) := by decide +kernel
theorem dX12_highest_37 : decode cX12_highest 37 = .ok (.ifCond .ne 7, 3) := by decide +kernel
theorem dX12_highest_40 : decode cX12_highest 40 = .ok (.iconst 1, 1) := by decide +kernel
theorem dX12_highest_41 : decode cX12_highest 41 = .ok (.goto 4, 3) := by decide +kernel
theorem dX12_highest_44 : decode cX12_highest 44 = .ok (.iconst 0, 1) := by decide +kernel
theorem dX12_highest_45 : decode cX12_highest 45 = .ok (.istore_n 3, 1) := by decide +kernel
theorem dX12_highest_46 : decode cX12_highest 46 = .ok (.iinc 4 1, 3) := by decide +kernel
theorem dX12_highest_49 : decode cX12_highest 49 = .ok (.goto (-32), 3) := by decide +kernel
theorem dX12_highest_52 : decode cX12_highest 52 = .ok (.iload_n 3, 1) := by decide +kernel
theorem dX12_highest_53 : decode cX12_highest 53 = .ok (.ifCond .eq 9, 3) := by decide +kernel
theorem dX12_highest_56 : decode cX12_highest 56 = .ok (.iload_n 1, 1) := by decide +kernel
theorem dX12_highest_57 : decode cX12_highest 57 = .ok (.iconst 1, 1) := by decide +kernel
theorem dX12_highest_58 : decode cX12_highest 58 = .ok (.iload_n 2, 1) := by decide +kernel
theorem dX12_highest_59 : decode cX12_highest 59 = .ok (.ishl, 1) := by decide +kernel
theorem dX12_highest_60 : decode cX12_highest 60 = .ok (.ior, 1) := by decide +kernel
theorem dX12_highest_61 : decode cX12_highest 61 = .ok (.istore_n 1, 1) := by decide +kernel
theorem dX12_highest_62 : decode cX12_highest 62 = .ok (.iinc 2 1, 3) := by decide +kernel
theorem dX12_highest_65 : decode cX12_highest 65 = .ok (.goto (-61), 3) := by decide +kernel
theorem dX12_highest_68 : decode cX12_highest 68 = .ok (.iload_n 1, 1) := by decide +kernel
theorem dX12_highest_69 : decode cX12_highest 69 = .ok (.ireturn, 1) := by decide +kernel
theorem dX12_closed_0 : decode cX12_closed 0 = .ok (.iconst 0, 1) := by decide +kernel
theorem dX12_closed_1 : decode cX12_closed 1 = .ok (.istore_n 1, 1) := by decide +kernel
theorem dX12_closed_2 : decode cX12_closed 2 = .ok (.iload_n 1, 1) := by decide +kernel
theorem dX12_closed_3 : decode cX12_closed 3 = .ok (.aload_n 0, 1) := by decide +kernel
theorem dX12_closed_4 : decode cX12_closed 4 = .ok (.invokevirtual 367, 3) := by decide +kernel
theorem dX12_closed_7 : decode cX12_closed 7 = .ok (.if_icmp .ge 49, 3) := by decide +kernel
theorem dX12_closed_10 : decode cX12_closed 10 = .ok (.iconst 0, 1) := by decide +kernel
theorem dX12_closed_11 : decode cX12_closed 11 = .ok (.istore_n 2, 1) := by decide +kernel
theorem dX12_closed_12 : decode cX12_closed 12 = .ok (.iload_n 2, 1) := by decide +kernel
theorem dX12_closed_13 : decode cX12_closed 13 = .ok (.aload_n 0, 1) := by decide +kernel
theorem dX12_closed_14 : decode cX12_closed 14 = .ok (.invokevirtual 367, 3) := by decide +kernel
theorem dX12_closed_17 : decode cX12_closed 17 = .ok (.if_icmp .ge 33, 3) := by decide +kernel
theorem dX12_closed_20 : decode cX12_closed 20 = .ok (.iload_n 1, 1) := by decide +kernel
theorem dX12_closed_21 : decode cX12_closed 21 = .ok (.iload_n 2, 1) := by decide +kernel
theorem dX12_closed_22 : decode cX12_closed 22 = .ok (.if_icmp .eq 22, 3) := by decide +kernel
theorem dX12_closed_25 : decode cX12_closed 25 = .ok (.aload_n 0, 1) := by decide +kernel
theorem dX12_closed_26 : decode cX12_closed 26 = .ok (.aload_n 0, 1) := by decide +kernel
theorem dX12_closed_27 : decode cX12_closed 27 = .ok (.iload_n 1, 1) := by decide +kernel
theorem dX12_closed_28 : decode cX12_closed 28 = .ok (.invokevirtual 383, 3) := by decide +kernel
theorem dX12_closed_31 : decode cX12_closed 31 = .ok (.aload_n 0, 1) := by decide +kernel
theorem dX12_closed_32 : decode cX12_closed 32 = .ok (.iload_n 2, 1) := by decide +kernel
theorem dX12_closed_33 : decode cX12_closed 33 = .ok (.invokevirtual 383, 3) := by decide +kernel
theorem dX12_closed_36 : decode cX12_closed 36 = .ok (.invokevirtual 429, 3) := by decide +kernel
theorem dX12_closed_39 : decode cX12_closed 39 = .ok (.ifCond .eq 5, 3) := by decide +kernel
theorem dX12_closed_42 : decode cX12_closed 42 = .ok (.iconst 0, 1) := by decide +kernel
theorem dX12_closed_43 : decode cX12_closed 43 = .ok (.ireturn, 1) := by decide +kernel
theorem dX12_closed_44 : decode cX12_closed 44 = .ok (.iinc 2 1, 3) := by decide +kernel
theorem dX12_closed_47 : decode cX12_closed 47 = .ok (.goto (-35), 3) := by decide +kernel
theorem dX12_closed_50 : decode cX12_closed 50 = .ok (.iinc 1 1, 3) := by decide +kernel
theorem dX12_closed_53 : decode cX12_closed 53 = .ok (.goto (-51), 3) := by decide +kernel
theorem dX12_closed_56 : decode cX12_closed 56 = .ok (.iconst 1, 1) := by decide +kernel
theorem dX12_closed_57 : decode cX12_closed 57 = .ok (.ireturn, 1) := by decide +kernel
theorem dX12_twins_0 : decode cX12_twins 0 = .ok (.iconst 0, 1) := by decide +kernel
theorem dX12_twins_1 : decode cX12_twins 1 = .ok (.istore_n 1, 1) := by decide +kernel
theorem dX12_twins_2 : decode cX12_twins 2 = .ok (.iconst 0, 1) := by decide +kernel
theorem dX12_twins_3 : decode cX12_twins 3 = .ok (.istore_n 2, 1) := by decide +kernel
theorem dX12_twins_4 : decode cX12_twins 4 = .ok (.iload_n 2, 1) := by decide +kernel
theorem dX12_twins_5 : decode cX12_twins 5 = .ok (.aload_n 0, 1) := by decide +kernel
theorem dX12_twins_6 : decode cX12_twins 6 = .ok (.invokevirtual 367, 3) := by decide +kernel
theorem dX12_twins_9 : decode cX12_twins 9 = .ok (.if_icmp .ge 47, 3) := by decide +kernel
theorem dX12_twins_12 : decode cX12_twins 12 = .ok (.iconst 0, 1) := by decide +kernel
theorem dX12_twins_13 : decode cX12_twins 13 = .ok (.istore_n 3, 1) := by decide +kernel
theorem dX12_twins_14 : decode cX12_twins 14 = .ok (.iload_n 3, 1) := by decide +kernel
theorem dX12_twins_15 : decode cX12_twins 15 = .ok (.iload_n 2, 1) := by decide +kernel
theorem dX12_twins_16 : decode cX12_twins 16 = .ok (.if_icmp .ge 34, 3) := by decide +kernel
theorem dX12_twins_19 : decode cX12_twins 19 = .ok (.iload_n 1, 1) := by decide +kernel
theorem dX12_twins_20 : decode cX12_twins 20 = .ok (.aload_n 0, 1) := by decide +kernel
theorem dX12_twins_21 : decode cX12_twins 21 = .ok (.aload_n 0, 1) := by decide +kernel
theorem dX12_twins_22 : decode cX12_twins 22 = .ok (.iload_n 2, 1) := by decide +kernel
theorem dX12_twins_23 : decode cX12_twins 23 = .ok (.invokevirtual 383, 3) := by decide +kernel
theorem dX12_twins_26 : decode cX12_twins 26 = .ok (.aload_n 0, 1) := by decide +kernel
theorem dX12_twins_27 : decode cX12_twins 27 = .ok (.iload_n 3, 1) := by decide +kernel
theorem dX12_twins_28 : decode cX12_twins 28 = .ok (.invokevirtual 383, 3) := by decide +kernel
theorem dX12_twins_31 : decode cX12_twins 31 = .ok (.invokevirtual 432, 3) := by decide +kernel
theorem dX12_twins_34 : decode cX12_twins 34 = .ok (.ifCond .eq 7, 3) := by decide +kernel
theorem dX12_twins_37 : decode cX12_twins 37 = .ok (.iconst 1, 1) := by decide +kernel
theorem dX12_twins_38 : decode cX12_twins 38 = .ok (.goto 4, 3) := by decide +kernel
theorem dX12_twins_41 : decode cX12_twins 41 = .ok (.iconst 0, 1) := by decide +kernel
theorem dX12_twins_42 : decode cX12_twins 42 = .ok (.iadd, 1) := by decide +kernel
theorem dX12_twins_43 : decode cX12_twins 43 = .ok (.istore_n 1, 1) := by decide +kernel
theorem dX12_twins_44 : decode cX12_twins 44 = .ok (.iinc 3 1, 3) := by decide +kernel
theorem dX12_twins_47 : decode cX12_twins 47 = .ok (.goto (-33), 3) := by decide +kernel
theorem dX12_twins_50 : decode cX12_twins 50 = .ok (.iinc 2 1, 3) := by decide +kernel
theorem dX12_twins_53 : decode cX12_twins 53 = .ok (.goto (-49), 3) := by decide +kernel
theorem dX12_twins_56 : decode cX12_twins 56 = .ok (.iload_n 1, 1) := by decide +kernel
theorem dX12_twins_57 : decode cX12_twins 57 = .ok (.ireturn, 1) := by decide +kernel
theorem dX12_differ_0 : decode cX12_differ 0 = .ok (.bipush 12, 2) := by decide +kernel
theorem dX12_differ_2 : decode cX12_differ 2 = .ok (.istore_n 3, 1) := by decide +kernel
theorem dX12_differ_3 : decode cX12_differ 3 = .ok (.iconst 0, 1) := by decide +kernel
theorem dX12_differ_4 : decode cX12_differ 4 = .ok (.istore 4, 2) := by decide +kernel
theorem dX12_differ_6 : decode cX12_differ 6 = .ok (.iload 4, 2) := by decide +kernel
theorem dX12_differ_8 : decode cX12_differ 8 = .ok (.aload_n 0, 1) := by decide +kernel
theorem dX12_differ_9 : decode cX12_differ 9 = .ok (.invokevirtual 358, 3) := by decide +kernel
theorem dX12_differ_12 : decode cX12_differ 12 = .ok (.if_icmp .ge 32, 3) := by decide +kernel
theorem dX12_differ_15 : decode cX12_differ 15 = .ok (.aload_n 0, 1) := by decide +kernel
theorem dX12_differ_16 : decode cX12_differ 16 = .ok (.iload_n 1, 1) := by decide +kernel
theorem dX12_differ_17 : decode cX12_differ 17 = .ok (.iload 4, 2) := by decide +kernel
theorem dX12_differ_19 : decode cX12_differ 19 = .ok (.invokevirtual 361, 3) := by decide +kernel
theorem dX12_differ_22 : decode cX12_differ 22 = .ok (.iload_n 2, 1) := by decide +kernel
theorem dX12_differ_23 : decode cX12_differ 23 = .ok (.ixor, 1) := by decide +kernel
theorem dX12_differ_24 : decode cX12_differ 24 = .ok (.invokestatic 330, 3) := by decide +kernel
theorem dX12_differ_27 : decode cX12_differ 27 = .ok (.istore 5, 2) := by decide +kernel
theorem dX12_differ_29 : decode cX12_differ 29 = .ok (.iload 5, 2) := by decide +kernel
theorem dX12_differ_31 : decode cX12_differ 31 = .ok (.iload_n 3, 1) := by decide +kernel
theorem dX12_differ_32 : decode cX12_differ 32 = .ok (.if_icmp .ge 6, 3) := by decide +kernel
theorem dX12_differ_35 : decode cX12_differ 35 = .ok (.iload 5, 2) := by decide +kernel
theorem dX12_differ_37 : decode cX12_differ 37 = .ok (.istore_n 3, 1) := by decide +kernel
theorem dX12_differ_38 : decode cX12_differ 38 = .ok (.iinc 4 1, 3) := by decide +kernel
theorem dX12_differ_41 : decode cX12_differ 41 = .ok (.goto (-35), 3) := by decide +kernel
theorem dX12_differ_44 : decode cX12_differ 44 = .ok (.iload_n 3, 1) := by decide +kernel
theorem dX12_differ_45 : decode cX12_differ 45 = .ok (.ireturn, 1) := by decide +kernel
theorem dX12_nearest_0 : decode cX12_nearest 0 = .ok (.iload_n 1, 1) := by decide +kernel
theorem dX12_nearest_1 : decode cX12_nearest 1 = .ok (.invokestatic 426, 3) := by decide +kernel
theorem dX12_nearest_4 : decode cX12_nearest 4 = .ok (.ifCond .eq 12, 3) := by decide +kernel
theorem dX12_nearest_7 : decode cX12_nearest 7 = .ok (.iload_n 2, 1) := by decide +kernel
theorem dX12_nearest_8 : decode cX12_nearest 8 = .ok (.iconst 0, 1) := by decide +kernel
theorem dX12_nearest_9 : decode cX12_nearest 9 = .ok (.iconst 1, 1) := by decide +kernel
theorem dX12_nearest_10 : decode cX12_nearest 10 = .ok (.invokestatic 370, 3) := by decide +kernel
theorem dX12_nearest_13 : decode cX12_nearest 13 = .ok (.ifCond .ne 5, 3) := by decide +kernel
theorem dX12_nearest_16 : decode cX12_nearest 16 = .ok (.iconst (-1), 1) := by decide +kernel
theorem dX12_nearest_17 : decode cX12_nearest 17 = .ok (.ireturn, 1) := by decide +kernel
theorem dX12_nearest_18 : decode cX12_nearest 18 = .ok (.iconst (-1), 1) := by decide +kernel
theorem dX12_nearest_19 : decode cX12_nearest 19 = .ok (.istore_n 3, 1) := by decide +kernel
theorem dX12_nearest_20 : decode cX12_nearest 20 = .ok (.iconst 0, 1) := by decide +kernel
theorem dX12_nearest_21 : decode cX12_nearest 21 = .ok (.istore 4, 2) := by decide +kernel
theorem dX12_nearest_23 : decode cX12_nearest 23 = .ok (.iload 4, 2) := by decide +kernel
theorem dX12_nearest_25 : decode cX12_nearest 25 = .ok (.aload_n 0, 1) := by decide +kernel
theorem dX12_nearest_26 : decode cX12_nearest 26 = .ok (.invokevirtual 367, 3) := by decide +kernel
theorem dX12_nearest_29 : decode cX12_nearest 29 = .ok (.if_icmp .ge 40, 3) := by decide +kernel
theorem dX12_nearest_32 : decode cX12_nearest 32 = .ok (.iload_n 3, 1) := by decide +kernel
theorem dX12_nearest_33 : decode cX12_nearest 33 = .ok (.ifCond .lt 27, 3) := by decide +kernel
theorem dX12_nearest_36 : decode cX12_nearest 36 = .ok (.aload_n 0, 1) := by decide +kernel
theorem dX12_nearest_37 : decode cX12_nearest 37 = .ok (.aload_n 0, 1) := by decide +kernel
theorem dX12_nearest_38 : decode cX12_nearest 38 = .ok (.iload 4, 2) := by decide +kernel
theorem dX12_nearest_40 : decode cX12_nearest 40 = .ok (.invokevirtual 383, 3) := by decide +kernel
theorem dX12_nearest_43 : decode cX12_nearest 43 = .ok (.iload_n 1, 1) := by decide +kernel
theorem dX12_nearest_44 : decode cX12_nearest 44 = .ok (.invokevirtual 457, 3) := by decide +kernel
theorem dX12_nearest_47 : decode cX12_nearest 47 = .ok (.aload_n 0, 1) := by decide +kernel
theorem dX12_nearest_48 : decode cX12_nearest 48 = .ok (.aload_n 0, 1) := by decide +kernel
theorem dX12_nearest_49 : decode cX12_nearest 49 = .ok (.iload_n 3, 1) := by decide +kernel
theorem dX12_nearest_50 : decode cX12_nearest 50 = .ok (.invokevirtual 383, 3) := by decide +kernel
theorem dX12_nearest_53 : decode cX12_nearest 53 = .ok (.iload_n 1, 1) := by decide +kernel
theorem dX12_nearest_54 : decode cX12_nearest 54 = .ok (.invokevirtual 457, 3) := by decide +kernel
theorem dX12_nearest_57 : decode cX12_nearest 57 = .ok (.if_icmp .ge 6, 3) := by decide +kernel
theorem dX12_nearest_60 : decode cX12_nearest 60 = .ok (.iload 4, 2) := by decide +kernel
theorem dX12_nearest_62 : decode cX12_nearest 62 = .ok (.istore_n 3, 1) := by decide +kernel
theorem dX12_nearest_63 : decode cX12_nearest 63 = .ok (.iinc 4 1, 3) := by decide +kernel
theorem dX12_nearest_66 : decode cX12_nearest 66 = .ok (.goto (-43), 3) := by decide +kernel
theorem dX12_nearest_69 : decode cX12_nearest 69 = .ok (.iload_n 3, 1) := by decide +kernel
theorem dX12_nearest_70 : decode cX12_nearest 70 = .ok (.ifCond .ge 7, 3) := by decide +kernel
theorem dX12_nearest_73 : decode cX12_nearest 73 = .ok (.iconst (-1), 1) := by decide +kernel
theorem dX12_nearest_74 : decode cX12_nearest 74 = .ok (.goto 21, 3) := by decide +kernel
theorem dX12_nearest_77 : decode cX12_nearest 77 = .ok (.iload_n 2, 1) := by decide +kernel
theorem dX12_nearest_78 : decode cX12_nearest 78 = .ok (.ifCond .ne 7, 3) := by decide +kernel
theorem dX12_nearest_81 : decode cX12_nearest 81 = .ok (.iload_n 3, 1) := by decide +kernel
theorem dX12_nearest_82 : decode cX12_nearest 82 = .ok (.goto 13, 3) := by decide +kernel
theorem dX12_nearest_85 : decode cX12_nearest 85 = .ok (.aload_n 0, 1) := by decide +kernel
theorem dX12_nearest_86 : decode cX12_nearest 86 = .ok (.aload_n 0, 1) := by decide +kernel
theorem dX12_nearest_87 : decode cX12_nearest 87 = .ok (.iload_n 3, 1) := by decide +kernel
theorem dX12_nearest_88 : decode cX12_nearest 88 = .ok (.invokevirtual 383, 3) := by decide +kernel
theorem dX12_nearest_91 : decode cX12_nearest 91 = .ok (.iload_n 1, 1) := by decide +kernel
theorem dX12_nearest_92 : decode cX12_nearest 92 = .ok (.invokevirtual 457, 3) := by decide +kernel
theorem dX12_nearest_95 : decode cX12_nearest 95 = .ok (.ireturn, 1) := by decide +kernel
theorem dX12_shared_0 : decode cX12_shared 0 = .ok (.aload_n 0, 1) := by decide +kernel
theorem dX12_shared_1 : decode cX12_shared 1 = .ok (.iload_n 1, 1) := by decide +kernel
theorem dX12_shared_2 : decode cX12_shared 2 = .ok (.invokevirtual 414, 3) := by decide +kernel
theorem dX12_shared_5 : decode cX12_shared 5 = .ok (.ifCond .eq 11, 3) := by decide +kernel
theorem dX12_shared_8 : decode cX12_shared 8 = .ok (.aload_n 0, 1) := by decide +kernel
theorem dX12_shared_9 : decode cX12_shared 9 = .ok (.iload_n 2, 1) := by decide +kernel
theorem dX12_shared_10 : decode cX12_shared 10 = .ok (.invokevirtual 414, 3) := by decide +kernel
theorem dX12_shared_13 : decode cX12_shared 13 = .ok (.ifCond .ne 5, 3) := by decide +kernel
theorem dX12_shared_16 : decode cX12_shared 16 = .ok (.iconst (-1), 1) := by decide +kernel
theorem dX12_shared_17 : decode cX12_shared 17 = .ok (.ireturn, 1) := by decide +kernel
theorem dX12_shared_18 : decode cX12_shared 18 = .ok (.iconst 0, 1) := by decide +kernel
theorem dX12_shared_19 : decode cX12_shared 19 = .ok (.istore_n 3, 1) := by decide +kernel
theorem dX12_shared_20 : decode cX12_shared 20 = .ok (.iconst 0, 1) := by decide +kernel
theorem dX12_shared_21 : decode cX12_shared 21 = .ok (.istore 4, 2) := by decide +kernel
theorem dX12_shared_23 : decode cX12_shared 23 = .ok (.iload 4, 2) := by decide +kernel
theorem dX12_shared_25 : decode cX12_shared 25 = .ok (.aload_n 0, 1) := by decide +kernel
theorem dX12_shared_26 : decode cX12_shared 26 = .ok (.invokevirtual 358, 3) := by decide +kernel
theorem dX12_shared_29 : decode cX12_shared 29 = .ok (.if_icmp .ge 40, 3) := by decide +kernel
theorem dX12_shared_32 : decode cX12_shared 32 = .ok (.aload_n 0, 1) := by decide +kernel
theorem dX12_shared_33 : decode cX12_shared 33 = .ok (.aload_n 0, 1) := by decide +kernel
theorem dX12_shared_34 : decode cX12_shared 34 = .ok (.iload_n 1, 1) := by decide +kernel
theorem dX12_shared_35 : decode cX12_shared 35 = .ok (.invokevirtual 383, 3) := by decide +kernel
theorem dX12_shared_38 : decode cX12_shared 38 = .ok (.iload 4, 2) := by decide +kernel
theorem dX12_shared_40 : decode cX12_shared 40 = .ok (.invokevirtual 361, 3) := by decide +kernel
theorem dX12_shared_43 : decode cX12_shared 43 = .ok (.aload_n 0, 1) := by decide +kernel
theorem dX12_shared_44 : decode cX12_shared 44 = .ok (.iload_n 2, 1) := by decide +kernel
theorem dX12_shared_45 : decode cX12_shared 45 = .ok (.invokevirtual 383, 3) := by decide +kernel
theorem dX12_shared_48 : decode cX12_shared 48 = .ok (.iand, 1) := by decide +kernel
theorem dX12_shared_49 : decode cX12_shared 49 = .ok (.invokestatic 330, 3) := by decide +kernel
theorem dX12_shared_52 : decode cX12_shared 52 = .ok (.istore 5, 2) := by decide +kernel
theorem dX12_shared_54 : decode cX12_shared 54 = .ok (.iload 5, 2) := by decide +kernel
theorem dX12_shared_56 : decode cX12_shared 56 = .ok (.iload_n 3, 1) := by decide +kernel
theorem dX12_shared_57 : decode cX12_shared 57 = .ok (.if_icmp .le 6, 3) := by decide +kernel
theorem dX12_shared_60 : decode cX12_shared 60 = .ok (.iload 5, 2) := by decide +kernel
theorem dX12_shared_62 : decode cX12_shared 62 = .ok (.istore_n 3, 1) := by decide +kernel
theorem dX12_shared_63 : decode cX12_shared 63 = .ok (.iinc 4 1, 3) := by decide +kernel
theorem dX12_shared_66 : decode cX12_shared 66 = .ok (.goto (-43), 3) := by decide +kernel
theorem dX12_shared_69 : decode cX12_shared 69 = .ok (.iload_n 3, 1) := by decide +kernel
theorem dX12_shared_70 : decode cX12_shared 70 = .ok (.ireturn, 1) := by decide +kernel
theorem dX12_shownBehind_0 : decode cX12_shownBehind 0 = .ok (.iconst 0, 1) := by decide +kernel
theorem dX12_shownBehind_1 : decode cX12_shownBehind 1 = .ok (.istore_n 3, 1) := by decide +kernel
theorem dX12_shownBehind_2 : decode cX12_shownBehind 2 = .ok (.iconst 0, 1) := by decide +kernel
theorem dX12_shownBehind_3 : decode cX12_shownBehind 3 = .ok (.istore 4, 2) := by decide +kernel
theorem dX12_shownBehind_5 : decode cX12_shownBehind 5 = .ok (.iload 4, 2) := by decide +kernel
theorem dX12_shownBehind_7 : decode cX12_shownBehind 7 = .ok (.bipush 12, 2) := by decide +kernel
theorem dX12_shownBehind_9 : decode cX12_shownBehind 9 = .ok (.if_icmp .ge 87, 3) := by decide +kernel
theorem dX12_shownBehind_12 : decode cX12_shownBehind 12 = .ok (.aload_n 0, 1) := by decide +kernel
theorem dX12_shownBehind_13 : decode cX12_shownBehind 13 = .ok (.getfield 88, 3) := by decide +kernel
theorem dX12_shownBehind_16 : decode cX12_shownBehind 16 = .ok (.iconst 0, 1) := by decide +kernel
theorem dX12_shownBehind_17 : decode cX12_shownBehind 17 = .ok (.iload_n 1, 1) := by decide +kernel
theorem dX12_shownBehind_18 : decode cX12_shownBehind 18 = .ok (.iadd, 1) := by decide +kernel
theorem dX12_shownBehind_19 : decode cX12_shownBehind 19 = .ok (.iaload, 1) := by decide +kernel
theorem dX12_shownBehind_20 : decode cX12_shownBehind 20 = .ok (.iload 4, 2) := by decide +kernel
theorem dX12_shownBehind_22 : decode cX12_shownBehind 22 = .ok (.invokestatic 256, 3) := by decide +kernel
theorem dX12_shownBehind_25 : decode cX12_shownBehind 25 = .ok (.ifCond .ne 6, 3) := by decide +kernel
theorem dX12_shownBehind_28 : decode cX12_shownBehind 28 = .ok (.goto 62, 3) := by decide +kernel
theorem dX12_shownBehind_31 : decode cX12_shownBehind 31 = .ok (.aload_n 0, 1) := by decide +kernel
theorem dX12_shownBehind_32 : decode cX12_shownBehind 32 = .ok (.getfield 88, 3) := by decide +kernel
theorem dX12_shownBehind_35 : decode cX12_shownBehind 35 = .ok (.aload_n 0, 1) := by decide +kernel
theorem dX12_shownBehind_36 : decode cX12_shownBehind 36 = .ok (.iload_n 1, 1) := by decide +kernel
theorem dX12_shownBehind_37 : decode cX12_shownBehind 37 = .ok (.iload 4, 2) := by decide +kernel
theorem dX12_shownBehind_39 : decode cX12_shownBehind 39 = .ok (.invokevirtual 386, 3) := by decide +kernel
theorem dX12_shownBehind_42 : decode cX12_shownBehind 42 = .ok (.iaload, 1) := by decide +kernel
theorem dX12_shownBehind_43 : decode cX12_shownBehind 43 = .ok (.iload_n 2, 1) := by decide +kernel
theorem dX12_shownBehind_44 : decode cX12_shownBehind 44 = .ok (.iadd, 1) := by decide +kernel
theorem dX12_shownBehind_45 : decode cX12_shownBehind 45 = .ok (.istore 5, 2) := by decide +kernel
theorem dX12_shownBehind_47 : decode cX12_shownBehind 47 = .ok (.iload_n 3, 1) := by decide +kernel
theorem dX12_shownBehind_48 : decode cX12_shownBehind 48 = .ok (.aload_n 0, 1) := by decide +kernel
theorem dX12_shownBehind_49 : decode cX12_shownBehind 49 = .ok (.iload_n 1, 1) := by decide +kernel
theorem dX12_shownBehind_50 : decode cX12_shownBehind 50 = .ok (.iload 4, 2) := by decide +kernel
theorem dX12_shownBehind_52 : decode cX12_shownBehind 52 = .ok (.iload 5, 2) := by decide +kernel
theorem dX12_shownBehind_54 : decode cX12_shownBehind 54 = .ok (.sipush 999, 3) := by decide +kernel
theorem dX12_shownBehind_57 : decode cX12_shownBehind 57 = .ok (.if_icmp .ge 8, 3) := by decide +kernel
theorem dX12_shownBehind_60 : decode cX12_shownBehind 60 = .ok (.iload 5, 2) := by decide +kernel
theorem dX12_shownBehind_62 : decode cX12_shownBehind 62 = .ok (.goto 6, 3) := by decide +kernel
theorem dX12_shownBehind_65 : decode cX12_shownBehind 65 = .ok (.sipush 999, 3) := by decide +kernel
theorem dX12_shownBehind_68 : decode cX12_shownBehind 68 = .ok (.aload_n 0, 1) := by decide +kernel
theorem dX12_shownBehind_69 : decode cX12_shownBehind 69 = .ok (.getfield 88, 3) := by decide +kernel
theorem dX12_shownBehind_72 : decode cX12_shownBehind 72 = .ok (.bipush 112, 2) := by decide +kernel
theorem dX12_shownBehind_74 : decode cX12_shownBehind 74 = .ok (.iaload, 1) := by decide +kernel
theorem dX12_shownBehind_75 : decode cX12_shownBehind 75 = .ok (.iload_n 2, 1) := by decide +kernel
theorem dX12_shownBehind_76 : decode cX12_shownBehind 76 = .ok (.iadd, 1) := by decide +kernel
theorem dX12_shownBehind_77 : decode cX12_shownBehind 77 = .ok (.invokevirtual 410, 3) := by decide +kernel
theorem dX12_shownBehind_80 : decode cX12_shownBehind 80 = .ok (.ifCond .eq 7, 3) := by decide +kernel
theorem dX12_shownBehind_83 : decode cX12_shownBehind 83 = .ok (.iconst 1, 1) := by decide +kernel
theorem dX12_shownBehind_84 : decode cX12_shownBehind 84 = .ok (.goto 4, 3) := by decide +kernel
theorem dX12_shownBehind_87 : decode cX12_shownBehind 87 = .ok (.iconst 0, 1) := by decide +kernel
theorem dX12_shownBehind_88 : decode cX12_shownBehind 88 = .ok (.iadd, 1) := by decide +kernel
theorem dX12_shownBehind_89 : decode cX12_shownBehind 89 = .ok (.istore_n 3, 1) := by decide +kernel
theorem dX12_shownBehind_90 : decode cX12_shownBehind 90 = .ok (.iinc 4 1, 3) := by decide +kernel
theorem dX12_shownBehind_93 : decode cX12_shownBehind 93 = .ok (.goto (-88), 3) := by decide +kernel
theorem dX12_shownBehind_96 : decode cX12_shownBehind 96 = .ok (.iload_n 3, 1) := by decide +kernel
theorem dX12_shownBehind_97 : decode cX12_shownBehind 97 = .ok (.ireturn, 1) := by decide +kernel
theorem dX12_fades_0 : decode cX12_fades 0 = .ok (.iconst 0, 1) := by decide +kernel
theorem dX12_fades_1 : decode cX12_fades 1 = .ok (.istore_n 2, 1) := by decide +kernel
theorem dX12_fades_2 : decode cX12_fades 2 = .ok (.iload_n 2, 1) := by decide +kernel
theorem dX12_fades_3 : decode cX12_fades 3 = .ok (.bipush 60, 2) := by decide +kernel
theorem dX12_fades_5 : decode cX12_fades 5 = .ok (.if_icmp .gt 28, 3) := by decide +kernel
theorem dX12_fades_8 : decode cX12_fades 8 = .ok (.aload_n 0, 1) := by decide +kernel
theorem dX12_fades_9 : decode cX12_fades 9 = .ok (.iload_n 1, 1) := by decide +kernel
theorem dX12_fades_10 : decode cX12_fades 10 = .ok (.invokevirtual 420, 3) := by decide +kernel
theorem dX12_fades_13 : decode cX12_fades 13 = .ok (.ifCond .eq 20, 3) := by decide +kernel
theorem dX12_fades_16 : decode cX12_fades 16 = .ok (.aload_n 0, 1) := by decide +kernel
theorem dX12_fades_17 : decode cX12_fades 17 = .ok (.iload_n 1, 1) := by decide +kernel
theorem dX12_fades_18 : decode cX12_fades 18 = .ok (.iload_n 2, 1) := by decide +kernel
theorem dX12_fades_19 : decode cX12_fades 19 = .ok (.invokevirtual 460, 3) := by decide +kernel
theorem dX12_fades_22 : decode cX12_fades 22 = .ok (.ifCond .ne 5, 3) := by decide +kernel
theorem dX12_fades_25 : decode cX12_fades 25 = .ok (.iload_n 2, 1) := by decide +kernel
theorem dX12_fades_26 : decode cX12_fades 26 = .ok (.ireturn, 1) := by decide +kernel
theorem dX12_fades_27 : decode cX12_fades 27 = .ok (.iinc 2 1, 3) := by decide +kernel
theorem dX12_fades_30 : decode cX12_fades 30 = .ok (.goto (-28), 3) := by decide +kernel
theorem dX12_fades_33 : decode cX12_fades 33 = .ok (.iconst (-1), 1) := by decide +kernel
theorem dX12_fades_34 : decode cX12_fades 34 = .ok (.ireturn, 1) := by decide +kernel
theorem dX12_isFresh_0 : decode cX12_isFresh 0 = .ok (.iconst 0, 1) := by decide +kernel
theorem dX12_isFresh_1 : decode cX12_isFresh 1 = .ok (.istore_n 2, 1) := by decide +kernel
theorem dX12_isFresh_2 : decode cX12_isFresh 2 = .ok (.iload_n 2, 1) := by decide +kernel
theorem dX12_isFresh_3 : decode cX12_isFresh 3 = .ok (.aload_n 0, 1) := by decide +kernel
theorem dX12_isFresh_4 : decode cX12_isFresh 4 = .ok (.invokevirtual 367, 3) := by decide +kernel
theorem dX12_isFresh_7 : decode cX12_isFresh 7 = .ok (.if_icmp .ge 37, 3) := by decide +kernel
theorem dX12_isFresh_10 : decode cX12_isFresh 10 = .ok (.aload_n 0, 1) := by decide +kernel
theorem dX12_isFresh_11 : decode cX12_isFresh 11 = .ok (.iload_n 1, 1) := by decide +kernel
theorem dX12_isFresh_12 : decode cX12_isFresh 12 = .ok (.aload_n 0, 1) := by decide +kernel
theorem dX12_isFresh_13 : decode cX12_isFresh 13 = .ok (.iload_n 2, 1) := by decide +kernel
theorem dX12_isFresh_14 : decode cX12_isFresh 14 = .ok (.invokevirtual 383, 3) := by decide +kernel
theorem dX12_isFresh_17 : decode cX12_isFresh 17 = .ok (.invokevirtual 429, 3) := by decide +kernel
theorem dX12_isFresh_20 : decode cX12_isFresh 20 = .ok (.ifCond .ne 16, 3) := by decide +kernel
theorem dX12_isFresh_23 : decode cX12_isFresh 23 = .ok (.aload_n 0, 1) := by decide +kernel
theorem dX12_isFresh_24 : decode cX12_isFresh 24 = .ok (.aload_n 0, 1) := by decide +kernel
theorem dX12_isFresh_25 : decode cX12_isFresh 25 = .ok (.iload_n 2, 1) := by decide +kernel
theorem dX12_isFresh_26 : decode cX12_isFresh 26 = .ok (.invokevirtual 383, 3) := by decide +kernel
theorem dX12_isFresh_29 : decode cX12_isFresh 29 = .ok (.iload_n 1, 1) := by decide +kernel
theorem dX12_isFresh_30 : decode cX12_isFresh 30 = .ok (.invokevirtual 429, 3) := by decide +kernel
theorem dX12_isFresh_33 : decode cX12_isFresh 33 = .ok (.ifCond .eq 5, 3) := by decide +kernel
theorem dX12_isFresh_36 : decode cX12_isFresh 36 = .ok (.iconst 0, 1) := by decide +kernel
theorem dX12_isFresh_37 : decode cX12_isFresh 37 = .ok (.ireturn, 1) := by decide +kernel
theorem dX12_isFresh_38 : decode cX12_isFresh 38 = .ok (.iinc 2 1, 3) := by decide +kernel
theorem dX12_isFresh_41 : decode cX12_isFresh 41 = .ok (.goto (-39), 3) := by decide +kernel
theorem dX12_isFresh_44 : decode cX12_isFresh 44 = .ok (.iconst 1, 1) := by decide +kernel
theorem dX12_isFresh_45 : decode cX12_isFresh 45 = .ok (.ireturn, 1) := by decide +kernel
theorem dX12_fresh_0 : decode cX12_fresh 0 = .ok (.iconst (-1), 1) := by decide +kernel
theorem dX12_fresh_1 : decode cX12_fresh 1 = .ok (.istore_n 1, 1) := by decide +kernel
theorem dX12_fresh_2 : decode cX12_fresh 2 = .ok (.iconst 1, 1) := by decide +kernel
theorem dX12_fresh_3 : decode cX12_fresh 3 = .ok (.istore_n 2, 1) := by decide +kernel
theorem dX12_fresh_4 : decode cX12_fresh 4 = .ok (.iload_n 2, 1) := by decide +kernel
theorem dX12_fresh_5 : decode cX12_fresh 5 = .ok (.sipush 4096, 3) := by decide +kernel
theorem dX12_fresh_8 : decode cX12_fresh 8 = .ok (.if_icmp .ge 34, 3) := by decide +kernel
theorem dX12_fresh_11 : decode cX12_fresh 11 = .ok (.iload_n 1, 1) := by decide +kernel
theorem dX12_fresh_12 : decode cX12_fresh 12 = .ok (.ifCond .lt 14, 3) := by decide +kernel
theorem dX12_fresh_15 : decode cX12_fresh 15 = .ok (.iload_n 2, 1) := by decide +kernel
theorem dX12_fresh_16 : decode cX12_fresh 16 = .ok (.invokestatic 330, 3) := by decide +kernel
theorem dX12_fresh_19 : decode cX12_fresh 19 = .ok (.iload_n 1, 1) := by decide +kernel
theorem dX12_fresh_20 : decode cX12_fresh 20 = .ok (.invokestatic 330, 3) := by decide +kernel
theorem dX12_fresh_23 : decode cX12_fresh 23 = .ok (.if_icmp .ge 13, 3) := by decide +kernel
theorem dX12_fresh_26 : decode cX12_fresh 26 = .ok (.aload_n 0, 1) := by decide +kernel
theorem dX12_fresh_27 : decode cX12_fresh 27 = .ok (.iload_n 2, 1) := by decide +kernel
theorem dX12_fresh_28 : decode cX12_fresh 28 = .ok (.invokevirtual 463, 3) := by decide +kernel
theorem dX12_fresh_31 : decode cX12_fresh 31 = .ok (.ifCond .eq 5, 3) := by decide +kernel
theorem dX12_fresh_34 : decode cX12_fresh 34 = .ok (.iload_n 2, 1) := by decide +kernel
theorem dX12_fresh_35 : decode cX12_fresh 35 = .ok (.istore_n 1, 1) := by decide +kernel
theorem dX12_fresh_36 : decode cX12_fresh 36 = .ok (.iinc 2 1, 3) := by decide +kernel
theorem dX12_fresh_39 : decode cX12_fresh 39 = .ok (.goto (-35), 3) := by decide +kernel
theorem dX12_fresh_42 : decode cX12_fresh 42 = .ok (.iload_n 1, 1) := by decide +kernel
theorem dX12_fresh_43 : decode cX12_fresh 43 = .ok (.ireturn, 1) := by decide +kernel
theorem dX12_read_0 : decode cX12_read 0 = .ok (.aload_n 0, 1) := by decide +kernel
theorem dX12_read_1 : decode cX12_read 1 = .ok (.iload_n 1, 1) := by decide +kernel
theorem dX12_read_2 : decode cX12_read 2 = .ok (.invokevirtual 420, 3) := by decide +kernel
theorem dX12_read_5 : decode cX12_read 5 = .ok (.ifCond .ne 5, 3) := by decide +kernel
theorem dX12_read_8 : decode cX12_read 8 = .ok (.iconst (-1), 1) := by decide +kernel
theorem dX12_read_9 : decode cX12_read 9 = .ok (.ireturn, 1) := by decide +kernel
theorem dX12_read_10 : decode cX12_read 10 = .ok (.iconst 0, 1) := by decide +kernel
theorem dX12_read_11 : decode cX12_read 11 = .ok (.istore_n 2, 1) := by decide +kernel
theorem dX12_read_12 : decode cX12_read 12 = .ok (.iconst 0, 1) := by decide +kernel
theorem dX12_read_13 : decode cX12_read 13 = .ok (.istore_n 3, 1) := by decide +kernel
theorem dX12_read_14 : decode cX12_read 14 = .ok (.iload_n 3, 1) := by decide +kernel
theorem dX12_read_15 : decode cX12_read 15 = .ok (.aload_n 0, 1) := by decide +kernel
theorem dX12_read_16 : decode cX12_read 16 = .ok (.invokevirtual 367, 3) := by decide +kernel
theorem dX12_read_19 : decode cX12_read 19 = .ok (.if_icmp .ge 32, 3) := by decide +kernel
theorem dX12_read_22 : decode cX12_read 22 = .ok (.aload_n 0, 1) := by decide +kernel
theorem dX12_read_23 : decode cX12_read 23 = .ok (.aload_n 0, 1) := by decide +kernel
theorem dX12_read_24 : decode cX12_read 24 = .ok (.iload_n 1, 1) := by decide +kernel
theorem dX12_read_25 : decode cX12_read 25 = .ok (.invokevirtual 423, 3) := by decide +kernel
theorem dX12_read_28 : decode cX12_read 28 = .ok (.aload_n 0, 1) := by decide +kernel
theorem dX12_read_29 : decode cX12_read 29 = .ok (.iload_n 3, 1) := by decide +kernel
theorem dX12_read_30 : decode cX12_read 30 = .ok (.invokevirtual 383, 3) := by decide +kernel
theorem dX12_read_33 : decode cX12_read 33 = .ok (.invokevirtual 432, 3) := by decide +kernel
theorem dX12_read_36 : decode cX12_read 36 = .ok (.ifCond .eq 9, 3) := by decide +kernel
theorem dX12_read_39 : decode cX12_read 39 = .ok (.iload_n 2, 1) := by decide +kernel
theorem dX12_read_40 : decode cX12_read 40 = .ok (.iconst 1, 1) := by decide +kernel
theorem dX12_read_41 : decode cX12_read 41 = .ok (.iload_n 3, 1) := by decide +kernel
theorem dX12_read_42 : decode cX12_read 42 = .ok (.ishl, 1) := by decide +kernel
theorem dX12_read_43 : decode cX12_read 43 = .ok (.ior, 1) := by decide +kernel
theorem dX12_read_44 : decode cX12_read 44 = .ok (.istore_n 2, 1) := by decide +kernel
theorem dX12_read_45 : decode cX12_read 45 = .ok (.iinc 3 1, 3) := by decide +kernel
theorem dX12_read_48 : decode cX12_read 48 = .ok (.goto (-34), 3) := by decide +kernel
theorem dX12_read_51 : decode cX12_read 51 = .ok (.iload_n 2, 1) := by decide +kernel
theorem dX12_read_52 : decode cX12_read 52 = .ok (.ireturn, 1) := by decide +kernel
theorem dX12_layBrings_0 : decode cX12_layBrings 0 = .ok (.aload_n 0, 1) := by decide +kernel
theorem dX12_layBrings_1 : decode cX12_layBrings 1 = .ok (.aload_n 0, 1) := by decide +kernel
theorem dX12_layBrings_2 : decode cX12_layBrings 2 = .ok (.iload_n 2, 1) := by decide +kernel
theorem dX12_layBrings_3 : decode cX12_layBrings 3 = .ok (.invokevirtual 383, 3) := by decide +kernel
theorem dX12_layBrings_6 : decode cX12_layBrings 6 = .ok (.invokevirtual 447, 3) := by decide +kernel
theorem dX12_layBrings_9 : decode cX12_layBrings 9 = .ok (.iconst 0, 1) := by decide +kernel
theorem dX12_layBrings_10 : decode cX12_layBrings 10 = .ok (.istore_n 3, 1) := by decide +kernel
theorem dX12_layBrings_11 : decode cX12_layBrings 11 = .ok (.iload_n 3, 1) := by decide +kernel
theorem dX12_layBrings_12 : decode cX12_layBrings 12 = .ok (.aload_n 0, 1) := by decide +kernel
theorem dX12_layBrings_13 : decode cX12_layBrings 13 = .ok (.invokevirtual 377, 3) := by decide +kernel
theorem dX12_layBrings_16 : decode cX12_layBrings 16 = .ok (.if_icmp .ge 55, 3) := by decide +kernel
theorem dX12_layBrings_19 : decode cX12_layBrings 19 = .ok (.aload_n 0, 1) := by decide +kernel
theorem dX12_layBrings_20 : decode cX12_layBrings 20 = .ok (.getfield 106, 3) := by decide +kernel
theorem dX12_layBrings_23 : decode cX12_layBrings 23 = .ok (.bipush 8, 2) := by decide +kernel
theorem dX12_layBrings_25 : decode cX12_layBrings 25 = .ok (.iload_n 1, 1) := by decide +kernel
theorem dX12_layBrings_26 : decode cX12_layBrings 26 = .ok (.imul, 1) := by decide +kernel
theorem dX12_layBrings_27 : decode cX12_layBrings 27 = .ok (.iload_n 3, 1) := by decide +kernel
theorem dX12_layBrings_28 : decode cX12_layBrings 28 = .ok (.iadd, 1) := by decide +kernel
theorem dX12_layBrings_29 : decode cX12_layBrings 29 = .ok (.aload_n 0, 1) := by decide +kernel
theorem dX12_layBrings_30 : decode cX12_layBrings 30 = .ok (.aload_n 0, 1) := by decide +kernel
theorem dX12_layBrings_31 : decode cX12_layBrings 31 = .ok (.getfield 88, 3) := by decide +kernel
theorem dX12_layBrings_34 : decode cX12_layBrings 34 = .ok (.iconst 0, 1) := by decide +kernel
theorem dX12_layBrings_35 : decode cX12_layBrings 35 = .ok (.iload_n 3, 1) := by decide +kernel
theorem dX12_layBrings_36 : decode cX12_layBrings 36 = .ok (.iadd, 1) := by decide +kernel
theorem dX12_layBrings_37 : decode cX12_layBrings 37 = .ok (.iaload, 1) := by decide +kernel
theorem dX12_layBrings_38 : decode cX12_layBrings 38 = .ok (.invokevirtual 451, 3) := by decide +kernel
theorem dX12_layBrings_41 : decode cX12_layBrings 41 = .ok (.ifCond .eq 22, 3) := by decide +kernel
theorem dX12_layBrings_44 : decode cX12_layBrings 44 = .ok (.bipush 10, 2) := by decide +kernel
theorem dX12_layBrings_46 : decode cX12_layBrings 46 = .ok (.aload_n 0, 1) := by decide +kernel
theorem dX12_layBrings_47 : decode cX12_layBrings 47 = .ok (.getfield 97, 3) := by decide +kernel
theorem dX12_layBrings_50 : decode cX12_layBrings 50 = .ok (.aload_n 0, 1) := by decide +kernel
theorem dX12_layBrings_51 : decode cX12_layBrings 51 = .ok (.getfield 88, 3) := by decide +kernel
theorem dX12_layBrings_54 : decode cX12_layBrings 54 = .ok (.iconst 0, 1) := by decide +kernel
theorem dX12_layBrings_55 : decode cX12_layBrings 55 = .ok (.iload_n 3, 1) := by decide +kernel
theorem dX12_layBrings_56 : decode cX12_layBrings 56 = .ok (.iadd, 1) := by decide +kernel
theorem dX12_layBrings_57 : decode cX12_layBrings 57 = .ok (.iaload, 1) := by decide +kernel
theorem dX12_layBrings_58 : decode cX12_layBrings 58 = .ok (.iaload, 1) := by decide +kernel
theorem dX12_layBrings_59 : decode cX12_layBrings 59 = .ok (.isub, 1) := by decide +kernel
theorem dX12_layBrings_60 : decode cX12_layBrings 60 = .ok (.goto 4, 3) := by decide +kernel
theorem dX12_layBrings_63 : decode cX12_layBrings 63 = .ok (.iconst 0, 1) := by decide +kernel
theorem dX12_layBrings_64 : decode cX12_layBrings 64 = .ok (.iastore, 1) := by decide +kernel
theorem dX12_layBrings_65 : decode cX12_layBrings 65 = .ok (.iinc 3 1, 3) := by decide +kernel
theorem dX12_layBrings_68 : decode cX12_layBrings 68 = .ok (.goto (-57), 3) := by decide +kernel
theorem dX12_layBrings_71 : decode cX12_layBrings 71 = .ok (.return_, 1) := by decide +kernel
theorem dX12_isRest_0 : decode cX12_isRest 0 = .ok (.iload_n 1, 1) := by decide +kernel
theorem dX12_isRest_1 : decode cX12_isRest 1 = .ok (.iload_n 2, 1) := by decide +kernel
theorem dX12_isRest_2 : decode cX12_isRest 2 = .ok (.if_icmp .ne 7, 3) := by decide +kernel
theorem dX12_isRest_5 : decode cX12_isRest 5 = .ok (.iconst 0, 1) := by decide +kernel
theorem dX12_isRest_6 : decode cX12_isRest 6 = .ok (.goto 9, 3) := by decide +kernel
theorem dX12_isRest_9 : decode cX12_isRest 9 = .ok (.aload_n 0, 1) := by decide +kernel
theorem dX12_isRest_10 : decode cX12_isRest 10 = .ok (.getfield 106, 3) := by decide +kernel
theorem dX12_isRest_13 : decode cX12_isRest 13 = .ok (.iload_n 1, 1) := by decide +kernel
theorem dX12_isRest_14 : decode cX12_isRest 14 = .ok (.iaload, 1) := by decide +kernel
theorem dX12_isRest_15 : decode cX12_isRest 15 = .ok (.istore_n 3, 1) := by decide +kernel
theorem dX12_isRest_16 : decode cX12_isRest 16 = .ok (.iload_n 1, 1) := by decide +kernel
theorem dX12_isRest_17 : decode cX12_isRest 17 = .ok (.iload_n 2, 1) := by decide +kernel
theorem dX12_isRest_18 : decode cX12_isRest 18 = .ok (.if_icmp .ne 7, 3) := by decide +kernel
theorem dX12_isRest_21 : decode cX12_isRest 21 = .ok (.iconst 0, 1) := by decide +kernel
theorem dX12_isRest_22 : decode cX12_isRest 22 = .ok (.goto 12, 3) := by decide +kernel
theorem dX12_isRest_25 : decode cX12_isRest 25 = .ok (.aload_n 0, 1) := by decide +kernel
theorem dX12_isRest_26 : decode cX12_isRest 26 = .ok (.getfield 106, 3) := by decide +kernel
theorem dX12_isRest_29 : decode cX12_isRest 29 = .ok (.bipush 8, 2) := by decide +kernel
theorem dX12_isRest_31 : decode cX12_isRest 31 = .ok (.iload_n 2, 1) := by decide +kernel
theorem dX12_isRest_32 : decode cX12_isRest 32 = .ok (.iadd, 1) := by decide +kernel
theorem dX12_isRest_33 : decode cX12_isRest 33 = .ok (.iaload, 1) := by decide +kernel
theorem dX12_isRest_34 : decode cX12_isRest 34 = .ok (.istore 4, 2) := by decide +kernel
theorem dX12_isRest_36 : decode cX12_isRest 36 = .ok (.iconst 0, 1) := by decide +kernel
theorem dX12_isRest_37 : decode cX12_isRest 37 = .ok (.istore 5, 2) := by decide +kernel
theorem dX12_isRest_39 : decode cX12_isRest 39 = .ok (.iload 5, 2) := by decide +kernel
theorem dX12_isRest_41 : decode cX12_isRest 41 = .ok (.aload_n 0, 1) := by decide +kernel
theorem dX12_isRest_42 : decode cX12_isRest 42 = .ok (.invokevirtual 377, 3) := by decide +kernel
theorem dX12_isRest_45 : decode cX12_isRest 45 = .ok (.if_icmp .ge 49, 3) := by decide +kernel
theorem dX12_isRest_48 : decode cX12_isRest 48 = .ok (.iload 5, 2) := by decide +kernel
theorem dX12_isRest_50 : decode cX12_isRest 50 = .ok (.iload_n 2, 1) := by decide +kernel
theorem dX12_isRest_51 : decode cX12_isRest 51 = .ok (.if_icmp .eq 14, 3) := by decide +kernel
theorem dX12_isRest_54 : decode cX12_isRest 54 = .ok (.aload_n 0, 1) := by decide +kernel
theorem dX12_isRest_55 : decode cX12_isRest 55 = .ok (.getfield 106, 3) := by decide +kernel
theorem dX12_isRest_58 : decode cX12_isRest 58 = .ok (.iload 5, 2) := by decide +kernel
theorem dX12_isRest_60 : decode cX12_isRest 60 = .ok (.iaload, 1) := by decide +kernel
theorem dX12_isRest_61 : decode cX12_isRest 61 = .ok (.iload_n 3, 1) := by decide +kernel
theorem dX12_isRest_62 : decode cX12_isRest 62 = .ok (.if_icmp .gt 24, 3) := by decide +kernel
theorem dX12_isRest_65 : decode cX12_isRest 65 = .ok (.iload 5, 2) := by decide +kernel
theorem dX12_isRest_67 : decode cX12_isRest 67 = .ok (.iload_n 1, 1) := by decide +kernel
theorem dX12_isRest_68 : decode cX12_isRest 68 = .ok (.if_icmp .eq 20, 3) := by decide +kernel
theorem dX12_isRest_71 : decode cX12_isRest 71 = .ok (.aload_n 0, 1) := by decide +kernel
theorem dX12_isRest_72 : decode cX12_isRest 72 = .ok (.getfield 106, 3) := by decide +kernel
theorem dX12_isRest_75 : decode cX12_isRest 75 = .ok (.bipush 8, 2) := by decide +kernel
theorem dX12_isRest_77 : decode cX12_isRest 77 = .ok (.iload 5, 2) := by decide +kernel
theorem dX12_isRest_79 : decode cX12_isRest 79 = .ok (.iadd, 1) := by decide +kernel
theorem dX12_isRest_80 : decode cX12_isRest 80 = .ok (.iaload, 1) := by decide +kernel
theorem dX12_isRest_81 : decode cX12_isRest 81 = .ok (.iload 4, 2) := by decide +kernel
theorem dX12_isRest_83 : decode cX12_isRest 83 = .ok (.if_icmp .le 5, 3) := by decide +kernel
theorem dX12_isRest_86 : decode cX12_isRest 86 = .ok (.iconst 0, 1) := by decide +kernel
theorem dX12_isRest_87 : decode cX12_isRest 87 = .ok (.ireturn, 1) := by decide +kernel
theorem dX12_isRest_88 : decode cX12_isRest 88 = .ok (.iinc 5 1, 3) := by decide +kernel
theorem dX12_isRest_91 : decode cX12_isRest 91 = .ok (.goto (-52), 3) := by decide +kernel
theorem dX12_isRest_94 : decode cX12_isRest 94 = .ok (.iconst 1, 1) := by decide +kernel
theorem dX12_isRest_95 : decode cX12_isRest 95 = .ok (.ireturn, 1) := by decide +kernel
theorem dX12_raid_0 : decode cX12_raid 0 = .ok (.aload_n 0, 1) := by decide +kernel
theorem dX12_raid_1 : decode cX12_raid 1 = .ok (.iconst 0, 1) := by decide +kernel
theorem dX12_raid_2 : decode cX12_raid 2 = .ok (.putfield 401, 3) := by decide +kernel
theorem dX12_raid_5 : decode cX12_raid 5 = .ok (.aload_n 0, 1) := by decide +kernel
theorem dX12_raid_6 : decode cX12_raid 6 = .ok (.iload_n 1, 1) := by decide +kernel
theorem dX12_raid_7 : decode cX12_raid 7 = .ok (.invokevirtual 414, 3) := by decide +kernel
theorem dX12_raid_10 : decode cX12_raid 10 = .ok (.ifCond .eq 23, 3) := by decide +kernel
theorem dX12_raid_13 : decode cX12_raid 13 = .ok (.aload_n 0, 1) := by decide +kernel
theorem dX12_raid_14 : decode cX12_raid 14 = .ok (.iload_n 2, 1) := by decide +kernel
theorem dX12_raid_15 : decode cX12_raid 15 = .ok (.invokevirtual 414, 3) := by decide +kernel
theorem dX12_raid_18 : decode cX12_raid 18 = .ok (.ifCond .eq 15, 3) := by decide +kernel
theorem dX12_raid_21 : decode cX12_raid 21 = .ok (.iload_n 1, 1) := by decide +kernel
theorem dX12_raid_22 : decode cX12_raid 22 = .ok (.iload_n 2, 1) := by decide +kernel
theorem dX12_raid_23 : decode cX12_raid 23 = .ok (.if_icmp .eq 10, 3) := by decide +kernel
theorem dX12_raid_26 : decode cX12_raid 26 = .ok (.aload_n 0, 1) := by decide +kernel
theorem dX12_raid_27 : decode cX12_raid 27 = .ok (.invokevirtual 377, 3) := by decide +kernel
theorem dX12_raid_30 : decode cX12_raid 30 = .ok (.ifCond .ne 5, 3) := by decide +kernel
theorem dX12_raid_33 : decode cX12_raid 33 = .ok (.iconst (-1), 1) := by decide +kernel
theorem dX12_raid_34 : decode cX12_raid 34 = .ok (.ireturn, 1) := by decide +kernel
theorem dX12_raid_35 : decode cX12_raid 35 = .ok (.aload_n 0, 1) := by decide +kernel
theorem dX12_raid_36 : decode cX12_raid 36 = .ok (.iconst 0, 1) := by decide +kernel
theorem dX12_raid_37 : decode cX12_raid 37 = .ok (.iload_n 1, 1) := by decide +kernel
theorem dX12_raid_38 : decode cX12_raid 38 = .ok (.invokevirtual 466, 3) := by decide +kernel
theorem dX12_raid_41 : decode cX12_raid 41 = .ok (.aload_n 0, 1) := by decide +kernel
theorem dX12_raid_42 : decode cX12_raid 42 = .ok (.iconst 1, 1) := by decide +kernel
theorem dX12_raid_43 : decode cX12_raid 43 = .ok (.iload_n 2, 1) := by decide +kernel
theorem dX12_raid_44 : decode cX12_raid 44 = .ok (.invokevirtual 466, 3) := by decide +kernel
theorem dX12_raid_47 : decode cX12_raid 47 = .ok (.iconst 0, 1) := by decide +kernel
theorem dX12_raid_48 : decode cX12_raid 48 = .ok (.istore_n 3, 1) := by decide +kernel
theorem dX12_raid_49 : decode cX12_raid 49 = .ok (.iconst 0, 1) := by decide +kernel
theorem dX12_raid_50 : decode cX12_raid 50 = .ok (.istore 4, 2) := by decide +kernel
theorem dX12_raid_52 : decode cX12_raid 52 = .ok (.iload 4, 2) := by decide +kernel
theorem dX12_raid_54 : decode cX12_raid 54 = .ok (.aload_n 0, 1) := by decide +kernel
theorem dX12_raid_55 : decode cX12_raid 55 = .ok (.invokevirtual 377, 3) := by decide +kernel
theorem dX12_raid_58 : decode cX12_raid 58 = .ok (.aload_n 0, 1) := by decide +kernel
theorem dX12_raid_59 : decode cX12_raid 59 = .ok (.invokevirtual 377, 3) := by decide +kernel
theorem dX12_raid_62 : decode cX12_raid 62 = .ok (.imul, 1) := by decide +kernel
theorem dX12_raid_63 : decode cX12_raid 63 = .ok (.if_icmp .ge 71, 3) := by decide +kernel
theorem dX12_raid_66 : decode cX12_raid 66 = .ok (.aload_n 0, 1) := by decide +kernel
theorem dX12_raid_67 : decode cX12_raid 67 = .ok (.iload 4, 2) := by decide +kernel
theorem dX12_raid_69 : decode cX12_raid 69 = .ok (.aload_n 0, 1) := by decide +kernel
theorem dX12_raid_70 : decode cX12_raid 70 = .ok (.invokevirtual 377, 3) := by decide +kernel
theorem dX12_raid_73 : decode cX12_raid 73 = .ok (.idiv, 1) := by decide +kernel
theorem dX12_raid_74 : decode cX12_raid 74 = .ok (.iload 4, 2) := by decide +kernel
theorem dX12_raid_76 : decode cX12_raid 76 = .ok (.aload_n 0, 1) := by decide +kernel
theorem dX12_raid_77 : decode cX12_raid 77 = .ok (.invokevirtual 377, 3) := by decide +kernel
theorem dX12_raid_80 : decode cX12_raid 80 = .ok (.irem, 1) := by decide +kernel
theorem dX12_raid_81 : decode cX12_raid 81 = .ok (.invokevirtual 469, 3) := by decide +kernel
theorem dX12_raid_84 : decode cX12_raid 84 = .ok (.ifCond .ne 6, 3) := by decide +kernel
theorem dX12_raid_87 : decode cX12_raid 87 = .ok (.goto 41, 3) := by decide +kernel
theorem dX12_raid_90 : decode cX12_raid 90 = .ok (.iload_n 3, 1) := by decide +kernel
theorem dX12_raid_91 : decode cX12_raid 91 = .ok (.ifCond .ne 34, 3) := by decide +kernel
theorem dX12_raid_94 : decode cX12_raid 94 = .ok (.aload_n 0, 1) := by decide +kernel
theorem dX12_raid_95 : decode cX12_raid 95 = .ok (.getfield 100, 3) := by decide +kernel
theorem dX12_raid_98 : decode cX12_raid 98 = .ok (.iconst 0, 1) := by decide +kernel
theorem dX12_raid_99 : decode cX12_raid 99 = .ok (.iload 4, 2) := by decide +kernel
theorem dX12_raid_101 : decode cX12_raid 101 = .ok (.aload_n 0, 1) := by decide +kernel
theorem dX12_raid_102 : decode cX12_raid 102 = .ok (.invokevirtual 377, 3) := by decide +kernel
theorem dX12_raid_105 : decode cX12_raid 105 = .ok (.idiv, 1) := by decide +kernel
theorem dX12_raid_106 : decode cX12_raid 106 = .ok (.iastore, 1) := by decide +kernel
theorem dX12_raid_107 : decode cX12_raid 107 = .ok (.aload_n 0, 1) := by decide +kernel
theorem dX12_raid_108 : decode cX12_raid 108 = .ok (.getfield 100, 3) := by decide +kernel
theorem dX12_raid_111 : decode cX12_raid 111 = .ok (.iconst 1, 1) := by decide +kernel
theorem dX12_raid_112 : decode cX12_raid 112 = .ok (.iload 4, 2) := by decide +kernel
theorem dX12_raid_114 : decode cX12_raid 114 = .ok (.aload_n 0, 1) := by decide +kernel
theorem dX12_raid_115 : decode cX12_raid 115 = .ok (.invokevirtual 377, 3) := by decide +kernel
theorem dX12_raid_118 : decode cX12_raid 118 = .ok (.irem, 1) := by decide +kernel
theorem dX12_raid_119 : decode cX12_raid 119 = .ok (.iastore, 1) := by decide +kernel
theorem dX12_raid_120 : decode cX12_raid 120 = .ok (.aload_n 0, 1) := by decide +kernel
theorem dX12_raid_121 : decode cX12_raid 121 = .ok (.iconst 2, 1) := by decide +kernel
theorem dX12_raid_122 : decode cX12_raid 122 = .ok (.putfield 401, 3) := by decide +kernel
theorem dX12_raid_125 : decode cX12_raid 125 = .ok (.iinc 3 1, 3) := by decide +kernel
theorem dX12_raid_128 : decode cX12_raid 128 = .ok (.iinc 4 1, 3) := by decide +kernel
theorem dX12_raid_131 : decode cX12_raid 131 = .ok (.goto (-79), 3) := by decide +kernel
theorem dX12_raid_134 : decode cX12_raid 134 = .ok (.iload_n 3, 1) := by decide +kernel
theorem dX12_raid_135 : decode cX12_raid 135 = .ok (.ireturn, 1) := by decide +kernel
theorem dX12_odds_0 : decode cX12_odds 0 = .ok (.iload_n 1, 1) := by decide +kernel
theorem dX12_odds_1 : decode cX12_odds 1 = .ok (.iconst 0, 1) := by decide +kernel
theorem dX12_odds_2 : decode cX12_odds 2 = .ok (.iconst 4, 1) := by decide +kernel
theorem dX12_odds_3 : decode cX12_odds 3 = .ok (.invokestatic 370, 3) := by decide +kernel
theorem dX12_odds_6 : decode cX12_odds 6 = .ok (.ifCond .eq 12, 3) := by decide +kernel
theorem dX12_odds_9 : decode cX12_odds 9 = .ok (.iload_n 2, 1) := by decide +kernel
theorem dX12_odds_10 : decode cX12_odds 10 = .ok (.iconst 0, 1) := by decide +kernel
theorem dX12_odds_11 : decode cX12_odds 11 = .ok (.iconst 1, 1) := by decide +kernel
theorem dX12_odds_12 : decode cX12_odds 12 = .ok (.invokestatic 370, 3) := by decide +kernel
theorem dX12_odds_15 : decode cX12_odds 15 = .ok (.ifCond .ne 5, 3) := by decide +kernel
theorem dX12_odds_18 : decode cX12_odds 18 = .ok (.iconst (-1), 1) := by decide +kernel
theorem dX12_odds_19 : decode cX12_odds 19 = .ok (.ireturn, 1) := by decide +kernel
theorem dX12_odds_20 : decode cX12_odds 20 = .ok (.bipush 100, 2) := by decide +kernel
theorem dX12_odds_22 : decode cX12_odds 22 = .ok (.aload_n 0, 1) := by decide +kernel
theorem dX12_odds_23 : decode cX12_odds 23 = .ok (.getfield 36, 3) := by decide +kernel
theorem dX12_odds_26 : decode cX12_odds 26 = .ok (.aload_n 0, 1) := by decide +kernel
theorem dX12_odds_27 : decode cX12_odds 27 = .ok (.getfield 250, 3) := by decide +kernel
theorem dX12_odds_30 : decode cX12_odds 30 = .ok (.iaload, 1) := by decide +kernel
theorem dX12_odds_31 : decode cX12_odds 31 = .ok (.isub, 1) := by decide +kernel
theorem dX12_odds_32 : decode cX12_odds 32 = .ok (.iload_n 1, 1) := by decide +kernel
theorem dX12_odds_33 : decode cX12_odds 33 = .ok (.invokestatic 472, 3) := by decide +kernel
theorem dX12_odds_36 : decode cX12_odds 36 = .ok (.istore_n 3, 1) := by decide +kernel
theorem dX12_odds_37 : decode cX12_odds 37 = .ok (.bipush 100, 2) := by decide +kernel
theorem dX12_odds_39 : decode cX12_odds 39 = .ok (.iload_n 1, 1) := by decide +kernel
theorem dX12_odds_40 : decode cX12_odds 40 = .ok (.invokestatic 472, 3) := by decide +kernel
theorem dX12_odds_43 : decode cX12_odds 43 = .ok (.istore 4, 2) := by decide +kernel
theorem dX12_odds_45 : decode cX12_odds 45 = .ok (.iload_n 2, 1) := by decide +kernel
theorem dX12_odds_46 : decode cX12_odds 46 = .ok (.ifCond .ne 7, 3) := by decide +kernel
theorem dX12_odds_49 : decode cX12_odds 49 = .ok (.iload_n 3, 1) := by decide +kernel
theorem dX12_odds_50 : decode cX12_odds 50 = .ok (.goto 5, 3) := by decide +kernel
theorem dX12_odds_53 : decode cX12_odds 53 = .ok (.iload 4, 2) := by decide +kernel
theorem dX12_odds_55 : decode cX12_odds 55 = .ok (.iload 4, 2) := by decide +kernel
theorem dX12_odds_57 : decode cX12_odds 57 = .ok (.iload_n 3, 1) := by decide +kernel
theorem dX12_odds_58 : decode cX12_odds 58 = .ok (.invokestatic 475, 3) := by decide +kernel
theorem dX12_odds_61 : decode cX12_odds 61 = .ok (.idiv, 1) := by decide +kernel
theorem dX12_odds_62 : decode cX12_odds 62 = .ok (.ireturn, 1) := by decide +kernel
theorem dX12_seen_0 : decode cX12_seen 0 = .ok (.iload_n 1, 1) := by decide +kernel
theorem dX12_seen_1 : decode cX12_seen 1 = .ok (.iconst 1, 1) := by decide +kernel
theorem dX12_seen_2 : decode cX12_seen 2 = .ok (.iconst 2, 1) := by decide +kernel
theorem dX12_seen_3 : decode cX12_seen 3 = .ok (.invokestatic 370, 3) := by decide +kernel
theorem dX12_seen_6 : decode cX12_seen 6 = .ok (.ifCond .eq 29, 3) := by decide +kernel
theorem dX12_seen_9 : decode cX12_seen 9 = .ok (.iload_n 2, 1) := by decide +kernel
theorem dX12_seen_10 : decode cX12_seen 10 = .ok (.iconst 0, 1) := by decide +kernel
theorem dX12_seen_11 : decode cX12_seen 11 = .ok (.bipush 11, 2) := by decide +kernel
theorem dX12_seen_13 : decode cX12_seen 13 = .ok (.invokestatic 370, 3) := by decide +kernel
theorem dX12_seen_16 : decode cX12_seen 16 = .ok (.ifCond .eq 19, 3) := by decide +kernel
theorem dX12_seen_19 : decode cX12_seen 19 = .ok (.aload_n 0, 1) := by decide +kernel
theorem dX12_seen_20 : decode cX12_seen 20 = .ok (.getfield 398, 3) := by decide +kernel
theorem dX12_seen_23 : decode cX12_seen 23 = .ok (.bipush 30, 2) := by decide +kernel
theorem dX12_seen_25 : decode cX12_seen 25 = .ok (.if_icmp .eq 10, 3) := by decide +kernel
theorem dX12_seen_28 : decode cX12_seen 28 = .ok (.aload_n 0, 1) := by decide +kernel
theorem dX12_seen_29 : decode cX12_seen 29 = .ok (.invokevirtual 377, 3) := by decide +kernel
theorem dX12_seen_32 : decode cX12_seen 32 = .ok (.ifCond .ne 5, 3) := by decide +kernel
theorem dX12_seen_35 : decode cX12_seen 35 = .ok (.iconst (-1), 1) := by decide +kernel
theorem dX12_seen_36 : decode cX12_seen 36 = .ok (.ireturn, 1) := by decide +kernel
theorem dX12_seen_37 : decode cX12_seen 37 = .ok (.aload_n 0, 1) := by decide +kernel
theorem dX12_seen_38 : decode cX12_seen 38 = .ok (.getfield 109, 3) := by decide +kernel
theorem dX12_seen_41 : decode cX12_seen 41 = .ok (.aload_n 0, 1) := by decide +kernel
theorem dX12_seen_42 : decode cX12_seen 42 = .ok (.getfield 398, 3) := by decide +kernel
theorem dX12_seen_45 : decode cX12_seen 45 = .ok (.iload_n 1, 1) := by decide +kernel
theorem dX12_seen_46 : decode cX12_seen 46 = .ok (.iastore, 1) := by decide +kernel
theorem dX12_seen_47 : decode cX12_seen 47 = .ok (.aload_n 0, 1) := by decide +kernel
theorem dX12_seen_48 : decode cX12_seen 48 = .ok (.getfield 112, 3) := by decide +kernel
theorem dX12_seen_51 : decode cX12_seen 51 = .ok (.aload_n 0, 1) := by decide +kernel
theorem dX12_seen_52 : decode cX12_seen 52 = .ok (.getfield 398, 3) := by decide +kernel
theorem dX12_seen_55 : decode cX12_seen 55 = .ok (.iload_n 2, 1) := by decide +kernel
theorem dX12_seen_56 : decode cX12_seen 56 = .ok (.iastore, 1) := by decide +kernel
theorem dX12_seen_57 : decode cX12_seen 57 = .ok (.aload_n 0, 1) := by decide +kernel
theorem dX12_seen_58 : decode cX12_seen 58 = .ok (.getfield 115, 3) := by decide +kernel
theorem dX12_seen_61 : decode cX12_seen 61 = .ok (.aload_n 0, 1) := by decide +kernel
theorem dX12_seen_62 : decode cX12_seen 62 = .ok (.getfield 398, 3) := by decide +kernel
theorem dX12_seen_65 : decode cX12_seen 65 = .ok (.iload_n 3, 1) := by decide +kernel
theorem dX12_seen_66 : decode cX12_seen 66 = .ok (.ifCond .eq 7, 3) := by decide +kernel
theorem dX12_seen_69 : decode cX12_seen 69 = .ok (.iconst 1, 1) := by decide +kernel
theorem dX12_seen_70 : decode cX12_seen 70 = .ok (.goto 4, 3) := by decide +kernel
theorem dX12_seen_73 : decode cX12_seen 73 = .ok (.iconst 0, 1) := by decide +kernel
theorem dX12_seen_74 : decode cX12_seen 74 = .ok (.iastore, 1) := by decide +kernel
theorem dX12_seen_75 : decode cX12_seen 75 = .ok (.aload_n 0, 1) := by decide +kernel
theorem dX12_seen_76 : decode cX12_seen 76 = .ok (.getfield 118, 3) := by decide +kernel
theorem dX12_seen_79 : decode cX12_seen 79 = .ok (.aload_n 0, 1) := by decide +kernel
theorem dX12_seen_80 : decode cX12_seen 80 = .ok (.getfield 398, 3) := by decide +kernel
theorem dX12_seen_83 : decode cX12_seen 83 = .ok (.aload_n 0, 1) := by decide +kernel
theorem dX12_seen_84 : decode cX12_seen 84 = .ok (.getfield 478, 3) := by decide +kernel
theorem dX12_seen_87 : decode cX12_seen 87 = .ok (.iastore, 1) := by decide +kernel
theorem dX12_seen_88 : decode cX12_seen 88 = .ok (.aload_n 0, 1) := by decide +kernel
theorem dX12_seen_89 : decode cX12_seen 89 = .ok (.getfield 121, 3) := by decide +kernel
theorem dX12_seen_92 : decode cX12_seen 92 = .ok (.aload_n 0, 1) := by decide +kernel
theorem dX12_seen_93 : decode cX12_seen 93 = .ok (.getfield 398, 3) := by decide +kernel
theorem dX12_seen_96 : decode cX12_seen 96 = .ok (.iconst (-1), 1) := by decide +kernel
theorem dX12_seen_97 : decode cX12_seen 97 = .ok (.iastore, 1) := by decide +kernel
theorem dX12_seen_98 : decode cX12_seen 98 = .ok (.aload_n 0, 1) := by decide +kernel
theorem dX12_seen_99 : decode cX12_seen 99 = .ok (.dup, 1) := by decide +kernel
theorem dX12_seen_100 : decode cX12_seen 100 = .ok (.getfield 398, 3) := by decide +kernel
theorem dX12_seen_103 : decode cX12_seen 103 = .ok (.iconst 1, 1) := by decide +kernel
theorem dX12_seen_104 : decode cX12_seen 104 = .ok (.iadd, 1) := by decide +kernel
theorem dX12_seen_105 : decode cX12_seen 105 = .ok (.putfield 398, 3) := by decide +kernel
theorem dX12_seen_108 : decode cX12_seen 108 = .ok (.aload_n 0, 1) := by decide +kernel
theorem dX12_seen_109 : decode cX12_seen 109 = .ok (.getfield 398, 3) := by decide +kernel
theorem dX12_seen_112 : decode cX12_seen 112 = .ok (.iconst 1, 1) := by decide +kernel
theorem dX12_seen_113 : decode cX12_seen 113 = .ok (.isub, 1) := by decide +kernel
theorem dX12_seen_114 : decode cX12_seen 114 = .ok (.ireturn, 1) := by decide +kernel
theorem dX12_untell_0 : decode cX12_untell 0 = .ok (.iload_n 1, 1) := by decide +kernel
theorem dX12_untell_1 : decode cX12_untell 1 = .ok (.iconst 0, 1) := by decide +kernel
theorem dX12_untell_2 : decode cX12_untell 2 = .ok (.aload_n 0, 1) := by decide +kernel
theorem dX12_untell_3 : decode cX12_untell 3 = .ok (.getfield 398, 3) := by decide +kernel
theorem dX12_untell_6 : decode cX12_untell 6 = .ok (.iconst 1, 1) := by decide +kernel
theorem dX12_untell_7 : decode cX12_untell 7 = .ok (.isub, 1) := by decide +kernel
theorem dX12_untell_8 : decode cX12_untell 8 = .ok (.invokestatic 370, 3) := by decide +kernel
theorem dX12_untell_11 : decode cX12_untell 11 = .ok (.ifCond .eq 12, 3) := by decide +kernel
theorem dX12_untell_14 : decode cX12_untell 14 = .ok (.aload_n 0, 1) := by decide +kernel
theorem dX12_untell_15 : decode cX12_untell 15 = .ok (.getfield 121, 3) := by decide +kernel
theorem dX12_untell_18 : decode cX12_untell 18 = .ok (.iload_n 1, 1) := by decide +kernel
theorem dX12_untell_19 : decode cX12_untell 19 = .ok (.iaload, 1) := by decide +kernel
theorem dX12_untell_20 : decode cX12_untell 20 = .ok (.ifCond .lt 5, 3) := by decide +kernel
theorem dX12_untell_23 : decode cX12_untell 23 = .ok (.iconst 0, 1) := by decide +kernel
theorem dX12_untell_24 : decode cX12_untell 24 = .ok (.ireturn, 1) := by decide +kernel
theorem dX12_untell_25 : decode cX12_untell 25 = .ok (.aload_n 0, 1) := by decide +kernel
theorem dX12_untell_26 : decode cX12_untell 26 = .ok (.getfield 121, 3) := by decide +kernel
theorem dX12_untell_29 : decode cX12_untell 29 = .ok (.iload_n 1, 1) := by decide +kernel
theorem dX12_untell_30 : decode cX12_untell 30 = .ok (.aload_n 0, 1) := by decide +kernel
theorem dX12_untell_31 : decode cX12_untell 31 = .ok (.getfield 478, 3) := by decide +kernel
theorem dX12_untell_34 : decode cX12_untell 34 = .ok (.iastore, 1) := by decide +kernel
theorem dX12_untell_35 : decode cX12_untell 35 = .ok (.iconst 1, 1) := by decide +kernel
theorem dX12_untell_36 : decode cX12_untell 36 = .ok (.ireturn, 1) := by decide +kernel
theorem dX12_later_0 : decode cX12_later 0 = .ok (.iload_n 1, 1) := by decide +kernel
theorem dX12_later_1 : decode cX12_later 1 = .ok (.iconst 0, 1) := by decide +kernel
theorem dX12_later_2 : decode cX12_later 2 = .ok (.sipush 1000, 3) := by decide +kernel
