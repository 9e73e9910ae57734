theorem dX7_init_91 : decode cX7_init 91 = .ok (.idiv, 1) := by decide +kernel
theorem dX7_init_92 : decode cX7_init 92 = .ok (.istore_n 3, 1) := by decide +kernel
theorem dX7_init_93 : decode cX7_init 93 = .ok (.aload_n 0, 1) := by decide +kernel
theorem dX7_init_94 : decode cX7_init 94 = .ok (.getfield 15, 3) := by decide +kernel
theorem dX7_init_97 : decode cX7_init 97 = .ok (.iload_n 3, 1) := by decide +kernel
theorem dX7_init_98 : decode cX7_init 98 = .ok (.iload_n 2, 1) := by decide +kernel
theorem dX7_init_99 : decode cX7_init 99 = .ok (.bipush 32, 2) := by decide +kernel
theorem dX7_init_101 : decode cX7_init 101 = .ok (.if_icmp .ne 12, 3) := by decide +kernel
theorem dX7_init_104 : decode cX7_init 104 = .ok (.aload_n 0, 1) := by decide +kernel
theorem dX7_init_105 : decode cX7_init 105 = .ok (.getfield 15, 3) := by decide +kernel
theorem dX7_init_108 : decode cX7_init 108 = .ok (.iload_n 3, 1) := by decide +kernel
theorem dX7_init_109 : decode cX7_init 109 = .ok (.laload, 1) := by decide +kernel
theorem dX7_init_110 : decode cX7_init 110 = .ok (.goto 13, 3) := by decide +kernel
theorem dX7_init_113 : decode cX7_init 113 = .ok (.aload_n 0, 1) := by decide +kernel
theorem dX7_init_114 : decode cX7_init 114 = .ok (.getfield 15, 3) := by decide +kernel
theorem dX7_init_117 : decode cX7_init 117 = .ok (.iload_n 3, 1) := by decide +kernel
theorem dX7_init_118 : decode cX7_init 118 = .ok (.laload, 1) := by decide +kernel
theorem dX7_init_119 : decode cX7_init 119 = .ok (.iload_n 2, 1) := by decide +kernel
theorem dX7_init_120 : decode cX7_init 120 = .ok (.invokestatic 56, 3) := by decide +kernel
theorem dX7_init_123 : decode cX7_init 123 = .ok (.lastore, 1) := by decide +kernel
theorem dX7_init_124 : decode cX7_init 124 = .ok (.iinc 1 1, 3) := by decide +kernel
theorem dX7_init_127 : decode cX7_init 127 = .ok (.goto (-62), 3) := by decide +kernel
theorem dX7_init_130 : decode cX7_init 130 = .ok (.return_, 1) := by decide +kernel
theorem dX7_length_0 : decode cX7_length 0 = .ok (.aload_n 0, 1) := by decide +kernel
theorem dX7_length_1 : decode cX7_length 1 = .ok (.getfield 19, 3) := by decide +kernel
theorem dX7_length_4 : decode cX7_length 4 = .ok (.ireturn, 1) := by decide +kernel
theorem dX7_kind_0 : decode cX7_kind 0 = .ok (.aload_n 0, 1) := by decide +kernel
theorem dX7_kind_1 : decode cX7_kind 1 = .ok (.getfield 26, 3) := by decide +kernel
theorem dX7_kind_4 : decode cX7_kind 4 = .ok (.ireturn, 1) := by decide +kernel
theorem dX7_number_0 : decode cX7_number 0 = .ok (.aload_n 0, 1) := by decide +kernel
theorem dX7_number_1 : decode cX7_number 1 = .ok (.getfield 32, 3) := by decide +kernel
theorem dX7_number_4 : decode cX7_number 4 = .ok (.ireturn, 1) := by decide +kernel
theorem dX7_name_0 : decode cX7_name 0 = .ok (.aload_n 0, 1) := by decide +kernel
theorem dX7_name_1 : decode cX7_name 1 = .ok (.getfield 35, 3) := by decide +kernel
theorem dX7_name_4 : decode cX7_name 4 = .ok (.lreturn, 1) := by decide +kernel
theorem dX7_faultKind_0 : decode cX7_faultKind 0 = .ok (.aload_n 0, 1) := by decide +kernel
theorem dX7_faultKind_1 : decode cX7_faultKind 1 = .ok (.getfield 39, 3) := by decide +kernel
theorem dX7_faultKind_4 : decode cX7_faultKind 4 = .ok (.ireturn, 1) := by decide +kernel
theorem dX7_faultPlace_0 : decode cX7_faultPlace 0 = .ok (.aload_n 0, 1) := by decide +kernel
theorem dX7_faultPlace_1 : decode cX7_faultPlace 1 = .ok (.getfield 42, 3) := by decide +kernel
theorem dX7_faultPlace_4 : decode cX7_faultPlace 4 = .ok (.ireturn, 1) := by decide +kernel
theorem dX7_addNumber_0 : decode cX7_addNumber 0 = .ok (.bipush 24, 2) := by decide +kernel
theorem dX7_addNumber_2 : decode cX7_addNumber 2 = .ok (.istore_n 2, 1) := by decide +kernel
theorem dX7_addNumber_3 : decode cX7_addNumber 3 = .ok (.iload_n 2, 1) := by decide +kernel
theorem dX7_addNumber_4 : decode cX7_addNumber 4 = .ok (.ifCond .lt 42, 3) := by decide +kernel
theorem dX7_addNumber_7 : decode cX7_addNumber 7 = .ok (.aload_n 0, 1) := by decide +kernel
theorem dX7_addNumber_8 : decode cX7_addNumber 8 = .ok (.getfield 19, 3) := by decide +kernel
theorem dX7_addNumber_11 : decode cX7_addNumber 11 = .ok (.sipush 1600, 3) := by decide +kernel
theorem dX7_addNumber_14 : decode cX7_addNumber 14 = .ok (.if_icmp .ge 26, 3) := by decide +kernel
theorem dX7_addNumber_17 : decode cX7_addNumber 17 = .ok (.aload_n 0, 1) := by decide +kernel
theorem dX7_addNumber_18 : decode cX7_addNumber 18 = .ok (.getfield 11, 3) := by decide +kernel
theorem dX7_addNumber_21 : decode cX7_addNumber 21 = .ok (.aload_n 0, 1) := by decide +kernel
theorem dX7_addNumber_22 : decode cX7_addNumber 22 = .ok (.getfield 19, 3) := by decide +kernel
theorem dX7_addNumber_25 : decode cX7_addNumber 25 = .ok (.iload_n 1, 1) := by decide +kernel
theorem dX7_addNumber_26 : decode cX7_addNumber 26 = .ok (.iload_n 2, 1) := by decide +kernel
theorem dX7_addNumber_27 : decode cX7_addNumber 27 = .ok (.ishr, 1) := by decide +kernel
theorem dX7_addNumber_28 : decode cX7_addNumber 28 = .ok (.i2b, 1) := by decide +kernel
theorem dX7_addNumber_29 : decode cX7_addNumber 29 = .ok (.bastore, 1) := by decide +kernel
theorem dX7_addNumber_30 : decode cX7_addNumber 30 = .ok (.aload_n 0, 1) := by decide +kernel
theorem dX7_addNumber_31 : decode cX7_addNumber 31 = .ok (.dup, 1) := by decide +kernel
theorem dX7_addNumber_32 : decode cX7_addNumber 32 = .ok (.getfield 19, 3) := by decide +kernel
theorem dX7_addNumber_35 : decode cX7_addNumber 35 = .ok (.iconst 1, 1) := by decide +kernel
theorem dX7_addNumber_36 : decode cX7_addNumber 36 = .ok (.iadd, 1) := by decide +kernel
theorem dX7_addNumber_37 : decode cX7_addNumber 37 = .ok (.putfield 19, 3) := by decide +kernel
theorem dX7_addNumber_40 : decode cX7_addNumber 40 = .ok (.iinc 2 (-8), 3) := by decide +kernel
theorem dX7_addNumber_43 : decode cX7_addNumber 43 = .ok (.goto (-40), 3) := by decide +kernel
theorem dX7_addNumber_46 : decode cX7_addNumber 46 = .ok (.return_, 1) := by decide +kernel
theorem dX7_cutTo_0 : decode cX7_cutTo 0 = .ok (.iload_n 1, 1) := by decide +kernel
theorem dX7_cutTo_1 : decode cX7_cutTo 1 = .ok (.ifCond .lt 16, 3) := by decide +kernel
theorem dX7_cutTo_4 : decode cX7_cutTo 4 = .ok (.iload_n 1, 1) := by decide +kernel
theorem dX7_cutTo_5 : decode cX7_cutTo 5 = .ok (.aload_n 0, 1) := by decide +kernel
theorem dX7_cutTo_6 : decode cX7_cutTo 6 = .ok (.getfield 19, 3) := by decide +kernel
theorem dX7_cutTo_9 : decode cX7_cutTo 9 = .ok (.if_icmp .gt 8, 3) := by decide +kernel
theorem dX7_cutTo_12 : decode cX7_cutTo 12 = .ok (.aload_n 0, 1) := by decide +kernel
theorem dX7_cutTo_13 : decode cX7_cutTo 13 = .ok (.iload_n 1, 1) := by decide +kernel
theorem dX7_cutTo_14 : decode cX7_cutTo 14 = .ok (.putfield 19, 3) := by decide +kernel
theorem dX7_cutTo_17 : decode cX7_cutTo 17 = .ok (.return_, 1) := by decide +kernel
theorem dX7_rewind_0 : decode cX7_rewind 0 = .ok (.aload_n 0, 1) := by decide +kernel
theorem dX7_rewind_1 : decode cX7_rewind 1 = .ok (.iconst 0, 1) := by decide +kernel
theorem dX7_rewind_2 : decode cX7_rewind 2 = .ok (.putfield 39, 3) := by decide +kernel
theorem dX7_rewind_5 : decode cX7_rewind 5 = .ok (.aload_n 0, 1) := by decide +kernel
theorem dX7_rewind_6 : decode cX7_rewind 6 = .ok (.iconst (-1), 1) := by decide +kernel
theorem dX7_rewind_7 : decode cX7_rewind 7 = .ok (.putfield 42, 3) := by decide +kernel
theorem dX7_rewind_10 : decode cX7_rewind 10 = .ok (.aload_n 0, 1) := by decide +kernel
theorem dX7_rewind_11 : decode cX7_rewind 11 = .ok (.iconst 0, 1) := by decide +kernel
theorem dX7_rewind_12 : decode cX7_rewind 12 = .ok (.putfield 23, 3) := by decide +kernel
theorem dX7_rewind_15 : decode cX7_rewind 15 = .ok (.aload_n 0, 1) := by decide +kernel
theorem dX7_rewind_16 : decode cX7_rewind 16 = .ok (.invokevirtual 60, 3) := by decide +kernel
theorem dX7_rewind_19 : decode cX7_rewind 19 = .ok (.return_, 1) := by decide +kernel
theorem dX7_fail_0 : decode cX7_fail 0 = .ok (.aload_n 0, 1) := by decide +kernel
theorem dX7_fail_1 : decode cX7_fail 1 = .ok (.getfield 39, 3) := by decide +kernel
theorem dX7_fail_4 : decode cX7_fail 4 = .ok (.ifCond .ne 23, 3) := by decide +kernel
theorem dX7_fail_7 : decode cX7_fail 7 = .ok (.aload_n 0, 1) := by decide +kernel
theorem dX7_fail_8 : decode cX7_fail 8 = .ok (.iload_n 1, 1) := by decide +kernel
theorem dX7_fail_9 : decode cX7_fail 9 = .ok (.putfield 39, 3) := by decide +kernel
theorem dX7_fail_12 : decode cX7_fail 12 = .ok (.aload_n 0, 1) := by decide +kernel
theorem dX7_fail_13 : decode cX7_fail 13 = .ok (.aload_n 0, 1) := by decide +kernel
theorem dX7_fail_14 : decode cX7_fail 14 = .ok (.getfield 29, 3) := by decide +kernel
theorem dX7_fail_17 : decode cX7_fail 17 = .ok (.putfield 42, 3) := by decide +kernel
theorem dX7_fail_20 : decode cX7_fail 20 = .ok (.aload_n 0, 1) := by decide +kernel
theorem dX7_fail_21 : decode cX7_fail 21 = .ok (.sipush 203, 3) := by decide +kernel
theorem dX7_fail_24 : decode cX7_fail 24 = .ok (.putfield 26, 3) := by decide +kernel
theorem dX7_fail_27 : decode cX7_fail 27 = .ok (.return_, 1) := by decide +kernel
theorem dX7_advance_0 : decode cX7_advance 0 = .ok (.aload_n 0, 1) := by decide +kernel
theorem dX7_advance_1 : decode cX7_advance 1 = .ok (.getfield 39, 3) := by decide +kernel
theorem dX7_advance_4 : decode cX7_advance 4 = .ok (.ifCond .eq 4, 3) := by decide +kernel
theorem dX7_advance_7 : decode cX7_advance 7 = .ok (.return_, 1) := by decide +kernel
theorem dX7_advance_8 : decode cX7_advance 8 = .ok (.aload_n 0, 1) := by decide +kernel
theorem dX7_advance_9 : decode cX7_advance 9 = .ok (.getfield 23, 3) := by decide +kernel
theorem dX7_advance_12 : decode cX7_advance 12 = .ok (.istore_n 1, 1) := by decide +kernel
theorem dX7_advance_13 : decode cX7_advance 13 = .ok (.iload_n 1, 1) := by decide +kernel
theorem dX7_advance_14 : decode cX7_advance 14 = .ok (.aload_n 0, 1) := by decide +kernel
theorem dX7_advance_15 : decode cX7_advance 15 = .ok (.getfield 19, 3) := by decide +kernel
theorem dX7_advance_18 : decode cX7_advance 18 = .ok (.if_icmp .ge 21, 3) := by decide +kernel
theorem dX7_advance_21 : decode cX7_advance 21 = .ok (.aload_n 0, 1) := by decide +kernel
theorem dX7_advance_22 : decode cX7_advance 22 = .ok (.getfield 11, 3) := by decide +kernel
theorem dX7_advance_25 : decode cX7_advance 25 = .ok (.iload_n 1, 1) := by decide +kernel
theorem dX7_advance_26 : decode cX7_advance 26 = .ok (.baload, 1) := by decide +kernel
theorem dX7_advance_27 : decode cX7_advance 27 = .ok (.invokestatic 63, 3) := by decide +kernel
theorem dX7_advance_30 : decode cX7_advance 30 = .ok (.ifCond .eq 9, 3) := by decide +kernel
theorem dX7_advance_33 : decode cX7_advance 33 = .ok (.iinc 1 1, 3) := by decide +kernel
theorem dX7_advance_36 : decode cX7_advance 36 = .ok (.goto (-23), 3) := by decide +kernel
theorem dX7_advance_39 : decode cX7_advance 39 = .ok (.aload_n 0, 1) := by decide +kernel
theorem dX7_advance_40 : decode cX7_advance 40 = .ok (.iload_n 1, 1) := by decide +kernel
theorem dX7_advance_41 : decode cX7_advance 41 = .ok (.putfield 29, 3) := by decide +kernel
theorem dX7_advance_44 : decode cX7_advance 44 = .ok (.aload_n 0, 1) := by decide +kernel
theorem dX7_advance_45 : decode cX7_advance 45 = .ok (.iload_n 1, 1) := by decide +kernel
theorem dX7_advance_46 : decode cX7_advance 46 = .ok (.putfield 23, 3) := by decide +kernel
theorem dX7_advance_49 : decode cX7_advance 49 = .ok (.iload_n 1, 1) := by decide +kernel
theorem dX7_advance_50 : decode cX7_advance 50 = .ok (.aload_n 0, 1) := by decide +kernel
theorem dX7_advance_51 : decode cX7_advance 51 = .ok (.getfield 19, 3) := by decide +kernel
theorem dX7_advance_54 : decode cX7_advance 54 = .ok (.if_icmp .lt 13, 3) := by decide +kernel
theorem dX7_advance_57 : decode cX7_advance 57 = .ok (.aload_n 0, 1) := by decide +kernel
theorem dX7_advance_58 : decode cX7_advance 58 = .ok (.sipush 202, 3) := by decide +kernel
theorem dX7_advance_61 : decode cX7_advance 61 = .ok (.putfield 26, 3) := by decide +kernel
theorem dX7_advance_64 : decode cX7_advance 64 = .ok (.goto 57, 3) := by decide +kernel
theorem dX7_advance_67 : decode cX7_advance 67 = .ok (.aload_n 0, 1) := by decide +kernel
theorem dX7_advance_68 : decode cX7_advance 68 = .ok (.getfield 11, 3) := by decide +kernel
theorem dX7_advance_71 : decode cX7_advance 71 = .ok (.iload_n 1, 1) := by decide +kernel
theorem dX7_advance_72 : decode cX7_advance 72 = .ok (.baload, 1) := by decide +kernel
theorem dX7_advance_73 : decode cX7_advance 73 = .ok (.invokestatic 67, 3) := by decide +kernel
theorem dX7_advance_76 : decode cX7_advance 76 = .ok (.ifCond .eq 11, 3) := by decide +kernel
theorem dX7_advance_79 : decode cX7_advance 79 = .ok (.aload_n 0, 1) := by decide +kernel
theorem dX7_advance_80 : decode cX7_advance 80 = .ok (.iload_n 1, 1) := by decide +kernel
theorem dX7_advance_81 : decode cX7_advance 81 = .ok (.invokevirtual 70, 3) := by decide +kernel
theorem dX7_advance_84 : decode cX7_advance 84 = .ok (.goto 37, 3) := by decide +kernel
theorem dX7_advance_87 : decode cX7_advance 87 = .ok (.aload_n 0, 1) := by decide +kernel
theorem dX7_advance_88 : decode cX7_advance 88 = .ok (.getfield 11, 3) := by decide +kernel
theorem dX7_advance_91 : decode cX7_advance 91 = .ok (.iload_n 1, 1) := by decide +kernel
theorem dX7_advance_92 : decode cX7_advance 92 = .ok (.baload, 1) := by decide +kernel
theorem dX7_advance_93 : decode cX7_advance 93 = .ok (.invokestatic 74, 3) := by decide +kernel
theorem dX7_advance_96 : decode cX7_advance 96 = .ok (.ifCond .eq 11, 3) := by decide +kernel
theorem dX7_advance_99 : decode cX7_advance 99 = .ok (.aload_n 0, 1) := by decide +kernel
theorem dX7_advance_100 : decode cX7_advance 100 = .ok (.iload_n 1, 1) := by decide +kernel
theorem dX7_advance_101 : decode cX7_advance 101 = .ok (.invokevirtual 77, 3) := by decide +kernel
theorem dX7_advance_104 : decode cX7_advance 104 = .ok (.goto 17, 3) := by decide +kernel
theorem dX7_advance_107 : decode cX7_advance 107 = .ok (.aload_n 0, 1) := by decide +kernel
theorem dX7_advance_108 : decode cX7_advance 108 = .ok (.aload_n 0, 1) := by decide +kernel
theorem dX7_advance_109 : decode cX7_advance 109 = .ok (.getfield 11, 3) := by decide +kernel
theorem dX7_advance_112 : decode cX7_advance 112 = .ok (.iload_n 1, 1) := by decide +kernel
theorem dX7_advance_113 : decode cX7_advance 113 = .ok (.baload, 1) := by decide +kernel
theorem dX7_advance_114 : decode cX7_advance 114 = .ok (.sipush 255, 3) := by decide +kernel
theorem dX7_advance_117 : decode cX7_advance 117 = .ok (.iand, 1) := by decide +kernel
theorem dX7_advance_118 : decode cX7_advance 118 = .ok (.invokevirtual 80, 3) := by decide +kernel
theorem dX7_advance_121 : decode cX7_advance 121 = .ok (.return_, 1) := by decide +kernel
theorem dX7_expect_0 : decode cX7_expect 0 = .ok (.aload_n 0, 1) := by decide +kernel
theorem dX7_expect_1 : decode cX7_expect 1 = .ok (.getfield 26, 3) := by decide +kernel
theorem dX7_expect_4 : decode cX7_expect 4 = .ok (.iload_n 1, 1) := by decide +kernel
theorem dX7_expect_5 : decode cX7_expect 5 = .ok (.if_icmp .eq 8, 3) := by decide +kernel
theorem dX7_expect_8 : decode cX7_expect 8 = .ok (.aload_n 0, 1) := by decide +kernel
theorem dX7_expect_9 : decode cX7_expect 9 = .ok (.iconst 2, 1) := by decide +kernel
theorem dX7_expect_10 : decode cX7_expect 10 = .ok (.invokevirtual 83, 3) := by decide +kernel
theorem dX7_expect_13 : decode cX7_expect 13 = .ok (.aload_n 0, 1) := by decide +kernel
theorem dX7_expect_14 : decode cX7_expect 14 = .ok (.invokevirtual 60, 3) := by decide +kernel
theorem dX7_expect_17 : decode cX7_expect 17 = .ok (.return_, 1) := by decide +kernel
theorem dX7_scanWord_0 : decode cX7_scanWord 0 = .ok (.iconst 0, 1) := by decide +kernel
theorem dX7_scanWord_1 : decode cX7_scanWord 1 = .ok (.istore_n 2, 1) := by decide +kernel
theorem dX7_scanWord_2 : decode cX7_scanWord 2 = .ok (.aload_n 0, 1) := by decide +kernel
theorem dX7_scanWord_3 : decode cX7_scanWord 3 = .ok (.lconst 0, 1) := by decide +kernel
theorem dX7_scanWord_4 : decode cX7_scanWord 4 = .ok (.putfield 35, 3) := by decide +kernel
theorem dX7_scanWord_7 : decode cX7_scanWord 7 = .ok (.iload_n 1, 1) := by decide +kernel
theorem dX7_scanWord_8 : decode cX7_scanWord 8 = .ok (.istore_n 3, 1) := by decide +kernel
theorem dX7_scanWord_9 : decode cX7_scanWord 9 = .ok (.iload_n 3, 1) := by decide +kernel
theorem dX7_scanWord_10 : decode cX7_scanWord 10 = .ok (.aload_n 0, 1) := by decide +kernel
theorem dX7_scanWord_11 : decode cX7_scanWord 11 = .ok (.getfield 19, 3) := by decide +kernel
theorem dX7_scanWord_14 : decode cX7_scanWord 14 = .ok (.if_icmp .ge 41, 3) := by decide +kernel
theorem dX7_scanWord_17 : decode cX7_scanWord 17 = .ok (.aload_n 0, 1) := by decide +kernel
theorem dX7_scanWord_18 : decode cX7_scanWord 18 = .ok (.getfield 11, 3) := by decide +kernel
theorem dX7_scanWord_21 : decode cX7_scanWord 21 = .ok (.iload_n 3, 1) := by decide +kernel
theorem dX7_scanWord_22 : decode cX7_scanWord 22 = .ok (.baload, 1) := by decide +kernel
theorem dX7_scanWord_23 : decode cX7_scanWord 23 = .ok (.invokestatic 67, 3) := by decide +kernel
theorem dX7_scanWord_26 : decode cX7_scanWord 26 = .ok (.ifCond .eq 29, 3) := by decide +kernel
theorem dX7_scanWord_29 : decode cX7_scanWord 29 = .ok (.aload_n 0, 1) := by decide +kernel
theorem dX7_scanWord_30 : decode cX7_scanWord 30 = .ok (.aload_n 0, 1) := by decide +kernel
theorem dX7_scanWord_31 : decode cX7_scanWord 31 = .ok (.getfield 35, 3) := by decide +kernel
theorem dX7_scanWord_34 : decode cX7_scanWord 34 = .ok (.aload_n 0, 1) := by decide +kernel
theorem dX7_scanWord_35 : decode cX7_scanWord 35 = .ok (.getfield 11, 3) := by decide +kernel
theorem dX7_scanWord_38 : decode cX7_scanWord 38 = .ok (.iload_n 3, 1) := by decide +kernel
theorem dX7_scanWord_39 : decode cX7_scanWord 39 = .ok (.baload, 1) := by decide +kernel
theorem dX7_scanWord_40 : decode cX7_scanWord 40 = .ok (.invokestatic 56, 3) := by decide +kernel
theorem dX7_scanWord_43 : decode cX7_scanWord 43 = .ok (.putfield 35, 3) := by decide +kernel
theorem dX7_scanWord_46 : decode cX7_scanWord 46 = .ok (.iinc 2 1, 3) := by decide +kernel
theorem dX7_scanWord_49 : decode cX7_scanWord 49 = .ok (.iinc 3 1, 3) := by decide +kernel
theorem dX7_scanWord_52 : decode cX7_scanWord 52 = .ok (.goto (-43), 3) := by decide +kernel
theorem dX7_scanWord_55 : decode cX7_scanWord 55 = .ok (.iload_n 2, 1) := by decide +kernel
theorem dX7_scanWord_56 : decode cX7_scanWord 56 = .ok (.bipush 8, 2) := by decide +kernel
theorem dX7_scanWord_58 : decode cX7_scanWord 58 = .ok (.if_icmp .le 9, 3) := by decide +kernel
theorem dX7_scanWord_61 : decode cX7_scanWord 61 = .ok (.aload_n 0, 1) := by decide +kernel
theorem dX7_scanWord_62 : decode cX7_scanWord 62 = .ok (.iconst 1, 1) := by decide +kernel
theorem dX7_scanWord_63 : decode cX7_scanWord 63 = .ok (.invokevirtual 83, 3) := by decide +kernel
theorem dX7_scanWord_66 : decode cX7_scanWord 66 = .ok (.return_, 1) := by decide +kernel
theorem dX7_scanWord_67 : decode cX7_scanWord 67 = .ok (.aload_n 0, 1) := by decide +kernel
theorem dX7_scanWord_68 : decode cX7_scanWord 68 = .ok (.iload_n 1, 1) := by decide +kernel
theorem dX7_scanWord_69 : decode cX7_scanWord 69 = .ok (.iload_n 2, 1) := by decide +kernel
theorem dX7_scanWord_70 : decode cX7_scanWord 70 = .ok (.iadd, 1) := by decide +kernel
theorem dX7_scanWord_71 : decode cX7_scanWord 71 = .ok (.putfield 23, 3) := by decide +kernel
theorem dX7_scanWord_74 : decode cX7_scanWord 74 = .ok (.aload_n 0, 1) := by decide +kernel
theorem dX7_scanWord_75 : decode cX7_scanWord 75 = .ok (.sipush 200, 3) := by decide +kernel
theorem dX7_scanWord_78 : decode cX7_scanWord 78 = .ok (.putfield 26, 3) := by decide +kernel
theorem dX7_scanWord_81 : decode cX7_scanWord 81 = .ok (.iconst 0, 1) := by decide +kernel
theorem dX7_scanWord_82 : decode cX7_scanWord 82 = .ok (.istore_n 3, 1) := by decide +kernel
theorem dX7_scanWord_83 : decode cX7_scanWord 83 = .ok (.iload_n 3, 1) := by decide +kernel
theorem dX7_scanWord_84 : decode cX7_scanWord 84 = .ok (.bipush 18, 2) := by decide +kernel
theorem dX7_scanWord_86 : decode cX7_scanWord 86 = .ok (.if_icmp .ge 39, 3) := by decide +kernel
theorem dX7_scanWord_89 : decode cX7_scanWord 89 = .ok (.aload_n 0, 1) := by decide +kernel
theorem dX7_scanWord_90 : decode cX7_scanWord 90 = .ok (.aload_n 0, 1) := by decide +kernel
theorem dX7_scanWord_91 : decode cX7_scanWord 91 = .ok (.getfield 15, 3) := by decide +kernel
theorem dX7_scanWord_94 : decode cX7_scanWord 94 = .ok (.iload_n 3, 1) := by decide +kernel
theorem dX7_scanWord_95 : decode cX7_scanWord 95 = .ok (.laload, 1) := by decide +kernel
theorem dX7_scanWord_96 : decode cX7_scanWord 96 = .ok (.aload_n 0, 1) := by decide +kernel
theorem dX7_scanWord_97 : decode cX7_scanWord 97 = .ok (.getfield 35, 3) := by decide +kernel
theorem dX7_scanWord_100 : decode cX7_scanWord 100 = .ok (.lcmp, 1) := by decide +kernel
theorem dX7_scanWord_101 : decode cX7_scanWord 101 = .ok (.ifCond .ne 11, 3) := by decide +kernel
theorem dX7_scanWord_104 : decode cX7_scanWord 104 = .ok (.sipush 128, 3) := by decide +kernel
theorem dX7_scanWord_107 : decode cX7_scanWord 107 = .ok (.iload_n 3, 1) := by decide +kernel
theorem dX7_scanWord_108 : decode cX7_scanWord 108 = .ok (.iadd, 1) := by decide +kernel
theorem dX7_scanWord_109 : decode cX7_scanWord 109 = .ok (.goto 7, 3) := by decide +kernel
theorem dX7_scanWord_112 : decode cX7_scanWord 112 = .ok (.aload_n 0, 1) := by decide +kernel
theorem dX7_scanWord_113 : decode cX7_scanWord 113 = .ok (.getfield 26, 3) := by decide +kernel
theorem dX7_scanWord_116 : decode cX7_scanWord 116 = .ok (.putfield 26, 3) := by decide +kernel
theorem dX7_scanWord_119 : decode cX7_scanWord 119 = .ok (.iinc 3 1, 3) := by decide +kernel
theorem dX7_scanWord_122 : decode cX7_scanWord 122 = .ok (.goto (-39), 3) := by decide +kernel
theorem dX7_scanWord_125 : decode cX7_scanWord 125 = .ok (.return_, 1) := by decide +kernel
theorem dX7_withLetter_0 : decode cX7_withLetter 0 = .ok (.lload_n 0, 1) := by decide +kernel
theorem dX7_withLetter_1 : decode cX7_withLetter 1 = .ok (.ldc2_w 86, 3) := by decide +kernel
theorem dX7_withLetter_4 : decode cX7_withLetter 4 = .ok (.lmul, 1) := by decide +kernel
theorem dX7_withLetter_5 : decode cX7_withLetter 5 = .ok (.iload_n 2, 1) := by decide +kernel
theorem dX7_withLetter_6 : decode cX7_withLetter 6 = .ok (.bipush 97, 2) := by decide +kernel
theorem dX7_withLetter_8 : decode cX7_withLetter 8 = .ok (.isub, 1) := by decide +kernel
theorem dX7_withLetter_9 : decode cX7_withLetter 9 = .ok (.iconst 1, 1) := by decide +kernel
theorem dX7_withLetter_10 : decode cX7_withLetter 10 = .ok (.iadd, 1) := by decide +kernel
theorem dX7_withLetter_11 : decode cX7_withLetter 11 = .ok (.i2l, 1) := by decide +kernel
theorem dX7_withLetter_12 : decode cX7_withLetter 12 = .ok (.ladd, 1) := by decide +kernel
theorem dX7_withLetter_13 : decode cX7_withLetter 13 = .ok (.lreturn, 1) := by decide +kernel
theorem dX7_scanNumber_0 : decode cX7_scanNumber 0 = .ok (.iconst 0, 1) := by decide +kernel
theorem dX7_scanNumber_1 : decode cX7_scanNumber 1 = .ok (.istore_n 2, 1) := by decide +kernel
theorem dX7_scanNumber_2 : decode cX7_scanNumber 2 = .ok (.aload_n 0, 1) := by decide +kernel
theorem dX7_scanNumber_3 : decode cX7_scanNumber 3 = .ok (.iconst 0, 1) := by decide +kernel
theorem dX7_scanNumber_4 : decode cX7_scanNumber 4 = .ok (.putfield 32, 3) := by decide +kernel
theorem dX7_scanNumber_7 : decode cX7_scanNumber 7 = .ok (.iload_n 1, 1) := by decide +kernel
theorem dX7_scanNumber_8 : decode cX7_scanNumber 8 = .ok (.istore_n 3, 1) := by decide +kernel
theorem dX7_scanNumber_9 : decode cX7_scanNumber 9 = .ok (.iload_n 3, 1) := by decide +kernel
theorem dX7_scanNumber_10 : decode cX7_scanNumber 10 = .ok (.aload_n 0, 1) := by decide +kernel
theorem dX7_scanNumber_11 : decode cX7_scanNumber 11 = .ok (.getfield 19, 3) := by decide +kernel
theorem dX7_scanNumber_14 : decode cX7_scanNumber 14 = .ok (.if_icmp .ge 45, 3) := by decide +kernel
theorem dX7_scanNumber_17 : decode cX7_scanNumber 17 = .ok (.aload_n 0, 1) := by decide +kernel
theorem dX7_scanNumber_18 : decode cX7_scanNumber 18 = .ok (.getfield 11, 3) := by decide +kernel
theorem dX7_scanNumber_21 : decode cX7_scanNumber 21 = .ok (.iload_n 3, 1) := by decide +kernel
theorem dX7_scanNumber_22 : decode cX7_scanNumber 22 = .ok (.baload, 1) := by decide +kernel
theorem dX7_scanNumber_23 : decode cX7_scanNumber 23 = .ok (.invokestatic 74, 3) := by decide +kernel
theorem dX7_scanNumber_26 : decode cX7_scanNumber 26 = .ok (.ifCond .eq 33, 3) := by decide +kernel
theorem dX7_scanNumber_29 : decode cX7_scanNumber 29 = .ok (.aload_n 0, 1) := by decide +kernel
theorem dX7_scanNumber_30 : decode cX7_scanNumber 30 = .ok (.aload_n 0, 1) := by decide +kernel
theorem dX7_scanNumber_31 : decode cX7_scanNumber 31 = .ok (.getfield 32, 3) := by decide +kernel
theorem dX7_scanNumber_34 : decode cX7_scanNumber 34 = .ok (.bipush 10, 2) := by decide +kernel
theorem dX7_scanNumber_36 : decode cX7_scanNumber 36 = .ok (.imul, 1) := by decide +kernel
theorem dX7_scanNumber_37 : decode cX7_scanNumber 37 = .ok (.aload_n 0, 1) := by decide +kernel
theorem dX7_scanNumber_38 : decode cX7_scanNumber 38 = .ok (.getfield 11, 3) := by decide +kernel
theorem dX7_scanNumber_41 : decode cX7_scanNumber 41 = .ok (.iload_n 3, 1) := by decide +kernel
theorem dX7_scanNumber_42 : decode cX7_scanNumber 42 = .ok (.baload, 1) := by decide +kernel
theorem dX7_scanNumber_43 : decode cX7_scanNumber 43 = .ok (.bipush 48, 2) := by decide +kernel
theorem dX7_scanNumber_45 : decode cX7_scanNumber 45 = .ok (.isub, 1) := by decide +kernel
theorem dX7_scanNumber_46 : decode cX7_scanNumber 46 = .ok (.iadd, 1) := by decide +kernel
theorem dX7_scanNumber_47 : decode cX7_scanNumber 47 = .ok (.putfield 32, 3) := by decide +kernel
theorem dX7_scanNumber_50 : decode cX7_scanNumber 50 = .ok (.iinc 2 1, 3) := by decide +kernel
theorem dX7_scanNumber_53 : decode cX7_scanNumber 53 = .ok (.iinc 3 1, 3) := by decide +kernel
theorem dX7_scanNumber_56 : decode cX7_scanNumber 56 = .ok (.goto (-47), 3) := by decide +kernel
theorem dX7_scanNumber_59 : decode cX7_scanNumber 59 = .ok (.iload_n 1, 1) := by decide +kernel
theorem dX7_scanNumber_60 : decode cX7_scanNumber 60 = .ok (.iload_n 2, 1) := by decide +kernel
theorem dX7_scanNumber_61 : decode cX7_scanNumber 61 = .ok (.iadd, 1) := by decide +kernel
theorem dX7_scanNumber_62 : decode cX7_scanNumber 62 = .ok (.istore_n 3, 1) := by decide +kernel
theorem dX7_scanNumber_63 : decode cX7_scanNumber 63 = .ok (.iload_n 2, 1) := by decide +kernel
theorem dX7_scanNumber_64 : decode cX7_scanNumber 64 = .ok (.iconst 4, 1) := by decide +kernel
theorem dX7_scanNumber_65 : decode cX7_scanNumber 65 = .ok (.if_icmp .gt 23, 3) := by decide +kernel
theorem dX7_scanNumber_68 : decode cX7_scanNumber 68 = .ok (.iload_n 3, 1) := by decide +kernel
theorem dX7_scanNumber_69 : decode cX7_scanNumber 69 = .ok (.aload_n 0, 1) := by decide +kernel
theorem dX7_scanNumber_70 : decode cX7_scanNumber 70 = .ok (.getfield 19, 3) := by decide +kernel
theorem dX7_scanNumber_73 : decode cX7_scanNumber 73 = .ok (.if_icmp .ge 21, 3) := by decide +kernel
theorem dX7_scanNumber_76 : decode cX7_scanNumber 76 = .ok (.aload_n 0, 1) := by decide +kernel
theorem dX7_scanNumber_77 : decode cX7_scanNumber 77 = .ok (.getfield 11, 3) := by decide +kernel
theorem dX7_scanNumber_80 : decode cX7_scanNumber 80 = .ok (.iload_n 3, 1) := by decide +kernel
theorem dX7_scanNumber_81 : decode cX7_scanNumber 81 = .ok (.baload, 1) := by decide +kernel
theorem dX7_scanNumber_82 : decode cX7_scanNumber 82 = .ok (.invokestatic 67, 3) := by decide +kernel
theorem dX7_scanNumber_85 : decode cX7_scanNumber 85 = .ok (.ifCond .eq 9, 3) := by decide +kernel
theorem dX7_scanNumber_88 : decode cX7_scanNumber 88 = .ok (.aload_n 0, 1) := by decide +kernel
theorem dX7_scanNumber_89 : decode cX7_scanNumber 89 = .ok (.iconst 1, 1) := by decide +kernel
theorem dX7_scanNumber_90 : decode cX7_scanNumber 90 = .ok (.invokevirtual 83, 3) := by decide +kernel
theorem dX7_scanNumber_93 : decode cX7_scanNumber 93 = .ok (.return_, 1) := by decide +kernel
theorem dX7_scanNumber_94 : decode cX7_scanNumber 94 = .ok (.aload_n 0, 1) := by decide +kernel
theorem dX7_scanNumber_95 : decode cX7_scanNumber 95 = .ok (.iload_n 3, 1) := by decide +kernel
theorem dX7_scanNumber_96 : decode cX7_scanNumber 96 = .ok (.putfield 23, 3) := by decide +kernel
theorem dX7_scanNumber_99 : decode cX7_scanNumber 99 = .ok (.aload_n 0, 1) := by decide +kernel
theorem dX7_scanNumber_100 : decode cX7_scanNumber 100 = .ok (.sipush 201, 3) := by decide +kernel
theorem dX7_scanNumber_103 : decode cX7_scanNumber 103 = .ok (.putfield 26, 3) := by decide +kernel
theorem dX7_scanNumber_106 : decode cX7_scanNumber 106 = .ok (.return_, 1) := by decide +kernel
theorem dX7_scanSign_0 : decode cX7_scanSign 0 = .ok (.ldc 88, 2) := by decide +kernel
theorem dX7_scanSign_2 : decode cX7_scanSign 2 = .ok (.iload_n 1, 1) := by decide +kernel
theorem dX7_scanSign_3 : decode cX7_scanSign 3 = .ok (.i2c, 1) := by decide +kernel
theorem dX7_scanSign_4 : decode cX7_scanSign 4 = .ok (.invokevirtual 90, 3) := by decide +kernel
theorem dX7_scanSign_7 : decode cX7_scanSign 7 = .ok (.ifCond .ge 9, 3) := by decide +kernel
theorem dX7_scanSign_10 : decode cX7_scanSign 10 = .ok (.aload_n 0, 1) := by decide +kernel
theorem dX7_scanSign_11 : decode cX7_scanSign 11 = .ok (.iconst 1, 1) := by decide +kernel
theorem dX7_scanSign_12 : decode cX7_scanSign 12 = .ok (.invokevirtual 83, 3) := by decide +kernel
theorem dX7_scanSign_15 : decode cX7_scanSign 15 = .ok (.return_, 1) := by decide +kernel
theorem dX7_scanSign_16 : decode cX7_scanSign 16 = .ok (.aload_n 0, 1) := by decide +kernel
theorem dX7_scanSign_17 : decode cX7_scanSign 17 = .ok (.dup, 1) := by decide +kernel
theorem dX7_scanSign_18 : decode cX7_scanSign 18 = .ok (.getfield 23, 3) := by decide +kernel
theorem dX7_scanSign_21 : decode cX7_scanSign 21 = .ok (.iconst 1, 1) := by decide +kernel
theorem dX7_scanSign_22 : decode cX7_scanSign 22 = .ok (.iadd, 1) := by decide +kernel
theorem dX7_scanSign_23 : decode cX7_scanSign 23 = .ok (.putfield 23, 3) := by decide +kernel
theorem dX7_scanSign_26 : decode cX7_scanSign 26 = .ok (.aload_n 0, 1) := by decide +kernel
theorem dX7_scanSign_27 : decode cX7_scanSign 27 = .ok (.iload_n 1, 1) := by decide +kernel
theorem dX7_scanSign_28 : decode cX7_scanSign 28 = .ok (.putfield 26, 3) := by decide +kernel
theorem dX7_scanSign_31 : decode cX7_scanSign 31 = .ok (.return_, 1) := by decide +kernel
theorem dX7_isBlank_0 : decode cX7_isBlank 0 = .ok (.iload_n 0, 1) := by decide +kernel
theorem dX7_isBlank_1 : decode cX7_isBlank 1 = .ok (.bipush 32, 2) := by decide +kernel
theorem dX7_isBlank_3 : decode cX7_isBlank 3 = .ok (.if_icmp .eq 9, 3) := by decide +kernel
theorem dX7_isBlank_6 : decode cX7_isBlank 6 = .ok (.iload_n 0, 1) := by decide +kernel
theorem dX7_isBlank_7 : decode cX7_isBlank 7 = .ok (.bipush 10, 2) := by decide +kernel
theorem dX7_isBlank_9 : decode cX7_isBlank 9 = .ok (.if_icmp .ne 7, 3) := by decide +kernel
theorem dX7_isBlank_12 : decode cX7_isBlank 12 = .ok (.iconst 1, 1) := by decide +kernel
theorem dX7_isBlank_13 : decode cX7_isBlank 13 = .ok (.goto 4, 3) := by decide +kernel
theorem dX7_isBlank_16 : decode cX7_isBlank 16 = .ok (.iconst 0, 1) := by decide +kernel
theorem dX7_isBlank_17 : decode cX7_isBlank 17 = .ok (.ireturn, 1) := by decide +kernel
theorem dX7_isLetter_0 : decode cX7_isLetter 0 = .ok (.iload_n 0, 1) := by decide +kernel
theorem dX7_isLetter_1 : decode cX7_isLetter 1 = .ok (.bipush 97, 2) := by decide +kernel
theorem dX7_isLetter_3 : decode cX7_isLetter 3 = .ok (.if_icmp .lt 13, 3) := by decide +kernel
theorem dX7_isLetter_6 : decode cX7_isLetter 6 = .ok (.iload_n 0, 1) := by decide +kernel
theorem dX7_isLetter_7 : decode cX7_isLetter 7 = .ok (.bipush 122, 2) := by decide +kernel
theorem dX7_isLetter_9 : decode cX7_isLetter 9 = .ok (.if_icmp .gt 7, 3) := by decide +kernel
theorem dX7_isLetter_12 : decode cX7_isLetter 12 = .ok (.iconst 1, 1) := by decide +kernel
theorem dX7_isLetter_13 : decode cX7_isLetter 13 = .ok (.goto 4, 3) := by decide +kernel
theorem dX7_isLetter_16 : decode cX7_isLetter 16 = .ok (.iconst 0, 1) := by decide +kernel
theorem dX7_isLetter_17 : decode cX7_isLetter 17 = .ok (.ireturn, 1) := by decide +kernel
theorem dX7_isDigit_0 : decode cX7_isDigit 0 = .ok (.iload_n 0, 1) := by decide +kernel
theorem dX7_isDigit_1 : decode cX7_isDigit 1 = .ok (.bipush 48, 2) := by decide +kernel
theorem dX7_isDigit_3 : decode cX7_isDigit 3 = .ok (.if_icmp .lt 13, 3) := by decide +kernel
theorem dX7_isDigit_6 : decode cX7_isDigit 6 = .ok (.iload_n 0, 1) := by decide +kernel
theorem dX7_isDigit_7 : decode cX7_isDigit 7 = .ok (.bipush 57, 2) := by decide +kernel
theorem dX7_isDigit_9 : decode cX7_isDigit 9 = .ok (.if_icmp .gt 7, 3) := by decide +kernel
theorem dX7_isDigit_12 : decode cX7_isDigit 12 = .ok (.iconst 1, 1) := by decide +kernel
theorem dX7_isDigit_13 : decode cX7_isDigit 13 = .ok (.goto 4, 3) := by decide +kernel
theorem dX7_isDigit_16 : decode cX7_isDigit 16 = .ok (.iconst 0, 1) := by decide +kernel
theorem dX7_isDigit_17 : decode cX7_isDigit 17 = .ok (.ireturn, 1) := by decide +kernel
theorem dX8_init_0 : decode cX8_init 0 = .ok (.aload_n 0, 1) := by decide +kernel
theorem dX8_init_1 : decode cX8_init 1 = .ok (.invokespecial 3, 3) := by decide +kernel
theorem dX8_init_4 : decode cX8_init 4 = .ok (.aload_n 0, 1) := by decide +kernel
theorem dX8_init_5 : decode cX8_init 5 = .ok (.aload_n 1, 1) := by decide +kernel
theorem dX8_init_6 : decode cX8_init 6 = .ok (.putfield 9, 3) := by decide +kernel
theorem dX8_init_9 : decode cX8_init 9 = .ok (.aload_n 0, 1) := by decide +kernel
theorem dX8_init_10 : decode cX8_init 10 = .ok (.aload_n 2, 1) := by decide +kernel
theorem dX8_init_11 : decode cX8_init 11 = .ok (.putfield 15, 3) := by decide +kernel
theorem dX8_init_14 : decode cX8_init 14 = .ok (.return_, 1) := by decide +kernel
theorem dX8_readAll_0 : decode cX8_readAll 0 = .ok (.aload_n 0, 1) := by decide +kernel
theorem dX8_readAll_1 : decode cX8_readAll 1 = .ok (.getfield 15, 3) := by decide +kernel
theorem dX8_readAll_4 : decode cX8_readAll 4 = .ok (.invokevirtual 19, 3) := by decide +kernel
theorem dX8_readAll_7 : decode cX8_readAll 7 = .ok (.aload_n 0, 1) := by decide +kernel
theorem dX8_readAll_8 : decode cX8_readAll 8 = .ok (.getfield 9, 3) := by decide +kernel
theorem dX8_readAll_11 : decode cX8_readAll 11 = .ok (.invokevirtual 24, 3) := by decide +kernel
theorem dX8_readAll_14 : decode cX8_readAll 14 = .ok (.iconst 0, 1) := by decide +kernel
theorem dX8_readAll_15 : decode cX8_readAll 15 = .ok (.istore_n 1, 1) := by decide +kernel
theorem dX8_readAll_16 : decode cX8_readAll 16 = .ok (.iload_n 1, 1) := by decide +kernel
theorem dX8_readAll_17 : decode cX8_readAll 17 = .ok (.sipush 1600, 3) := by decide +kernel
theorem dX8_readAll_20 : decode cX8_readAll 20 = .ok (.if_icmp .gt 203, 3) := by decide +kernel
theorem dX8_readAll_23 : decode cX8_readAll 23 = .ok (.aload_n 0, 1) := by decide +kernel
theorem dX8_readAll_24 : decode cX8_readAll 24 = .ok (.getfield 9, 3) := by decide +kernel
theorem dX8_readAll_27 : decode cX8_readAll 27 = .ok (.invokevirtual 29, 3) := by decide +kernel
theorem dX8_readAll_30 : decode cX8_readAll 30 = .ok (.sipush 202, 3) := by decide +kernel
theorem dX8_readAll_33 : decode cX8_readAll 33 = .ok (.if_icmp .eq 190, 3) := by decide +kernel
theorem dX8_readAll_36 : decode cX8_readAll 36 = .ok (.aload_n 0, 1) := by decide +kernel
theorem dX8_readAll_37 : decode cX8_readAll 37 = .ok (.getfield 9, 3) := by decide +kernel
theorem dX8_readAll_40 : decode cX8_readAll 40 = .ok (.invokevirtual 29, 3) := by decide +kernel
theorem dX8_readAll_43 : decode cX8_readAll 43 = .ok (.sipush 203, 3) := by decide +kernel
theorem dX8_readAll_46 : decode cX8_readAll 46 = .ok (.if_icmp .eq 177, 3) := by decide +kernel
theorem dX8_readAll_49 : decode cX8_readAll 49 = .ok (.aload_n 0, 1) := by decide +kernel
theorem dX8_readAll_50 : decode cX8_readAll 50 = .ok (.getfield 9, 3) := by decide +kernel
theorem dX8_readAll_53 : decode cX8_readAll 53 = .ok (.invokevirtual 29, 3) := by decide +kernel
theorem dX8_readAll_56 : decode cX8_readAll 56 = .ok (.tableswitch 144 128 135 #[48, 55, 70, 77, 84, 91, 103, 123], 48) := by decide +kernel
theorem dX8_readAll_104 : decode cX8_readAll 104 = .ok (.aload_n 0, 1) := by decide +kernel
theorem dX8_readAll_105 : decode cX8_readAll 105 = .ok (.invokevirtual 33, 3) := by decide +kernel
theorem dX8_readAll_108 : decode cX8_readAll 108 = .ok (.goto 100, 3) := by decide +kernel
theorem dX8_readAll_111 : decode cX8_readAll 111 = .ok (.aload_n 0, 1) := by decide +kernel
theorem dX8_readAll_112 : decode cX8_readAll 112 = .ok (.invokevirtual 36, 3) := by decide +kernel
theorem dX8_readAll_115 : decode cX8_readAll 115 = .ok (.aload_n 0, 1) := by decide +kernel
theorem dX8_readAll_116 : decode cX8_readAll 116 = .ok (.getfield 15, 3) := by decide +kernel
theorem dX8_readAll_119 : decode cX8_readAll 119 = .ok (.iconst 1, 1) := by decide +kernel
theorem dX8_readAll_120 : decode cX8_readAll 120 = .ok (.putfield 39, 3) := by decide +kernel
theorem dX8_readAll_123 : decode cX8_readAll 123 = .ok (.goto 85, 3) := by decide +kernel
theorem dX8_readAll_126 : decode cX8_readAll 126 = .ok (.aload_n 0, 1) := by decide +kernel
theorem dX8_readAll_127 : decode cX8_readAll 127 = .ok (.invokevirtual 43, 3) := by decide +kernel
theorem dX8_readAll_130 : decode cX8_readAll 130 = .ok (.goto 78, 3) := by decide +kernel
theorem dX8_readAll_133 : decode cX8_readAll 133 = .ok (.aload_n 0, 1) := by decide +kernel
theorem dX8_readAll_134 : decode cX8_readAll 134 = .ok (.invokevirtual 46, 3) := by decide +kernel
theorem dX8_readAll_137 : decode cX8_readAll 137 = .ok (.goto 71, 3) := by decide +kernel
theorem dX8_readAll_140 : decode cX8_readAll 140 = .ok (.aload_n 0, 1) := by decide +kernel
theorem dX8_readAll_141 : decode cX8_readAll 141 = .ok (.invokevirtual 49, 3) := by decide +kernel
theorem dX8_readAll_144 : decode cX8_readAll 144 = .ok (.goto 64, 3) := by decide +kernel
theorem dX8_readAll_147 : decode cX8_readAll 147 = .ok (.aload_n 0, 1) := by decide +kernel
theorem dX8_readAll_148 : decode cX8_readAll 148 = .ok (.invokevirtual 36, 3) := by decide +kernel
theorem dX8_readAll_151 : decode cX8_readAll 151 = .ok (.aload_n 0, 1) := by decide +kernel
theorem dX8_readAll_152 : decode cX8_readAll 152 = .ok (.iconst 0, 1) := by decide +kernel
theorem dX8_readAll_153 : decode cX8_readAll 153 = .ok (.invokevirtual 52, 3) := by decide +kernel
theorem dX8_readAll_156 : decode cX8_readAll 156 = .ok (.goto 52, 3) := by decide +kernel
theorem dX8_readAll_159 : decode cX8_readAll 159 = .ok (.aload_n 0, 1) := by decide +kernel
theorem dX8_readAll_160 : decode cX8_readAll 160 = .ok (.invokevirtual 36, 3) := by decide +kernel
theorem dX8_readAll_163 : decode cX8_readAll 163 = .ok (.aload_n 0, 1) := by decide +kernel
theorem dX8_readAll_164 : decode cX8_readAll 164 = .ok (.getfield 15, 3) := by decide +kernel
theorem dX8_readAll_167 : decode cX8_readAll 167 = .ok (.aload_n 0, 1) := by decide +kernel
theorem dX8_readAll_168 : decode cX8_readAll 168 = .ok (.bipush 100, 2) := by decide +kernel
theorem dX8_readAll_170 : decode cX8_readAll 170 = .ok (.invokevirtual 56, 3) := by decide +kernel
theorem dX8_readAll_173 : decode cX8_readAll 173 = .ok (.putfield 60, 3) := by decide +kernel
theorem dX8_readAll_176 : decode cX8_readAll 176 = .ok (.goto 32, 3) := by decide +kernel
theorem dX8_readAll_179 : decode cX8_readAll 179 = .ok (.aload_n 0, 1) := by decide +kernel
theorem dX8_readAll_180 : decode cX8_readAll 180 = .ok (.invokevirtual 36, 3) := by decide +kernel
theorem dX8_readAll_183 : decode cX8_readAll 183 = .ok (.aload_n 0, 1) := by decide +kernel
theorem dX8_readAll_184 : decode cX8_readAll 184 = .ok (.getfield 15, 3) := by decide +kernel
theorem dX8_readAll_187 : decode cX8_readAll 187 = .ok (.aload_n 0, 1) := by decide +kernel
theorem dX8_readAll_188 : decode cX8_readAll 188 = .ok (.sipush 999, 3) := by decide +kernel
theorem dX8_readAll_191 : decode cX8_readAll 191 = .ok (.invokevirtual 56, 3) := by decide +kernel
theorem dX8_readAll_194 : decode cX8_readAll 194 = .ok (.putfield 64, 3) := by decide +kernel
theorem dX8_readAll_197 : decode cX8_readAll 197 = .ok (.goto 11, 3) := by decide +kernel
theorem dX8_readAll_200 : decode cX8_readAll 200 = .ok (.aload_n 0, 1) := by decide +kernel
theorem dX8_readAll_201 : decode cX8_readAll 201 = .ok (.getfield 9, 3) := by decide +kernel
theorem dX8_readAll_204 : decode cX8_readAll 204 = .ok (.iconst 2, 1) := by decide +kernel
theorem dX8_readAll_205 : decode cX8_readAll 205 = .ok (.invokevirtual 67, 3) := by decide +kernel
theorem dX8_readAll_208 : decode cX8_readAll 208 = .ok (.aload_n 0, 1) := by decide +kernel
theorem dX8_readAll_209 : decode cX8_readAll 209 = .ok (.getfield 9, 3) := by decide +kernel
theorem dX8_readAll_212 : decode cX8_readAll 212 = .ok (.bipush 59, 2) := by decide +kernel
theorem dX8_readAll_214 : decode cX8_readAll 214 = .ok (.invokevirtual 70, 3) := by decide +kernel
theorem dX8_readAll_217 : decode cX8_readAll 217 = .ok (.iinc 1 1, 3) := by decide +kernel
theorem dX8_readAll_220 : decode cX8_readAll 220 = .ok (.goto (-204), 3) := by decide +kernel
theorem dX8_readAll_223 : decode cX8_readAll 223 = .ok (.aload_n 0, 1) := by decide +kernel
theorem dX8_readAll_224 : decode cX8_readAll 224 = .ok (.getfield 9, 3) := by decide +kernel
theorem dX8_readAll_227 : decode cX8_readAll 227 = .ok (.invokevirtual 73, 3) := by decide +kernel
theorem dX8_readAll_230 : decode cX8_readAll 230 = .ok (.ifCond .ne 7, 3) := by decide +kernel
theorem dX8_readAll_233 : decode cX8_readAll 233 = .ok (.iconst 1, 1) := by decide +kernel
theorem dX8_readAll_234 : decode cX8_readAll 234 = .ok (.goto 4, 3) := by decide +kernel
theorem dX8_readAll_237 : decode cX8_readAll 237 = .ok (.iconst 0, 1) := by decide +kernel
theorem dX8_readAll_238 : decode cX8_readAll 238 = .ok (.ireturn, 1) := by decide +kernel
theorem dX8_startOnce_0 : decode cX8_startOnce 0 = .ok (.iconst 1, 1) := by decide +kernel
theorem dX8_startOnce_1 : decode cX8_startOnce 1 = .ok (.aload_n 0, 1) := by decide +kernel
theorem dX8_startOnce_2 : decode cX8_startOnce 2 = .ok (.getfield 9, 3) := by decide +kernel
theorem dX8_startOnce_5 : decode cX8_startOnce 5 = .ok (.invokevirtual 29, 3) := by decide +kernel
theorem dX8_startOnce_8 : decode cX8_startOnce 8 = .ok (.sipush 128, 3) := by decide +kernel
theorem dX8_startOnce_11 : decode cX8_startOnce 11 = .ok (.isub, 1) := by decide +kernel
theorem dX8_startOnce_12 : decode cX8_startOnce 12 = .ok (.ishl, 1) := by decide +kernel
theorem dX8_startOnce_13 : decode cX8_startOnce 13 = .ok (.istore_n 1, 1) := by decide +kernel
theorem dX8_startOnce_14 : decode cX8_startOnce 14 = .ok (.aload_n 0, 1) := by decide +kernel
theorem dX8_startOnce_15 : decode cX8_startOnce 15 = .ok (.aload_n 0, 1) := by decide +kernel
theorem dX8_startOnce_16 : decode cX8_startOnce 16 = .ok (.getfield 15, 3) := by decide +kernel
theorem dX8_startOnce_19 : decode cX8_startOnce 19 = .ok (.getfield 76, 3) := by decide +kernel
theorem dX8_startOnce_22 : decode cX8_startOnce 22 = .ok (.iload_n 1, 1) := by decide +kernel
theorem dX8_startOnce_23 : decode cX8_startOnce 23 = .ok (.iand, 1) := by decide +kernel
theorem dX8_startOnce_24 : decode cX8_startOnce 24 = .ok (.ifCond .ne 7, 3) := by decide +kernel
theorem dX8_startOnce_27 : decode cX8_startOnce 27 = .ok (.iconst 1, 1) := by decide +kernel
theorem dX8_startOnce_28 : decode cX8_startOnce 28 = .ok (.goto 4, 3) := by decide +kernel
theorem dX8_startOnce_31 : decode cX8_startOnce 31 = .ok (.iconst 0, 1) := by decide +kernel
theorem dX8_startOnce_32 : decode cX8_startOnce 32 = .ok (.invokevirtual 79, 3) := by decide +kernel
theorem dX8_startOnce_35 : decode cX8_startOnce 35 = .ok (.aload_n 0, 1) := by decide +kernel
theorem dX8_startOnce_36 : decode cX8_startOnce 36 = .ok (.getfield 15, 3) := by decide +kernel
theorem dX8_startOnce_39 : decode cX8_startOnce 39 = .ok (.dup, 1) := by decide +kernel
theorem dX8_startOnce_40 : decode cX8_startOnce 40 = .ok (.getfield 76, 3) := by decide +kernel
theorem dX8_startOnce_43 : decode cX8_startOnce 43 = .ok (.iload_n 1, 1) := by decide +kernel
theorem dX8_startOnce_44 : decode cX8_startOnce 44 = .ok (.ior, 1) := by decide +kernel
theorem dX8_startOnce_45 : decode cX8_startOnce 45 = .ok (.putfield 76, 3) := by decide +kernel
theorem dX8_startOnce_48 : decode cX8_startOnce 48 = .ok (.return_, 1) := by decide +kernel
theorem dX8_start_0 : decode cX8_start 0 = .ok (.iload_n 1, 1) := by decide +kernel
theorem dX8_start_1 : decode cX8_start 1 = .ok (.ifCond .ne 11, 3) := by decide +kernel
theorem dX8_start_4 : decode cX8_start 4 = .ok (.aload_n 0, 1) := by decide +kernel
theorem dX8_start_5 : decode cX8_start 5 = .ok (.getfield 9, 3) := by decide +kernel
theorem dX8_start_8 : decode cX8_start 8 = .ok (.iconst 2, 1) := by decide +kernel
theorem dX8_start_9 : decode cX8_start 9 = .ok (.invokevirtual 67, 3) := by decide +kernel
theorem dX8_start_12 : decode cX8_start 12 = .ok (.aload_n 0, 1) := by decide +kernel
theorem dX8_start_13 : decode cX8_start 13 = .ok (.getfield 9, 3) := by decide +kernel
theorem dX8_start_16 : decode cX8_start 16 = .ok (.invokevirtual 83, 3) := by decide +kernel
theorem dX8_start_19 : decode cX8_start 19 = .ok (.return_, 1) := by decide +kernel
theorem dX8_readTurns_0 : decode cX8_readTurns 0 = .ok (.aload_n 0, 1) := by decide +kernel
theorem dX8_readTurns_1 : decode cX8_readTurns 1 = .ok (.invokevirtual 36, 3) := by decide +kernel
theorem dX8_readTurns_4 : decode cX8_readTurns 4 = .ok (.aload_n 0, 1) := by decide +kernel
theorem dX8_readTurns_5 : decode cX8_readTurns 5 = .ok (.getfield 9, 3) := by decide +kernel
theorem dX8_readTurns_8 : decode cX8_readTurns 8 = .ok (.invokevirtual 29, 3) := by decide +kernel
theorem dX8_readTurns_11 : decode cX8_readTurns 11 = .ok (.sipush 201, 3) := by decide +kernel
theorem dX8_readTurns_14 : decode cX8_readTurns 14 = .ok (.if_icmp .ne 7, 3) := by decide +kernel
theorem dX8_readTurns_17 : decode cX8_readTurns 17 = .ok (.iconst 1, 1) := by decide +kernel
theorem dX8_readTurns_18 : decode cX8_readTurns 18 = .ok (.goto 4, 3) := by decide +kernel
theorem dX8_readTurns_21 : decode cX8_readTurns 21 = .ok (.iconst 0, 1) := by decide +kernel
theorem dX8_readTurns_22 : decode cX8_readTurns 22 = .ok (.istore_n 1, 1) := by decide +kernel
theorem dX8_readTurns_23 : decode cX8_readTurns 23 = .ok (.aload_n 0, 1) := by decide +kernel
theorem dX8_readTurns_24 : decode cX8_readTurns 24 = .ok (.getfield 9, 3) := by decide +kernel
theorem dX8_readTurns_27 : decode cX8_readTurns 27 = .ok (.invokevirtual 86, 3) := by decide +kernel
theorem dX8_readTurns_30 : decode cX8_readTurns 30 = .ok (.istore_n 2, 1) := by decide +kernel
theorem dX8_readTurns_31 : decode cX8_readTurns 31 = .ok (.iload_n 1, 1) := by decide +kernel
theorem dX8_readTurns_32 : decode cX8_readTurns 32 = .ok (.ifCond .eq 26, 3) := by decide +kernel
theorem dX8_readTurns_35 : decode cX8_readTurns 35 = .ok (.iload_n 2, 1) := by decide +kernel
theorem dX8_readTurns_36 : decode cX8_readTurns 36 = .ok (.iconst 1, 1) := by decide +kernel
theorem dX8_readTurns_37 : decode cX8_readTurns 37 = .ok (.if_icmp .eq 21, 3) := by decide +kernel
theorem dX8_readTurns_40 : decode cX8_readTurns 40 = .ok (.iload_n 2, 1) := by decide +kernel
theorem dX8_readTurns_41 : decode cX8_readTurns 41 = .ok (.iconst 2, 1) := by decide +kernel
theorem dX8_readTurns_42 : decode cX8_readTurns 42 = .ok (.if_icmp .eq 16, 3) := by decide +kernel
theorem dX8_readTurns_45 : decode cX8_readTurns 45 = .ok (.iload_n 2, 1) := by decide +kernel
theorem dX8_readTurns_46 : decode cX8_readTurns 46 = .ok (.iconst 4, 1) := by decide +kernel
theorem dX8_readTurns_47 : decode cX8_readTurns 47 = .ok (.if_icmp .eq 11, 3) := by decide +kernel
theorem dX8_readTurns_50 : decode cX8_readTurns 50 = .ok (.aload_n 0, 1) := by decide +kernel
theorem dX8_readTurns_51 : decode cX8_readTurns 51 = .ok (.getfield 9, 3) := by decide +kernel
theorem dX8_readTurns_54 : decode cX8_readTurns 54 = .ok (.iconst 4, 1) := by decide +kernel
theorem dX8_readTurns_55 : decode cX8_readTurns 55 = .ok (.invokevirtual 67, 3) := by decide +kernel
theorem dX8_readTurns_58 : decode cX8_readTurns 58 = .ok (.aload_n 0, 1) := by decide +kernel
theorem dX8_readTurns_59 : decode cX8_readTurns 59 = .ok (.iconst 4, 1) := by decide +kernel
theorem dX8_readTurns_60 : decode cX8_readTurns 60 = .ok (.invokevirtual 56, 3) := by decide +kernel
theorem dX8_readTurns_63 : decode cX8_readTurns 63 = .ok (.pop, 1) := by decide +kernel
theorem dX8_readTurns_64 : decode cX8_readTurns 64 = .ok (.aload_n 0, 1) := by decide +kernel
theorem dX8_readTurns_65 : decode cX8_readTurns 65 = .ok (.getfield 15, 3) := by decide +kernel
theorem dX8_readTurns_68 : decode cX8_readTurns 68 = .ok (.iload_n 2, 1) := by decide +kernel
theorem dX8_readTurns_69 : decode cX8_readTurns 69 = .ok (.putfield 89, 3) := by decide +kernel
theorem dX8_readTurns_72 : decode cX8_readTurns 72 = .ok (.return_, 1) := by decide +kernel
theorem dX8_readHerd_0 : decode cX8_readHerd 0 = .ok (.aload_n 0, 1) := by decide +kernel
theorem dX8_readHerd_1 : decode cX8_readHerd 1 = .ok (.aload_n 0, 1) := by decide +kernel
theorem dX8_readHerd_2 : decode cX8_readHerd 2 = .ok (.getfield 15, 3) := by decide +kernel
theorem dX8_readHerd_5 : decode cX8_readHerd 5 = .ok (.getfield 92, 3) := by decide +kernel
theorem dX8_readHerd_8 : decode cX8_readHerd 8 = .ok (.bipush 8, 2) := by decide +kernel
theorem dX8_readHerd_10 : decode cX8_readHerd 10 = .ok (.if_icmp .ge 7, 3) := by decide +kernel
theorem dX8_readHerd_13 : decode cX8_readHerd 13 = .ok (.iconst 1, 1) := by decide +kernel
theorem dX8_readHerd_14 : decode cX8_readHerd 14 = .ok (.goto 4, 3) := by decide +kernel
theorem dX8_readHerd_17 : decode cX8_readHerd 17 = .ok (.iconst 0, 1) := by decide +kernel
theorem dX8_readHerd_18 : decode cX8_readHerd 18 = .ok (.invokevirtual 79, 3) := by decide +kernel
theorem dX8_readHerd_21 : decode cX8_readHerd 21 = .ok (.aload_n 0, 1) := by decide +kernel
theorem dX8_readHerd_22 : decode cX8_readHerd 22 = .ok (.aload_n 0, 1) := by decide +kernel
theorem dX8_readHerd_23 : decode cX8_readHerd 23 = .ok (.getfield 15, 3) := by decide +kernel
theorem dX8_readHerd_26 : decode cX8_readHerd 26 = .ok (.getfield 95, 3) := by decide +kernel
theorem dX8_readHerd_29 : decode cX8_readHerd 29 = .ok (.aload_n 0, 1) := by decide +kernel
theorem dX8_readHerd_30 : decode cX8_readHerd 30 = .ok (.getfield 15, 3) := by decide +kernel
theorem dX8_readHerd_33 : decode cX8_readHerd 33 = .ok (.getfield 92, 3) := by decide +kernel
theorem dX8_readHerd_36 : decode cX8_readHerd 36 = .ok (.invokevirtual 99, 3) := by decide +kernel
theorem dX8_readHerd_39 : decode cX8_readHerd 39 = .ok (.aload_n 0, 1) := by decide +kernel
theorem dX8_readHerd_40 : decode cX8_readHerd 40 = .ok (.invokevirtual 103, 3) := by decide +kernel
theorem dX8_readHerd_43 : decode cX8_readHerd 43 = .ok (.istore_n 1, 1) := by decide +kernel
theorem dX8_readHerd_44 : decode cX8_readHerd 44 = .ok (.aload_n 0, 1) := by decide +kernel
theorem dX8_readHerd_45 : decode cX8_readHerd 45 = .ok (.getfield 15, 3) := by decide +kernel
theorem dX8_readHerd_48 : decode cX8_readHerd 48 = .ok (.getfield 92, 3) := by decide +kernel
theorem dX8_readHerd_51 : decode cX8_readHerd 51 = .ok (.bipush 8, 2) := by decide +kernel
theorem dX8_readHerd_53 : decode cX8_readHerd 53 = .ok (.if_icmp .ge 32, 3) := by decide +kernel
theorem dX8_readHerd_56 : decode cX8_readHerd 56 = .ok (.aload_n 0, 1) := by decide +kernel
theorem dX8_readHerd_57 : decode cX8_readHerd 57 = .ok (.getfield 15, 3) := by decide +kernel
theorem dX8_readHerd_60 : decode cX8_readHerd 60 = .ok (.getfield 106, 3) := by decide +kernel
theorem dX8_readHerd_63 : decode cX8_readHerd 63 = .ok (.aload_n 0, 1) := by decide +kernel
theorem dX8_readHerd_64 : decode cX8_readHerd 64 = .ok (.getfield 15, 3) := by decide +kernel
theorem dX8_readHerd_67 : decode cX8_readHerd 67 = .ok (.getfield 92, 3) := by decide +kernel
theorem dX8_readHerd_70 : decode cX8_readHerd 70 = .ok (.iload_n 1, 1) := by decide +kernel
theorem dX8_readHerd_71 : decode cX8_readHerd 71 = .ok (.iastore, 1) := by decide +kernel
theorem dX8_readHerd_72 : decode cX8_readHerd 72 = .ok (.aload_n 0, 1) := by decide +kernel
theorem dX8_readHerd_73 : decode cX8_readHerd 73 = .ok (.getfield 15, 3) := by decide +kernel
theorem dX8_readHerd_76 : decode cX8_readHerd 76 = .ok (.dup, 1) := by decide +kernel
theorem dX8_readHerd_77 : decode cX8_readHerd 77 = .ok (.getfield 92, 3) := by decide +kernel
theorem dX8_readHerd_80 : decode cX8_readHerd 80 = .ok (.iconst 1, 1) := by decide +kernel
theorem dX8_readHerd_81 : decode cX8_readHerd 81 = .ok (.iadd, 1) := by decide +kernel
theorem dX8_readHerd_82 : decode cX8_readHerd 82 = .ok (.putfield 92, 3) := by decide +kernel
theorem dX8_readHerd_85 : decode cX8_readHerd 85 = .ok (.return_, 1) := by decide +kernel
theorem dX8_readIron_0 : decode cX8_readIron 0 = .ok (.aload_n 0, 1) := by decide +kernel
theorem dX8_readIron_1 : decode cX8_readIron 1 = .ok (.aload_n 0, 1) := by decide +kernel
theorem dX8_readIron_2 : decode cX8_readIron 2 = .ok (.getfield 15, 3) := by decide +kernel
theorem dX8_readIron_5 : decode cX8_readIron 5 = .ok (.getfield 110, 3) := by decide +kernel
theorem dX8_readIron_8 : decode cX8_readIron 8 = .ok (.bipush 6, 2) := by decide +kernel
theorem dX8_readIron_10 : decode cX8_readIron 10 = .ok (.if_icmp .ge 7, 3) := by decide +kernel
theorem dX8_readIron_13 : decode cX8_readIron 13 = .ok (.iconst 1, 1) := by decide +kernel
theorem dX8_readIron_14 : decode cX8_readIron 14 = .ok (.goto 4, 3) := by decide +kernel
theorem dX8_readIron_17 : decode cX8_readIron 17 = .ok (.iconst 0, 1) := by decide +kernel
theorem dX8_readIron_18 : decode cX8_readIron 18 = .ok (.invokevirtual 79, 3) := by decide +kernel
theorem dX8_readIron_21 : decode cX8_readIron 21 = .ok (.aload_n 0, 1) := by decide +kernel
theorem dX8_readIron_22 : decode cX8_readIron 22 = .ok (.aload_n 0, 1) := by decide +kernel
theorem dX8_readIron_23 : decode cX8_readIron 23 = .ok (.getfield 15, 3) := by decide +kernel
theorem dX8_readIron_26 : decode cX8_readIron 26 = .ok (.getfield 113, 3) := by decide +kernel
theorem dX8_readIron_29 : decode cX8_readIron 29 = .ok (.aload_n 0, 1) := by decide +kernel
theorem dX8_readIron_30 : decode cX8_readIron 30 = .ok (.getfield 15, 3) := by decide +kernel
theorem dX8_readIron_33 : decode cX8_readIron 33 = .ok (.getfield 110, 3) := by decide +kernel
theorem dX8_readIron_36 : decode cX8_readIron 36 = .ok (.invokevirtual 99, 3) := by decide +kernel
theorem dX8_readIron_39 : decode cX8_readIron 39 = .ok (.aload_n 0, 1) := by decide +kernel
theorem dX8_readIron_40 : decode cX8_readIron 40 = .ok (.invokevirtual 103, 3) := by decide +kernel
theorem dX8_readIron_43 : decode cX8_readIron 43 = .ok (.istore_n 1, 1) := by decide +kernel
theorem dX8_readIron_44 : decode cX8_readIron 44 = .ok (.aload_n 0, 1) := by decide +kernel
theorem dX8_readIron_45 : decode cX8_readIron 45 = .ok (.getfield 15, 3) := by decide +kernel
theorem dX8_readIron_48 : decode cX8_readIron 48 = .ok (.getfield 110, 3) := by decide +kernel
theorem dX8_readIron_51 : decode cX8_readIron 51 = .ok (.bipush 6, 2) := by decide +kernel
theorem dX8_readIron_53 : decode cX8_readIron 53 = .ok (.if_icmp .ge 32, 3) := by decide +kernel
theorem dX8_readIron_56 : decode cX8_readIron 56 = .ok (.aload_n 0, 1) := by decide +kernel
theorem dX8_readIron_57 : decode cX8_readIron 57 = .ok (.getfield 15, 3) := by decide +kernel
theorem dX8_readIron_60 : decode cX8_readIron 60 = .ok (.getfield 116, 3) := by decide +kernel
theorem dX8_readIron_63 : decode cX8_readIron 63 = .ok (.aload_n 0, 1) := by decide +kernel
theorem dX8_readIron_64 : decode cX8_readIron 64 = .ok (.getfield 15, 3) := by decide +kernel
theorem dX8_readIron_67 : decode cX8_readIron 67 = .ok (.getfield 110, 3) := by decide +kernel
theorem dX8_readIron_70 : decode cX8_readIron 70 = .ok (.iload_n 1, 1) := by decide +kernel
theorem dX8_readIron_71 : decode cX8_readIron 71 = .ok (.iastore, 1) := by decide +kernel
theorem dX8_readIron_72 : decode cX8_readIron 72 = .ok (.aload_n 0, 1) := by decide +kernel
theorem dX8_readIron_73 : decode cX8_readIron 73 = .ok (.getfield 15, 3) := by decide +kernel
theorem dX8_readIron_76 : decode cX8_readIron 76 = .ok (.dup, 1) := by decide +kernel
theorem dX8_readIron_77 : decode cX8_readIron 77 = .ok (.getfield 110, 3) := by decide +kernel
theorem dX8_readIron_80 : decode cX8_readIron 80 = .ok (.iconst 1, 1) := by decide +kernel
theorem dX8_readIron_81 : decode cX8_readIron 81 = .ok (.iadd, 1) := by decide +kernel
theorem dX8_readIron_82 : decode cX8_readIron 82 = .ok (.putfield 110, 3) := by decide +kernel
theorem dX8_readIron_85 : decode cX8_readIron 85 = .ok (.return_, 1) := by decide +kernel
theorem dX8_readBeast_0 : decode cX8_readBeast 0 = .ok (.aload_n 0, 1) := by decide +kernel
theorem dX8_readBeast_1 : decode cX8_readBeast 1 = .ok (.aload_n 0, 1) := by decide +kernel
theorem dX8_readBeast_2 : decode cX8_readBeast 2 = .ok (.getfield 15, 3) := by decide +kernel
theorem dX8_readBeast_5 : decode cX8_readBeast 5 = .ok (.getfield 119, 3) := by decide +kernel
theorem dX8_readBeast_8 : decode cX8_readBeast 8 = .ok (.bipush 8, 2) := by decide +kernel
theorem dX8_readBeast_10 : decode cX8_readBeast 10 = .ok (.if_icmp .ge 7, 3) := by decide +kernel
theorem dX8_readBeast_13 : decode cX8_readBeast 13 = .ok (.iconst 1, 1) := by decide +kernel
theorem dX8_readBeast_14 : decode cX8_readBeast 14 = .ok (.goto 4, 3) := by decide +kernel
theorem dX8_readBeast_17 : decode cX8_readBeast 17 = .ok (.iconst 0, 1) := by decide +kernel
theorem dX8_readBeast_18 : decode cX8_readBeast 18 = .ok (.invokevirtual 79, 3) := by decide +kernel
theorem dX8_readBeast_21 : decode cX8_readBeast 21 = .ok (.aload_n 0, 1) := by decide +kernel
theorem dX8_readBeast_22 : decode cX8_readBeast 22 = .ok (.aload_n 0, 1) := by decide +kernel
theorem dX8_readBeast_23 : decode cX8_readBeast 23 = .ok (.getfield 15, 3) := by decide +kernel
theorem dX8_readBeast_26 : decode cX8_readBeast 26 = .ok (.getfield 122, 3) := by decide +kernel
theorem dX8_readBeast_29 : decode cX8_readBeast 29 = .ok (.aload_n 0, 1) := by decide +kernel
theorem dX8_readBeast_30 : decode cX8_readBeast 30 = .ok (.getfield 15, 3) := by decide +kernel
theorem dX8_readBeast_33 : decode cX8_readBeast 33 = .ok (.getfield 119, 3) := by decide +kernel
theorem dX8_readBeast_36 : decode cX8_readBeast 36 = .ok (.invokevirtual 99, 3) := by decide +kernel
theorem dX8_readBeast_39 : decode cX8_readBeast 39 = .ok (.aload_n 0, 1) := by decide +kernel
theorem dX8_readBeast_40 : decode cX8_readBeast 40 = .ok (.getfield 9, 3) := by decide +kernel
theorem dX8_readBeast_43 : decode cX8_readBeast 43 = .ok (.sipush 137, 3) := by decide +kernel
theorem dX8_readBeast_46 : decode cX8_readBeast 46 = .ok (.invokevirtual 70, 3) := by decide +kernel
theorem dX8_readBeast_49 : decode cX8_readBeast 49 = .ok (.aload_n 0, 1) := by decide +kernel
theorem dX8_readBeast_50 : decode cX8_readBeast 50 = .ok (.invokevirtual 125, 3) := by decide +kernel
theorem dX8_readBeast_53 : decode cX8_readBeast 53 = .ok (.istore_n 1, 1) := by decide +kernel
theorem dX8_readBeast_54 : decode cX8_readBeast 54 = .ok (.iconst 0, 1) := by decide +kernel
theorem dX8_readBeast_55 : decode cX8_readBeast 55 = .ok (.istore_n 2, 1) := by decide +kernel
theorem dX8_readBeast_56 : decode cX8_readBeast 56 = .ok (.aload_n 0, 1) := by decide +kernel
theorem dX8_readBeast_57 : decode cX8_readBeast 57 = .ok (.getfield 9, 3) := by decide +kernel
theorem dX8_readBeast_60 : decode cX8_readBeast 60 = .ok (.invokevirtual 29, 3) := by decide +kernel
theorem dX8_readBeast_63 : decode cX8_readBeast 63 = .ok (.sipush 144, 3) := by decide +kernel
theorem dX8_readBeast_66 : decode cX8_readBeast 66 = .ok (.if_icmp .ne 17, 3) := by decide +kernel
theorem dX8_readBeast_69 : decode cX8_readBeast 69 = .ok (.aload_n 0, 1) := by decide +kernel
theorem dX8_readBeast_70 : decode cX8_readBeast 70 = .ok (.getfield 9, 3) := by decide +kernel
theorem dX8_readBeast_73 : decode cX8_readBeast 73 = .ok (.invokevirtual 83, 3) := by decide +kernel
theorem dX8_readBeast_76 : decode cX8_readBeast 76 = .ok (.aload_n 0, 1) := by decide +kernel
theorem dX8_readBeast_77 : decode cX8_readBeast 77 = .ok (.bipush 99, 2) := by decide +kernel
theorem dX8_readBeast_79 : decode cX8_readBeast 79 = .ok (.invokevirtual 56, 3) := by decide +kernel
theorem dX8_readBeast_82 : decode cX8_readBeast 82 = .ok (.istore_n 2, 1) := by decide +kernel
theorem dX8_readBeast_83 : decode cX8_readBeast 83 = .ok (.aload_n 0, 1) := by decide +kernel
theorem dX8_readBeast_84 : decode cX8_readBeast 84 = .ok (.getfield 15, 3) := by decide +kernel
theorem dX8_readBeast_87 : decode cX8_readBeast 87 = .ok (.getfield 119, 3) := by decide +kernel
theorem dX8_readBeast_90 : decode cX8_readBeast 90 = .ok (.bipush 8, 2) := by decide +kernel
theorem dX8_readBeast_92 : decode cX8_readBeast 92 = .ok (.if_icmp .ge 48, 3) := by decide +kernel
theorem dX8_readBeast_95 : decode cX8_readBeast 95 = .ok (.aload_n 0, 1) := by decide +kernel
theorem dX8_readBeast_96 : decode cX8_readBeast 96 = .ok (.getfield 15, 3) := by decide +kernel
theorem dX8_readBeast_99 : decode cX8_readBeast 99 = .ok (.getfield 128, 3) := by decide +kernel
theorem dX8_readBeast_102 : decode cX8_readBeast 102 = .ok (.aload_n 0, 1) := by decide +kernel
theorem dX8_readBeast_103 : decode cX8_readBeast 103 = .ok (.getfield 15, 3) := by decide +kernel
theorem dX8_readBeast_106 : decode cX8_readBeast 106 = .ok (.getfield 119, 3) := by decide +kernel
theorem dX8_readBeast_109 : decode cX8_readBeast 109 = .ok (.iload_n 1, 1) := by decide +kernel
theorem dX8_readBeast_110 : decode cX8_readBeast 110 = .ok (.iastore, 1) := by decide +kernel
theorem dX8_readBeast_111 : decode cX8_readBeast 111 = .ok (.aload_n 0, 1) := by decide +kernel
theorem dX8_readBeast_112 : decode cX8_readBeast 112 = .ok (.getfield 15, 3) := by decide +kernel
theorem dX8_readBeast_115 : decode cX8_readBeast 115 = .ok (.getfield 131, 3) := by decide +kernel
theorem dX8_readBeast_118 : decode cX8_readBeast 118 = .ok (.aload_n 0, 1) := by decide +kernel
theorem dX8_readBeast_119 : decode cX8_readBeast 119 = .ok (.getfield 15, 3) := by decide +kernel
theorem dX8_readBeast_122 : decode cX8_readBeast 122 = .ok (.getfield 119, 3) := by decide +kernel
theorem dX8_readBeast_125 : decode cX8_readBeast 125 = .ok (.iload_n 2, 1) := by decide +kernel
theorem dX8_readBeast_126 : decode cX8_readBeast 126 = .ok (.iastore, 1) := by decide +kernel
theorem dX8_readBeast_127 : decode cX8_readBeast 127 = .ok (.aload_n 0, 1) := by decide +kernel
theorem dX8_readBeast_128 : decode cX8_readBeast 128 = .ok (.getfield 15, 3) := by decide +kernel
theorem dX8_readBeast_131 : decode cX8_readBeast 131 = .ok (.dup, 1) := by decide +kernel
theorem dX8_readBeast_132 : decode cX8_readBeast 132 = .ok (.getfield 119, 3) := by decide +kernel
theorem dX8_readBeast_135 : decode cX8_readBeast 135 = .ok (.iconst 1, 1) := by decide +kernel
theorem dX8_readBeast_136 : decode cX8_readBeast 136 = .ok (.iadd, 1) := by decide +kernel
theorem dX8_readBeast_137 : decode cX8_readBeast 137 = .ok (.putfield 119, 3) := by decide +kernel
theorem dX8_readBeast_140 : decode cX8_readBeast 140 = .ok (.return_, 1) := by decide +kernel
theorem dX8_takeNewName_0 : decode cX8_takeNewName 0 = .ok (.aload_n 0, 1) := by decide +kernel
theorem dX8_takeNewName_1 : decode cX8_takeNewName 1 = .ok (.getfield 9, 3) := by decide +kernel
theorem dX8_takeNewName_4 : decode cX8_takeNewName 4 = .ok (.invokevirtual 29, 3) := by decide +kernel
theorem dX8_takeNewName_7 : decode cX8_takeNewName 7 = .ok (.sipush 200, 3) := by decide +kernel
theorem dX8_takeNewName_10 : decode cX8_takeNewName 10 = .ok (.if_icmp .eq 12, 3) := by decide +kernel
theorem dX8_takeNewName_13 : decode cX8_takeNewName 13 = .ok (.aload_n 0, 1) := by decide +kernel
theorem dX8_takeNewName_14 : decode cX8_takeNewName 14 = .ok (.getfield 9, 3) := by decide +kernel
theorem dX8_takeNewName_17 : decode cX8_takeNewName 17 = .ok (.iconst 2, 1) := by decide +kernel
theorem dX8_takeNewName_18 : decode cX8_takeNewName 18 = .ok (.invokevirtual 67, 3) := by decide +kernel
theorem dX8_takeNewName_21 : decode cX8_takeNewName 21 = .ok (.return_, 1) := by decide +kernel
theorem dX8_takeNewName_22 : decode cX8_takeNewName 22 = .ok (.aload_n 0, 1) := by decide +kernel
theorem dX8_takeNewName_23 : decode cX8_takeNewName 23 = .ok (.aload_n 1, 1) := by decide +kernel
theorem dX8_takeNewName_24 : decode cX8_takeNewName 24 = .ok (.iload_n 2, 1) := by decide +kernel
