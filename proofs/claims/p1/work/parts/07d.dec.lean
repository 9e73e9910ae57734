theorem dX11_tells_11 : decode cX11_tells 11 = .ok (.invokevirtual 305, 3) := by decide +kernel
theorem dX11_tells_14 : decode cX11_tells 14 = .ok (.ireturn, 1) := by decide +kernel
theorem dX11_tempt_0 : decode cX11_tempt 0 = .ok (.aload_n 0, 1) := by decide +kernel
theorem dX11_tempt_1 : decode cX11_tempt 1 = .ok (.iload_n 1, 1) := by decide +kernel
theorem dX11_tempt_2 : decode cX11_tempt 2 = .ok (.invokevirtual 155, 3) := by decide +kernel
theorem dX11_tempt_5 : decode cX11_tempt 5 = .ok (.ifCond .eq 10, 3) := by decide +kernel
theorem dX11_tempt_15 : decode cX11_tempt 15 = .ok (.iconst (-1), 1) := by decide +kernel
theorem dX11_tempt_16 : decode cX11_tempt 16 = .ok (.ireturn, 1) := by decide +kernel
theorem dX11_twins_0 : decode cX11_twins 0 = .ok (.aload_n 0, 1) := by decide +kernel
theorem dX11_twins_1 : decode cX11_twins 1 = .ok (.getfield 71, 3) := by decide +kernel
theorem dX11_twins_4 : decode cX11_twins 4 = .ok (.invokevirtual 298, 3) := by decide +kernel
theorem dX11_twins_7 : decode cX11_twins 7 = .ok (.ireturn, 1) := by decide +kernel
theorem dX11_under_0 : decode cX11_under 0 = .ok (.iload_n 1, 1) := by decide +kernel
theorem dX11_under_1 : decode cX11_under 1 = .ok (.invokestatic 193, 3) := by decide +kernel
theorem dX11_under_4 : decode cX11_under 4 = .ok (.ifCond .eq 10, 3) := by decide +kernel
theorem dX11_under_7 : decode cX11_under 7 = .ok (.iload_n 2, 1) := by decide +kernel
theorem dX11_under_8 : decode cX11_under 8 = .ok (.invokestatic 193, 3) := by decide +kernel
theorem dX11_under_11 : decode cX11_under 11 = .ok (.ifCond .ne 5, 3) := by decide +kernel
theorem dX11_under_14 : decode cX11_under 14 = .ok (.iconst (-1), 1) := by decide +kernel
theorem dX11_under_15 : decode cX11_under 15 = .ok (.ireturn, 1) := by decide +kernel
theorem dX11_under_16 : decode cX11_under 16 = .ok (.aload_n 0, 1) := by decide +kernel
theorem dX11_under_17 : decode cX11_under 17 = .ok (.getfield 46, 3) := by decide +kernel
theorem dX11_under_20 : decode cX11_under 20 = .ok (.iload_n 1, 1) := by decide +kernel
theorem dX11_under_21 : decode cX11_under 21 = .ok (.iload_n 2, 1) := by decide +kernel
theorem dX11_under_22 : decode cX11_under 22 = .ok (.invokevirtual 202, 3) := by decide +kernel
theorem dX11_under_25 : decode cX11_under 25 = .ok (.ifCond .eq 7, 3) := by decide +kernel
theorem dX11_under_28 : decode cX11_under 28 = .ok (.iconst 1, 1) := by decide +kernel
theorem dX11_under_29 : decode cX11_under 29 = .ok (.goto 4, 3) := by decide +kernel
theorem dX11_under_32 : decode cX11_under 32 = .ok (.iconst 0, 1) := by decide +kernel
theorem dX11_under_33 : decode cX11_under 33 = .ok (.ireturn, 1) := by decide +kernel
theorem dX11_undo_0 : decode cX11_undo 0 = .ok (.aload_n 0, 1) := by decide +kernel
theorem dX11_undo_1 : decode cX11_undo 1 = .ok (.getfield 62, 3) := by decide +kernel
theorem dX11_undo_4 : decode cX11_undo 4 = .ok (.invokevirtual 232, 3) := by decide +kernel
theorem dX11_undo_7 : decode cX11_undo 7 = .ok (.ireturn, 1) := by decide +kernel
theorem dX11_untell_0 : decode cX11_untell 0 = .ok (.aload_n 0, 1) := by decide +kernel
theorem dX11_untell_1 : decode cX11_untell 1 = .ok (.getfield 87, 3) := by decide +kernel
theorem dX11_untell_4 : decode cX11_untell 4 = .ok (.iload_n 1, 1) := by decide +kernel
theorem dX11_untell_5 : decode cX11_untell 5 = .ok (.invokevirtual 348, 3) := by decide +kernel
theorem dX11_untell_8 : decode cX11_untell 8 = .ok (.ireturn, 1) := by decide +kernel
theorem dX11_untouched_0 : decode cX11_untouched 0 = .ok (.aload_n 0, 1) := by decide +kernel
theorem dX11_untouched_1 : decode cX11_untouched 1 = .ok (.getfield 78, 3) := by decide +kernel
theorem dX11_untouched_4 : decode cX11_untouched 4 = .ok (.aload_n 0, 1) := by decide +kernel
theorem dX11_untouched_5 : decode cX11_untouched 5 = .ok (.getfield 62, 3) := by decide +kernel
theorem dX11_untouched_8 : decode cX11_untouched 8 = .ok (.invokevirtual 158, 3) := by decide +kernel
theorem dX11_untouched_11 : decode cX11_untouched 11 = .ok (.invokevirtual 301, 3) := by decide +kernel
theorem dX11_untouched_14 : decode cX11_untouched 14 = .ok (.ireturn, 1) := by decide +kernel
theorem dX11_useful_0 : decode cX11_useful 0 = .ok (.aload_n 0, 1) := by decide +kernel
theorem dX11_useful_1 : decode cX11_useful 1 = .ok (.getfield 71, 3) := by decide +kernel
theorem dX11_useful_4 : decode cX11_useful 4 = .ok (.invokevirtual 283, 3) := by decide +kernel
theorem dX11_useful_7 : decode cX11_useful 7 = .ok (.ireturn, 1) := by decide +kernel
theorem dX11_valley_0 : decode cX11_valley 0 = .ok (.aload_n 0, 1) := by decide +kernel
theorem dX11_valley_1 : decode cX11_valley 1 = .ok (.getfield 39, 3) := by decide +kernel
theorem dX11_valley_4 : decode cX11_valley 4 = .ok (.invokevirtual 102, 3) := by decide +kernel
theorem dX11_valley_7 : decode cX11_valley 7 = .ok (.ifCond .ne 5, 3) := by decide +kernel
theorem dX11_valley_12 : decode cX11_valley 12 = .ok (.aload_n 0, 1) := by decide +kernel
theorem dX11_valley_13 : decode cX11_valley 13 = .ok (.getfield 20, 3) := by decide +kernel
theorem dX11_valley_16 : decode cX11_valley 16 = .ok (.iconst 0, 1) := by decide +kernel
theorem dX11_valley_17 : decode cX11_valley 17 = .ok (.invokevirtual 99, 3) := by decide +kernel
theorem dX11_valley_20 : decode cX11_valley 20 = .ok (.aload_n 0, 1) := by decide +kernel
theorem dX11_valley_21 : decode cX11_valley 21 = .ok (.getfield 27, 3) := by decide +kernel
theorem dX11_valley_24 : decode cX11_valley 24 = .ok (.aload_n 0, 1) := by decide +kernel
theorem dX11_valley_25 : decode cX11_valley 25 = .ok (.getfield 31, 3) := by decide +kernel
theorem dX11_valley_28 : decode cX11_valley 28 = .ok (.invokevirtual 106, 3) := by decide +kernel
theorem dX11_valley_31 : decode cX11_valley 31 = .ok (.aload_n 0, 1) := by decide +kernel
theorem dX11_valley_32 : decode cX11_valley 32 = .ok (.getfield 46, 3) := by decide +kernel
theorem dX11_valley_35 : decode cX11_valley 35 = .ok (.aload_n 0, 1) := by decide +kernel
theorem dX11_valley_36 : decode cX11_valley 36 = .ok (.getfield 27, 3) := by decide +kernel
theorem dX11_valley_39 : decode cX11_valley 39 = .ok (.getfield 110, 3) := by decide +kernel
theorem dX11_valley_42 : decode cX11_valley 42 = .ok (.aload_n 0, 1) := by decide +kernel
theorem dX11_valley_43 : decode cX11_valley 43 = .ok (.getfield 27, 3) := by decide +kernel
theorem dX11_valley_46 : decode cX11_valley 46 = .ok (.getfield 113, 3) := by decide +kernel
theorem dX11_valley_49 : decode cX11_valley 49 = .ok (.invokevirtual 117, 3) := by decide +kernel
theorem dX11_valley_52 : decode cX11_valley 52 = .ok (.aload_n 0, 1) := by decide +kernel
theorem dX11_valley_53 : decode cX11_valley 53 = .ok (.getfield 55, 3) := by decide +kernel
theorem dX11_valley_56 : decode cX11_valley 56 = .ok (.aload_n 0, 1) := by decide +kernel
theorem dX11_valley_57 : decode cX11_valley 57 = .ok (.getfield 27, 3) := by decide +kernel
theorem dX11_valley_60 : decode cX11_valley 60 = .ok (.invokevirtual 121, 3) := by decide +kernel
theorem dX11_valley_63 : decode cX11_valley 63 = .ok (.aload_n 0, 1) := by decide +kernel
theorem dX11_valley_64 : decode cX11_valley 64 = .ok (.getfield 71, 3) := by decide +kernel
theorem dX11_valley_67 : decode cX11_valley 67 = .ok (.invokevirtual 124, 3) := by decide +kernel
theorem dX11_valley_70 : decode cX11_valley 70 = .ok (.aload_n 0, 1) := by decide +kernel
theorem dX11_valley_71 : decode cX11_valley 71 = .ok (.getfield 62, 3) := by decide +kernel
theorem dX11_valley_74 : decode cX11_valley 74 = .ok (.aload_n 0, 1) := by decide +kernel
theorem dX11_valley_75 : decode cX11_valley 75 = .ok (.getfield 27, 3) := by decide +kernel
theorem dX11_valley_78 : decode cX11_valley 78 = .ok (.invokevirtual 127, 3) := by decide +kernel
theorem dX11_valley_81 : decode cX11_valley 81 = .ok (.aload_n 0, 1) := by decide +kernel
theorem dX11_valley_82 : decode cX11_valley 82 = .ok (.getfield 87, 3) := by decide +kernel
theorem dX11_valley_85 : decode cX11_valley 85 = .ok (.invokevirtual 130, 3) := by decide +kernel
theorem dX11_valley_88 : decode cX11_valley 88 = .ok (.aload_n 0, 1) := by decide +kernel
theorem dX11_valley_89 : decode cX11_valley 89 = .ok (.iconst 0, 1) := by decide +kernel
theorem dX11_valley_90 : decode cX11_valley 90 = .ok (.putfield 13, 3) := by decide +kernel
theorem dX11_valley_93 : decode cX11_valley 93 = .ok (.aload_n 0, 1) := by decide +kernel
theorem dX11_valley_94 : decode cX11_valley 94 = .ok (.getfield 27, 3) := by decide +kernel
theorem dX11_valley_97 : decode cX11_valley 97 = .ok (.getfield 133, 3) := by decide +kernel
theorem dX11_valley_100 : decode cX11_valley 100 = .ok (.ireturn, 1) := by decide +kernel
theorem dX11_will_0 : decode cX11_will 0 = .ok (.iload_n 1, 1) := by decide +kernel
theorem dX11_will_1 : decode cX11_will 1 = .ok (.ifCond .lt 27, 3) := by decide +kernel
theorem dX11_will_4 : decode cX11_will 4 = .ok (.iload_n 1, 1) := by decide +kernel
theorem dX11_will_5 : decode cX11_will 5 = .ok (.bipush 60, 2) := by decide +kernel
theorem dX11_will_7 : decode cX11_will 7 = .ok (.if_icmp .gt 21, 3) := by decide +kernel
theorem dX11_will_10 : decode cX11_will 10 = .ok (.aload_n 0, 1) := by decide +kernel
theorem dX11_will_11 : decode cX11_will 11 = .ok (.getfield 78, 3) := by decide +kernel
theorem dX11_will_14 : decode cX11_will 14 = .ok (.aload_n 0, 1) := by decide +kernel
theorem dX11_will_15 : decode cX11_will 15 = .ok (.getfield 62, 3) := by decide +kernel
theorem dX11_will_18 : decode cX11_will 18 = .ok (.invokevirtual 158, 3) := by decide +kernel
theorem dX11_will_21 : decode cX11_will 21 = .ok (.iload_n 1, 1) := by decide +kernel
theorem dX11_will_22 : decode cX11_will 22 = .ok (.invokevirtual 329, 3) := by decide +kernel
theorem dX11_will_25 : decode cX11_will 25 = .ok (.goto 4, 3) := by decide +kernel
theorem dX11_will_28 : decode cX11_will 28 = .ok (.iconst (-1), 1) := by decide +kernel
theorem dX11_will_29 : decode cX11_will 29 = .ok (.ireturn, 1) := by decide +kernel
theorem dX11_withoutCommon_0 : decode cX11_withoutCommon 0 = .ok (.bipush 100, 2) := by decide +kernel
theorem dX11_withoutCommon_2 : decode cX11_withoutCommon 2 = .ok (.istore_n 2, 1) := by decide +kernel
theorem dX11_withoutCommon_3 : decode cX11_withoutCommon 3 = .ok (.iload_n 2, 1) := by decide +kernel
theorem dX11_withoutCommon_4 : decode cX11_withoutCommon 4 = .ok (.iconst 1, 1) := by decide +kernel
theorem dX11_withoutCommon_5 : decode cX11_withoutCommon 5 = .ok (.if_icmp .le 26, 3) := by decide +kernel
theorem dX11_withoutCommon_8 : decode cX11_withoutCommon 8 = .ok (.iload_n 1, 1) := by decide +kernel
theorem dX11_withoutCommon_9 : decode cX11_withoutCommon 9 = .ok (.iload_n 2, 1) := by decide +kernel
theorem dX11_withoutCommon_10 : decode cX11_withoutCommon 10 = .ok (.irem, 1) := by decide +kernel
theorem dX11_withoutCommon_11 : decode cX11_withoutCommon 11 = .ok (.ifCond .ne 14, 3) := by decide +kernel
theorem dX11_withoutCommon_14 : decode cX11_withoutCommon 14 = .ok (.bipush 100, 2) := by decide +kernel
theorem dX11_withoutCommon_16 : decode cX11_withoutCommon 16 = .ok (.iload_n 2, 1) := by decide +kernel
theorem dX11_withoutCommon_17 : decode cX11_withoutCommon 17 = .ok (.irem, 1) := by decide +kernel
theorem dX11_withoutCommon_18 : decode cX11_withoutCommon 18 = .ok (.ifCond .ne 7, 3) := by decide +kernel
theorem dX11_withoutCommon_21 : decode cX11_withoutCommon 21 = .ok (.iload_n 0, 1) := by decide +kernel
theorem dX11_withoutCommon_22 : decode cX11_withoutCommon 22 = .ok (.iload_n 2, 1) := by decide +kernel
theorem dX11_withoutCommon_23 : decode cX11_withoutCommon 23 = .ok (.idiv, 1) := by decide +kernel
theorem dX11_withoutCommon_24 : decode cX11_withoutCommon 24 = .ok (.ireturn, 1) := by decide +kernel
theorem dX12_about_0 : decode cX12_about 0 = .ok (.iload_n 1, 1) := by decide +kernel
theorem dX12_about_1 : decode cX12_about 1 = .ok (.tableswitch 171 0 14 #[75, 80, 85, 90, 95, 103, 111, 116, 121, 126, 131, 136, 146, 151, 161], 75) := by decide +kernel
theorem dX12_about_76 : decode cX12_about 76 = .ok (.aload_n 0, 1) := by decide +kernel
theorem dX12_about_77 : decode cX12_about 77 = .ok (.invokevirtual 367, 3) := by decide +kernel
theorem dX12_about_80 : decode cX12_about 80 = .ok (.ireturn, 1) := by decide +kernel
theorem dX12_about_81 : decode cX12_about 81 = .ok (.aload_n 0, 1) := by decide +kernel
theorem dX12_about_82 : decode cX12_about 82 = .ok (.invokevirtual 374, 3) := by decide +kernel
theorem dX12_about_85 : decode cX12_about 85 = .ok (.ireturn, 1) := by decide +kernel
theorem dX12_about_86 : decode cX12_about 86 = .ok (.aload_n 0, 1) := by decide +kernel
theorem dX12_about_87 : decode cX12_about 87 = .ok (.invokevirtual 377, 3) := by decide +kernel
theorem dX12_about_90 : decode cX12_about 90 = .ok (.ireturn, 1) := by decide +kernel
theorem dX12_about_91 : decode cX12_about 91 = .ok (.aload_n 0, 1) := by decide +kernel
theorem dX12_about_92 : decode cX12_about 92 = .ok (.invokevirtual 358, 3) := by decide +kernel
theorem dX12_about_95 : decode cX12_about 95 = .ok (.ireturn, 1) := by decide +kernel
theorem dX12_about_96 : decode cX12_about 96 = .ok (.aload_n 0, 1) := by decide +kernel
theorem dX12_about_97 : decode cX12_about 97 = .ok (.getfield 88, 3) := by decide +kernel
theorem dX12_about_100 : decode cX12_about 100 = .ok (.bipush 112, 2) := by decide +kernel
theorem dX12_about_102 : decode cX12_about 102 = .ok (.iaload, 1) := by decide +kernel
theorem dX12_about_103 : decode cX12_about 103 = .ok (.ireturn, 1) := by decide +kernel
theorem dX12_about_104 : decode cX12_about 104 = .ok (.aload_n 0, 1) := by decide +kernel
theorem dX12_about_105 : decode cX12_about 105 = .ok (.getfield 88, 3) := by decide +kernel
theorem dX12_about_108 : decode cX12_about 108 = .ok (.bipush 113, 2) := by decide +kernel
theorem dX12_about_110 : decode cX12_about 110 = .ok (.iaload, 1) := by decide +kernel
theorem dX12_about_111 : decode cX12_about 111 = .ok (.ireturn, 1) := by decide +kernel
theorem dX12_about_112 : decode cX12_about 112 = .ok (.aload_n 0, 1) := by decide +kernel
theorem dX12_about_113 : decode cX12_about 113 = .ok (.getfield 392, 3) := by decide +kernel
theorem dX12_about_116 : decode cX12_about 116 = .ok (.ireturn, 1) := by decide +kernel
theorem dX12_about_117 : decode cX12_about 117 = .ok (.aload_n 0, 1) := by decide +kernel
theorem dX12_about_118 : decode cX12_about 118 = .ok (.getfield 395, 3) := by decide +kernel
theorem dX12_about_121 : decode cX12_about 121 = .ok (.ireturn, 1) := by decide +kernel
theorem dX12_about_122 : decode cX12_about 122 = .ok (.aload_n 0, 1) := by decide +kernel
theorem dX12_about_123 : decode cX12_about 123 = .ok (.getfield 398, 3) := by decide +kernel
theorem dX12_about_126 : decode cX12_about 126 = .ok (.ireturn, 1) := by decide +kernel
theorem dX12_about_127 : decode cX12_about 127 = .ok (.aload_n 0, 1) := by decide +kernel
theorem dX12_about_128 : decode cX12_about 128 = .ok (.getfield 478, 3) := by decide +kernel
theorem dX12_about_131 : decode cX12_about 131 = .ok (.ireturn, 1) := by decide +kernel
theorem dX12_about_132 : decode cX12_about 132 = .ok (.aload_n 0, 1) := by decide +kernel
theorem dX12_about_133 : decode cX12_about 133 = .ok (.getfield 247, 3) := by decide +kernel
theorem dX12_about_136 : decode cX12_about 136 = .ok (.ireturn, 1) := by decide +kernel
theorem dX12_about_137 : decode cX12_about 137 = .ok (.aload_n 0, 1) := by decide +kernel
theorem dX12_about_138 : decode cX12_about 138 = .ok (.getfield 33, 3) := by decide +kernel
theorem dX12_about_141 : decode cX12_about 141 = .ok (.aload_n 0, 1) := by decide +kernel
theorem dX12_about_142 : decode cX12_about 142 = .ok (.getfield 250, 3) := by decide +kernel
theorem dX12_about_145 : decode cX12_about 145 = .ok (.iaload, 1) := by decide +kernel
theorem dX12_about_146 : decode cX12_about 146 = .ok (.ireturn, 1) := by decide +kernel
theorem dX12_about_147 : decode cX12_about 147 = .ok (.aload_n 0, 1) := by decide +kernel
theorem dX12_about_148 : decode cX12_about 148 = .ok (.getfield 401, 3) := by decide +kernel
theorem dX12_about_151 : decode cX12_about 151 = .ok (.ireturn, 1) := by decide +kernel
theorem dX12_about_152 : decode cX12_about 152 = .ok (.aload_n 0, 1) := by decide +kernel
theorem dX12_about_153 : decode cX12_about 153 = .ok (.getfield 36, 3) := by decide +kernel
theorem dX12_about_156 : decode cX12_about 156 = .ok (.aload_n 0, 1) := by decide +kernel
theorem dX12_about_157 : decode cX12_about 157 = .ok (.getfield 250, 3) := by decide +kernel
theorem dX12_about_160 : decode cX12_about 160 = .ok (.iaload, 1) := by decide +kernel
theorem dX12_about_161 : decode cX12_about 161 = .ok (.ireturn, 1) := by decide +kernel
theorem dX12_about_162 : decode cX12_about 162 = .ok (.aload_n 0, 1) := by decide +kernel
theorem dX12_about_163 : decode cX12_about 163 = .ok (.getfield 20, 3) := by decide +kernel
theorem dX12_about_166 : decode cX12_about 166 = .ok (.aload_n 0, 1) := by decide +kernel
theorem dX12_about_167 : decode cX12_about 167 = .ok (.getfield 250, 3) := by decide +kernel
theorem dX12_about_170 : decode cX12_about 170 = .ok (.iaload, 1) := by decide +kernel
theorem dX12_about_171 : decode cX12_about 171 = .ok (.ireturn, 1) := by decide +kernel
theorem dX12_about_172 : decode cX12_about 172 = .ok (.iconst (-1), 1) := by decide +kernel
theorem dX12_about_173 : decode cX12_about 173 = .ok (.ireturn, 1) := by decide +kernel
theorem dX12_age_0 : decode cX12_age 0 = .ok (.aload_n 0, 1) := by decide +kernel
theorem dX12_age_1 : decode cX12_age 1 = .ok (.iload_n 1, 1) := by decide +kernel
theorem dX12_age_2 : decode cX12_age 2 = .ok (.invokevirtual 420, 3) := by decide +kernel
theorem dX12_age_5 : decode cX12_age 5 = .ok (.ifCond .eq 42, 3) := by decide +kernel
theorem dX12_age_47 : decode cX12_age 47 = .ok (.iconst (-1), 1) := by decide +kernel
theorem dX12_age_48 : decode cX12_age 48 = .ok (.ireturn, 1) := by decide +kernel
theorem dX12_ask_0 : decode cX12_ask 0 = .ok (.iload_n 1, 1) := by decide +kernel
theorem dX12_ask_1 : decode cX12_ask 1 = .ok (.iconst 0, 1) := by decide +kernel
theorem dX12_ask_2 : decode cX12_ask 2 = .ok (.iconst 1, 1) := by decide +kernel
theorem dX12_ask_3 : decode cX12_ask 3 = .ok (.invokestatic 370, 3) := by decide +kernel
theorem dX12_ask_6 : decode cX12_ask 6 = .ok (.ifCond .ne 5, 3) := by decide +kernel
theorem dX12_ask_9 : decode cX12_ask 9 = .ok (.iconst (-1), 1) := by decide +kernel
theorem dX12_ask_10 : decode cX12_ask 10 = .ok (.ireturn, 1) := by decide +kernel
theorem dX12_ask_11 : decode cX12_ask 11 = .ok (.aload_n 0, 1) := by decide +kernel
theorem dX12_ask_12 : decode cX12_ask 12 = .ok (.iload_n 2, 1) := by decide +kernel
theorem dX12_ask_13 : decode cX12_ask 13 = .ok (.invokevirtual 488, 3) := by decide +kernel
theorem dX12_ask_16 : decode cX12_ask 16 = .ok (.aload_n 0, 1) := by decide +kernel
theorem dX12_ask_17 : decode cX12_ask 17 = .ok (.getfield 482, 3) := by decide +kernel
theorem dX12_ask_20 : decode cX12_ask 20 = .ok (.ifCond .ne 5, 3) := by decide +kernel
theorem dX12_ask_23 : decode cX12_ask 23 = .ok (.iconst (-1), 1) := by decide +kernel
theorem dX12_ask_24 : decode cX12_ask 24 = .ok (.ireturn, 1) := by decide +kernel
theorem dX12_back_0 : decode cX12_back 0 = .ok (.iload_n 1, 1) := by decide +kernel
theorem dX12_back_1 : decode cX12_back 1 = .ok (.iconst 0, 1) := by decide +kernel
theorem dX12_back_2 : decode cX12_back 2 = .ok (.iconst 2, 1) := by decide +kernel
theorem dX12_back_3 : decode cX12_back 3 = .ok (.invokestatic 370, 3) := by decide +kernel
theorem dX12_back_6 : decode cX12_back 6 = .ok (.ifCond .eq 12, 3) := by decide +kernel
theorem dX12_back_9 : decode cX12_back 9 = .ok (.aload_n 0, 1) := by decide +kernel
theorem dX12_back_10 : decode cX12_back 10 = .ok (.getfield 130, 3) := by decide +kernel
theorem dX12_back_13 : decode cX12_back 13 = .ok (.iload_n 1, 1) := by decide +kernel
theorem dX12_back_14 : decode cX12_back 14 = .ok (.baload, 1) := by decide +kernel
theorem dX12_back_15 : decode cX12_back 15 = .ok (.ifCond .ne 5, 3) := by decide +kernel
theorem dX12_back_18 : decode cX12_back 18 = .ok (.iconst (-1), 1) := by decide +kernel
theorem dX12_back_19 : decode cX12_back 19 = .ok (.ireturn, 1) := by decide +kernel
theorem dX12_beast_0 : decode cX12_beast 0 = .ok (.aload_n 0, 1) := by decide +kernel
theorem dX12_beast_1 : decode cX12_beast 1 = .ok (.iload_n 1, 1) := by decide +kernel
theorem dX12_beast_2 : decode cX12_beast 2 = .ok (.invokevirtual 420, 3) := by decide +kernel
theorem dX12_beast_5 : decode cX12_beast 5 = .ok (.ifCond .ne 5, 3) := by decide +kernel
theorem dX12_beast_8 : decode cX12_beast 8 = .ok (.iconst (-1), 1) := by decide +kernel
theorem dX12_beast_9 : decode cX12_beast 9 = .ok (.ireturn, 1) := by decide +kernel
theorem dX12_bit_0 : decode cX12_bit 0 = .ok (.iload_n 0, 1) := by decide +kernel
theorem dX12_bit_1 : decode cX12_bit 1 = .ok (.iload_n 1, 1) := by decide +kernel
theorem dX12_bit_2 : decode cX12_bit 2 = .ok (.ishr, 1) := by decide +kernel
theorem dX12_bit_3 : decode cX12_bit 3 = .ok (.iconst 1, 1) := by decide +kernel
theorem dX12_bit_4 : decode cX12_bit 4 = .ok (.iand, 1) := by decide +kernel
theorem dX12_bit_5 : decode cX12_bit 5 = .ok (.iconst 1, 1) := by decide +kernel
theorem dX12_bit_6 : decode cX12_bit 6 = .ok (.if_icmp .ne 7, 3) := by decide +kernel
theorem dX12_bit_13 : decode cX12_bit 13 = .ok (.iconst 0, 1) := by decide +kernel
theorem dX12_bit_14 : decode cX12_bit 14 = .ok (.ireturn, 1) := by decide +kernel
theorem dX12_brand_0 : decode cX12_brand 0 = .ok (.aload_n 0, 1) := by decide +kernel
theorem dX12_brand_1 : decode cX12_brand 1 = .ok (.iload_n 1, 1) := by decide +kernel
theorem dX12_brand_2 : decode cX12_brand 2 = .ok (.invokevirtual 414, 3) := by decide +kernel
theorem dX12_brand_5 : decode cX12_brand 5 = .ok (.ifCond .eq 11, 3) := by decide +kernel
theorem dX12_brand_16 : decode cX12_brand 16 = .ok (.iconst (-1), 1) := by decide +kernel
theorem dX12_brand_17 : decode cX12_brand 17 = .ok (.ireturn, 1) := by decide +kernel
theorem dX12_burn_0 : decode cX12_burn 0 = .ok (.aload_n 0, 1) := by decide +kernel
theorem dX12_burn_1 : decode cX12_burn 1 = .ok (.iload_n 1, 1) := by decide +kernel
theorem dX12_burn_2 : decode cX12_burn 2 = .ok (.invokevirtual 420, 3) := by decide +kernel
theorem dX12_burn_5 : decode cX12_burn 5 = .ok (.ifCond .eq 25, 3) := by decide +kernel
theorem dX12_burn_30 : decode cX12_burn 30 = .ok (.iconst (-1), 1) := by decide +kernel
theorem dX12_burn_31 : decode cX12_burn 31 = .ok (.ireturn, 1) := by decide +kernel
theorem dX12_cattle_0 : decode cX12_cattle 0 = .ok (.aload_n 0, 1) := by decide +kernel
theorem dX12_cattle_1 : decode cX12_cattle 1 = .ok (.getfield 30, 3) := by decide +kernel
theorem dX12_cattle_4 : decode cX12_cattle 4 = .ok (.aload_n 0, 1) := by decide +kernel
theorem dX12_cattle_5 : decode cX12_cattle 5 = .ok (.getfield 250, 3) := by decide +kernel
theorem dX12_cattle_8 : decode cX12_cattle 8 = .ok (.iaload, 1) := by decide +kernel
theorem dX12_cattle_9 : decode cX12_cattle 9 = .ok (.ireturn, 1) := by decide +kernel
theorem dX12_chain_0 : decode cX12_chain 0 = .ok (.iconst 0, 1) := by decide +kernel
theorem dX12_chain_1 : decode cX12_chain 1 = .ok (.istore_n 1, 1) := by decide +kernel
theorem dX12_chain_2 : decode cX12_chain 2 = .ok (.iconst 0, 1) := by decide +kernel
theorem dX12_chain_3 : decode cX12_chain 3 = .ok (.istore_n 2, 1) := by decide +kernel
theorem dX12_chain_4 : decode cX12_chain 4 = .ok (.iload_n 2, 1) := by decide +kernel
theorem dX12_chain_5 : decode cX12_chain 5 = .ok (.bipush 12, 2) := by decide +kernel
theorem dX12_chain_7 : decode cX12_chain 7 = .ok (.if_icmp .ge 116, 3) := by decide +kernel
theorem dX12_chain_10 : decode cX12_chain 10 = .ok (.iconst 0, 1) := by decide +kernel
theorem dX12_chain_11 : decode cX12_chain 11 = .ok (.istore_n 3, 1) := by decide +kernel
theorem dX12_chain_12 : decode cX12_chain 12 = .ok (.iload_n 3, 1) := by decide +kernel
theorem dX12_chain_13 : decode cX12_chain 13 = .ok (.aload_n 0, 1) := by decide +kernel
theorem dX12_chain_14 : decode cX12_chain 14 = .ok (.invokevirtual 367, 3) := by decide +kernel
theorem dX12_chain_17 : decode cX12_chain 17 = .ok (.if_icmp .ge 100, 3) := by decide +kernel
theorem dX12_chain_117 : decode cX12_chain 117 = .ok (.iinc 2 1, 3) := by decide +kernel
theorem dX12_chain_120 : decode cX12_chain 120 = .ok (.goto (-116), 3) := by decide +kernel
theorem dX12_chain_123 : decode cX12_chain 123 = .ok (.aload_n 0, 1) := by decide +kernel
theorem dX12_chain_124 : decode cX12_chain 124 = .ok (.iconst 0, 1) := by decide +kernel
theorem dX12_chain_125 : decode cX12_chain 125 = .ok (.putfield 401, 3) := by decide +kernel
theorem dX12_chain_128 : decode cX12_chain 128 = .ok (.iconst 0, 1) := by decide +kernel
theorem dX12_chain_129 : decode cX12_chain 129 = .ok (.istore_n 2, 1) := by decide +kernel
theorem dX12_chain_130 : decode cX12_chain 130 = .ok (.iload_n 2, 1) := by decide +kernel
theorem dX12_chain_131 : decode cX12_chain 131 = .ok (.iload_n 1, 1) := by decide +kernel
theorem dX12_chain_132 : decode cX12_chain 132 = .ok (.if_icmp .ge 66, 3) := by decide +kernel
theorem dX12_chain_198 : decode cX12_chain 198 = .ok (.iload_n 1, 1) := by decide +kernel
theorem dX12_chain_199 : decode cX12_chain 199 = .ok (.ireturn, 1) := by decide +kernel
theorem dX12_claim_0 : decode cX12_claim 0 = .ok (.aload_n 0, 1) := by decide +kernel
theorem dX12_claim_1 : decode cX12_claim 1 = .ok (.iload_n 1, 1) := by decide +kernel
theorem dX12_claim_2 : decode cX12_claim 2 = .ok (.invokevirtual 414, 3) := by decide +kernel
theorem dX12_claim_5 : decode cX12_claim 5 = .ok (.ifCond .ne 5, 3) := by decide +kernel
theorem dX12_claim_8 : decode cX12_claim 8 = .ok (.iconst (-1), 1) := by decide +kernel
theorem dX12_claim_9 : decode cX12_claim 9 = .ok (.ireturn, 1) := by decide +kernel
theorem dX12_clean_0 : decode cX12_clean 0 = .ok (.aload_n 0, 1) := by decide +kernel
theorem dX12_clean_1 : decode cX12_clean 1 = .ok (.iload_n 1, 1) := by decide +kernel
theorem dX12_clean_2 : decode cX12_clean 2 = .ok (.invokevirtual 420, 3) := by decide +kernel
theorem dX12_clean_5 : decode cX12_clean 5 = .ok (.ifCond .ne 5, 3) := by decide +kernel
theorem dX12_clean_8 : decode cX12_clean 8 = .ok (.iconst (-1), 1) := by decide +kernel
theorem dX12_clean_9 : decode cX12_clean 9 = .ok (.ireturn, 1) := by decide +kernel
theorem dX12_clearBank_0 : decode cX12_clearBank 0 = .ok (.aload_n 0, 1) := by decide +kernel
theorem dX12_clearBank_1 : decode cX12_clearBank 1 = .ok (.getfield 20, 3) := by decide +kernel
theorem dX12_clearBank_4 : decode cX12_clearBank 4 = .ok (.aload_n 0, 1) := by decide +kernel
theorem dX12_clearBank_5 : decode cX12_clearBank 5 = .ok (.getfield 241, 3) := by decide +kernel
theorem dX12_clearBank_8 : decode cX12_clearBank 8 = .ok (.iconst 1, 1) := by decide +kernel
theorem dX12_clearBank_9 : decode cX12_clearBank 9 = .ok (.iastore, 1) := by decide +kernel
theorem dX12_clearBank_10 : decode cX12_clearBank 10 = .ok (.aload_n 0, 1) := by decide +kernel
theorem dX12_clearBank_11 : decode cX12_clearBank 11 = .ok (.getfield 24, 3) := by decide +kernel
theorem dX12_clearBank_14 : decode cX12_clearBank 14 = .ok (.aload_n 0, 1) := by decide +kernel
theorem dX12_clearBank_15 : decode cX12_clearBank 15 = .ok (.getfield 241, 3) := by decide +kernel
theorem dX12_clearBank_18 : decode cX12_clearBank 18 = .ok (.iconst 0, 1) := by decide +kernel
theorem dX12_clearBank_19 : decode cX12_clearBank 19 = .ok (.iastore, 1) := by decide +kernel
theorem dX12_clearBank_20 : decode cX12_clearBank 20 = .ok (.aload_n 0, 1) := by decide +kernel
theorem dX12_clearBank_21 : decode cX12_clearBank 21 = .ok (.getfield 27, 3) := by decide +kernel
theorem dX12_clearBank_24 : decode cX12_clearBank 24 = .ok (.aload_n 0, 1) := by decide +kernel
theorem dX12_clearBank_25 : decode cX12_clearBank 25 = .ok (.getfield 241, 3) := by decide +kernel
theorem dX12_clearBank_28 : decode cX12_clearBank 28 = .ok (.iconst 0, 1) := by decide +kernel
theorem dX12_clearBank_29 : decode cX12_clearBank 29 = .ok (.iastore, 1) := by decide +kernel
theorem dX12_clearBank_30 : decode cX12_clearBank 30 = .ok (.aload_n 0, 1) := by decide +kernel
theorem dX12_clearBank_31 : decode cX12_clearBank 31 = .ok (.getfield 30, 3) := by decide +kernel
theorem dX12_clearBank_34 : decode cX12_clearBank 34 = .ok (.aload_n 0, 1) := by decide +kernel
theorem dX12_clearBank_35 : decode cX12_clearBank 35 = .ok (.getfield 241, 3) := by decide +kernel
theorem dX12_clearBank_38 : decode cX12_clearBank 38 = .ok (.iconst 0, 1) := by decide +kernel
theorem dX12_clearBank_39 : decode cX12_clearBank 39 = .ok (.iastore, 1) := by decide +kernel
theorem dX12_clearBank_40 : decode cX12_clearBank 40 = .ok (.aload_n 0, 1) := by decide +kernel
theorem dX12_clearBank_41 : decode cX12_clearBank 41 = .ok (.getfield 33, 3) := by decide +kernel
theorem dX12_clearBank_44 : decode cX12_clearBank 44 = .ok (.aload_n 0, 1) := by decide +kernel
theorem dX12_clearBank_45 : decode cX12_clearBank 45 = .ok (.getfield 241, 3) := by decide +kernel
theorem dX12_clearBank_48 : decode cX12_clearBank 48 = .ok (.iconst 0, 1) := by decide +kernel
theorem dX12_clearBank_49 : decode cX12_clearBank 49 = .ok (.iastore, 1) := by decide +kernel
theorem dX12_clearBank_50 : decode cX12_clearBank 50 = .ok (.aload_n 0, 1) := by decide +kernel
theorem dX12_clearBank_51 : decode cX12_clearBank 51 = .ok (.getfield 36, 3) := by decide +kernel
theorem dX12_clearBank_54 : decode cX12_clearBank 54 = .ok (.aload_n 0, 1) := by decide +kernel
theorem dX12_clearBank_55 : decode cX12_clearBank 55 = .ok (.getfield 241, 3) := by decide +kernel
theorem dX12_clearBank_58 : decode cX12_clearBank 58 = .ok (.iconst 0, 1) := by decide +kernel
theorem dX12_clearBank_59 : decode cX12_clearBank 59 = .ok (.iastore, 1) := by decide +kernel
theorem dX12_clearBank_60 : decode cX12_clearBank 60 = .ok (.aload_n 0, 1) := by decide +kernel
theorem dX12_clearBank_61 : decode cX12_clearBank 61 = .ok (.getfield 39, 3) := by decide +kernel
theorem dX12_clearBank_64 : decode cX12_clearBank 64 = .ok (.aload_n 0, 1) := by decide +kernel
theorem dX12_clearBank_65 : decode cX12_clearBank 65 = .ok (.getfield 241, 3) := by decide +kernel
theorem dX12_clearBank_68 : decode cX12_clearBank 68 = .ok (.iconst 0, 1) := by decide +kernel
theorem dX12_clearBank_69 : decode cX12_clearBank 69 = .ok (.iastore, 1) := by decide +kernel
theorem dX12_clearBank_70 : decode cX12_clearBank 70 = .ok (.aload_n 0, 1) := by decide +kernel
theorem dX12_clearBank_71 : decode cX12_clearBank 71 = .ok (.getfield 42, 3) := by decide +kernel
theorem dX12_clearBank_74 : decode cX12_clearBank 74 = .ok (.aload_n 0, 1) := by decide +kernel
theorem dX12_clearBank_75 : decode cX12_clearBank 75 = .ok (.getfield 241, 3) := by decide +kernel
theorem dX12_clearBank_78 : decode cX12_clearBank 78 = .ok (.iconst 0, 1) := by decide +kernel
theorem dX12_clearBank_79 : decode cX12_clearBank 79 = .ok (.iastore, 1) := by decide +kernel
theorem dX12_clearBank_80 : decode cX12_clearBank 80 = .ok (.aload_n 0, 1) := by decide +kernel
theorem dX12_clearBank_81 : decode cX12_clearBank 81 = .ok (.sipush 560, 3) := by decide +kernel
theorem dX12_clearBank_84 : decode cX12_clearBank 84 = .ok (.aload_n 0, 1) := by decide +kernel
theorem dX12_clearBank_85 : decode cX12_clearBank 85 = .ok (.getfield 241, 3) := by decide +kernel
theorem dX12_clearBank_88 : decode cX12_clearBank 88 = .ok (.imul, 1) := by decide +kernel
theorem dX12_clearBank_89 : decode cX12_clearBank 89 = .ok (.putfield 244, 3) := by decide +kernel
theorem dX12_clearBank_92 : decode cX12_clearBank 92 = .ok (.return_, 1) := by decide +kernel
theorem dX12_closed_0 : decode cX12_closed 0 = .ok (.iconst 0, 1) := by decide +kernel
theorem dX12_closed_1 : decode cX12_closed 1 = .ok (.istore_n 1, 1) := by decide +kernel
theorem dX12_closed_2 : decode cX12_closed 2 = .ok (.iload_n 1, 1) := by decide +kernel
theorem dX12_closed_3 : decode cX12_closed 3 = .ok (.aload_n 0, 1) := by decide +kernel
theorem dX12_closed_4 : decode cX12_closed 4 = .ok (.invokevirtual 367, 3) := by decide +kernel
theorem dX12_closed_7 : decode cX12_closed 7 = .ok (.if_icmp .ge 49, 3) := by decide +kernel
theorem dX12_closed_56 : decode cX12_closed 56 = .ok (.iconst 1, 1) := by decide +kernel
theorem dX12_closed_57 : decode cX12_closed 57 = .ok (.ireturn, 1) := by decide +kernel
theorem dX12_divisor_0 : decode cX12_divisor 0 = .ok (.iload_n 0, 1) := by decide +kernel
theorem dX12_divisor_1 : decode cX12_divisor 1 = .ok (.istore_n 2, 1) := by decide +kernel
theorem dX12_divisor_2 : decode cX12_divisor 2 = .ok (.iload_n 1, 1) := by decide +kernel
theorem dX12_divisor_3 : decode cX12_divisor 3 = .ok (.istore_n 3, 1) := by decide +kernel
theorem dX12_divisor_4 : decode cX12_divisor 4 = .ok (.iload_n 3, 1) := by decide +kernel
theorem dX12_divisor_5 : decode cX12_divisor 5 = .ok (.ifCond .le 16, 3) := by decide +kernel
theorem dX12_divisor_8 : decode cX12_divisor 8 = .ok (.iload_n 2, 1) := by decide +kernel
theorem dX12_divisor_9 : decode cX12_divisor 9 = .ok (.iload_n 3, 1) := by decide +kernel
theorem dX12_divisor_10 : decode cX12_divisor 10 = .ok (.irem, 1) := by decide +kernel
theorem dX12_divisor_11 : decode cX12_divisor 11 = .ok (.istore 4, 2) := by decide +kernel
theorem dX12_divisor_13 : decode cX12_divisor 13 = .ok (.iload_n 3, 1) := by decide +kernel
theorem dX12_divisor_14 : decode cX12_divisor 14 = .ok (.istore_n 2, 1) := by decide +kernel
theorem dX12_divisor_15 : decode cX12_divisor 15 = .ok (.iload 4, 2) := by decide +kernel
theorem dX12_divisor_17 : decode cX12_divisor 17 = .ok (.istore_n 3, 1) := by decide +kernel
theorem dX12_divisor_18 : decode cX12_divisor 18 = .ok (.goto (-14), 3) := by decide +kernel
theorem dX12_divisor_21 : decode cX12_divisor 21 = .ok (.iload_n 2, 1) := by decide +kernel
theorem dX12_divisor_22 : decode cX12_divisor 22 = .ok (.ireturn, 1) := by decide +kernel
theorem dX12_end_0 : decode cX12_end 0 = .ok (.iload_n 1, 1) := by decide +kernel
theorem dX12_end_1 : decode cX12_end 1 = .ok (.ifCond .lt 11, 3) := by decide +kernel
theorem dX12_end_4 : decode cX12_end 4 = .ok (.iload_n 1, 1) := by decide +kernel
theorem dX12_end_5 : decode cX12_end 5 = .ok (.aload_n 0, 1) := by decide +kernel
theorem dX12_end_6 : decode cX12_end 6 = .ok (.getfield 247, 3) := by decide +kernel
theorem dX12_end_9 : decode cX12_end 9 = .ok (.if_icmp .le 5, 3) := by decide +kernel
theorem dX12_end_12 : decode cX12_end 12 = .ok (.iconst (-1), 1) := by decide +kernel
theorem dX12_end_13 : decode cX12_end 13 = .ok (.ireturn, 1) := by decide +kernel
theorem dX12_end_14 : decode cX12_end 14 = .ok (.aload_n 0, 1) := by decide +kernel
theorem dX12_end_15 : decode cX12_end 15 = .ok (.iload_n 1, 1) := by decide +kernel
theorem dX12_end_16 : decode cX12_end 16 = .ok (.putfield 247, 3) := by decide +kernel
theorem dX12_end_19 : decode cX12_end 19 = .ok (.iload_n 1, 1) := by decide +kernel
theorem dX12_end_20 : decode cX12_end 20 = .ok (.ireturn, 1) := by decide +kernel
theorem dX12_faces_0 : decode cX12_faces 0 = .ok (.iload_n 1, 1) := by decide +kernel
theorem dX12_faces_1 : decode cX12_faces 1 = .ok (.invokestatic 426, 3) := by decide +kernel
theorem dX12_faces_4 : decode cX12_faces 4 = .ok (.ifCond .ne 5, 3) := by decide +kernel
theorem dX12_faces_7 : decode cX12_faces 7 = .ok (.iconst (-1), 1) := by decide +kernel
theorem dX12_faces_8 : decode cX12_faces 8 = .ok (.ireturn, 1) := by decide +kernel
theorem dX12_faces_9 : decode cX12_faces 9 = .ok (.iconst 0, 1) := by decide +kernel
theorem dX12_faces_10 : decode cX12_faces 10 = .ok (.istore_n 2, 1) := by decide +kernel
theorem dX12_faces_11 : decode cX12_faces 11 = .ok (.iconst 0, 1) := by decide +kernel
theorem dX12_faces_12 : decode cX12_faces 12 = .ok (.istore_n 3, 1) := by decide +kernel
theorem dX12_faces_13 : decode cX12_faces 13 = .ok (.iload_n 3, 1) := by decide +kernel
theorem dX12_faces_14 : decode cX12_faces 14 = .ok (.aload_n 0, 1) := by decide +kernel
theorem dX12_faces_15 : decode cX12_faces 15 = .ok (.invokevirtual 358, 3) := by decide +kernel
theorem dX12_faces_18 : decode cX12_faces 18 = .ok (.if_icmp .ge 63, 3) := by decide +kernel
theorem dX12_faces_21 : decode cX12_faces 21 = .ok (.iconst 1, 1) := by decide +kernel
theorem dX12_faces_22 : decode cX12_faces 22 = .ok (.istore 4, 2) := by decide +kernel
theorem dX12_faces_24 : decode cX12_faces 24 = .ok (.iconst 0, 1) := by decide +kernel
theorem dX12_faces_25 : decode cX12_faces 25 = .ok (.istore 5, 2) := by decide +kernel
theorem dX12_faces_27 : decode cX12_faces 27 = .ok (.iload 5, 2) := by decide +kernel
theorem dX12_faces_29 : decode cX12_faces 29 = .ok (.iload_n 3, 1) := by decide +kernel
theorem dX12_faces_30 : decode cX12_faces 30 = .ok (.if_icmp .ge 37, 3) := by decide +kernel
theorem dX12_faces_67 : decode cX12_faces 67 = .ok (.iload 4, 2) := by decide +kernel
theorem dX12_faces_69 : decode cX12_faces 69 = .ok (.ifCond .eq 6, 3) := by decide +kernel
theorem dX12_faces_72 : decode cX12_faces 72 = .ok (.iinc 2 1, 3) := by decide +kernel
theorem dX12_faces_75 : decode cX12_faces 75 = .ok (.iinc 3 1, 3) := by decide +kernel
theorem dX12_faces_78 : decode cX12_faces 78 = .ok (.goto (-65), 3) := by decide +kernel
theorem dX12_faces_81 : decode cX12_faces 81 = .ok (.iload_n 2, 1) := by decide +kernel
theorem dX12_faces_82 : decode cX12_faces 82 = .ok (.ireturn, 1) := by decide +kernel
theorem dX12_fades_0 : decode cX12_fades 0 = .ok (.iconst 0, 1) := by decide +kernel
theorem dX12_fades_1 : decode cX12_fades 1 = .ok (.istore_n 2, 1) := by decide +kernel
theorem dX12_fades_2 : decode cX12_fades 2 = .ok (.iload_n 2, 1) := by decide +kernel
theorem dX12_fades_3 : decode cX12_fades 3 = .ok (.bipush 60, 2) := by decide +kernel
theorem dX12_fades_5 : decode cX12_fades 5 = .ok (.if_icmp .gt 28, 3) := by decide +kernel
theorem dX12_fades_8 : decode cX12_fades 8 = .ok (.aload_n 0, 1) := by decide +kernel
theorem dX12_fades_9 : decode cX12_fades 9 = .ok (.iload_n 1, 1) := by decide +kernel
theorem dX12_fades_10 : decode cX12_fades 10 = .ok (.invokevirtual 420, 3) := by decide +kernel
theorem dX12_fades_13 : decode cX12_fades 13 = .ok (.ifCond .eq 20, 3) := by decide +kernel
theorem dX12_fades_33 : decode cX12_fades 33 = .ok (.iconst (-1), 1) := by decide +kernel
theorem dX12_fades_34 : decode cX12_fades 34 = .ok (.ireturn, 1) := by decide +kernel
theorem dX12_fault_0 : decode cX12_fault 0 = .ok (.iload_n 1, 1) := by decide +kernel
theorem dX12_fault_1 : decode cX12_fault 1 = .ok (.ifCond .ne 10, 3) := by decide +kernel
theorem dX12_fault_4 : decode cX12_fault 4 = .ok (.aload_n 0, 1) := by decide +kernel
theorem dX12_fault_5 : decode cX12_fault 5 = .ok (.getfield 143, 3) := by decide +kernel
theorem dX12_fault_8 : decode cX12_fault 8 = .ok (.goto 16, 3) := by decide +kernel
theorem dX12_fault_11 : decode cX12_fault 11 = .ok (.iload_n 1, 1) := by decide +kernel
theorem dX12_fault_12 : decode cX12_fault 12 = .ok (.iconst 1, 1) := by decide +kernel
theorem dX12_fault_13 : decode cX12_fault 13 = .ok (.if_icmp .ne 10, 3) := by decide +kernel
theorem dX12_fault_16 : decode cX12_fault 16 = .ok (.aload_n 0, 1) := by decide +kernel
theorem dX12_fault_17 : decode cX12_fault 17 = .ok (.getfield 16, 3) := by decide +kernel
theorem dX12_fault_20 : decode cX12_fault 20 = .ok (.goto 4, 3) := by decide +kernel
theorem dX12_fault_23 : decode cX12_fault 23 = .ok (.iconst (-1), 1) := by decide +kernel
theorem dX12_fault_24 : decode cX12_fault 24 = .ok (.ireturn, 1) := by decide +kernel
theorem dX12_feed_0 : decode cX12_feed 0 = .ok (.aload_n 0, 1) := by decide +kernel
theorem dX12_feed_1 : decode cX12_feed 1 = .ok (.getfield 247, 3) := by decide +kernel
theorem dX12_feed_4 : decode cX12_feed 4 = .ok (.bipush 20, 2) := by decide +kernel
theorem dX12_feed_6 : decode cX12_feed 6 = .ok (.iadd, 1) := by decide +kernel
theorem dX12_feed_7 : decode cX12_feed 7 = .ok (.sipush 1600, 3) := by decide +kernel
theorem dX12_feed_10 : decode cX12_feed 10 = .ok (.if_icmp .le 5, 3) := by decide +kernel
theorem dX12_feed_15 : decode cX12_feed 15 = .ok (.iconst 0, 1) := by decide +kernel
theorem dX12_feed_16 : decode cX12_feed 16 = .ok (.istore 6, 2) := by decide +kernel
theorem dX12_feed_18 : decode cX12_feed 18 = .ok (.iload 6, 2) := by decide +kernel
theorem dX12_feed_20 : decode cX12_feed 20 = .ok (.bipush 20, 2) := by decide +kernel
theorem dX12_feed_22 : decode cX12_feed 22 = .ok (.if_icmp .ge 83, 3) := by decide +kernel
theorem dX12_feed_25 : decode cX12_feed 25 = .ok (.iload 6, 2) := by decide +kernel
theorem dX12_feed_27 : decode cX12_feed 27 = .ok (.iconst 4, 1) := by decide +kernel
theorem dX12_feed_28 : decode cX12_feed 28 = .ok (.if_icmp .ge 7, 3) := by decide +kernel
theorem dX12_feed_31 : decode cX12_feed 31 = .ok (.iload_n 1, 1) := by decide +kernel
theorem dX12_feed_32 : decode cX12_feed 32 = .ok (.goto 39, 3) := by decide +kernel
theorem dX12_feed_35 : decode cX12_feed 35 = .ok (.iload 6, 2) := by decide +kernel
theorem dX12_feed_37 : decode cX12_feed 37 = .ok (.bipush 8, 2) := by decide +kernel
theorem dX12_feed_39 : decode cX12_feed 39 = .ok (.if_icmp .ge 7, 3) := by decide +kernel
theorem dX12_feed_42 : decode cX12_feed 42 = .ok (.iload_n 2, 1) := by decide +kernel
theorem dX12_feed_43 : decode cX12_feed 43 = .ok (.goto 28, 3) := by decide +kernel
theorem dX12_feed_46 : decode cX12_feed 46 = .ok (.iload 6, 2) := by decide +kernel
theorem dX12_feed_48 : decode cX12_feed 48 = .ok (.bipush 12, 2) := by decide +kernel
theorem dX12_feed_50 : decode cX12_feed 50 = .ok (.if_icmp .ge 7, 3) := by decide +kernel
theorem dX12_feed_53 : decode cX12_feed 53 = .ok (.iload_n 3, 1) := by decide +kernel
theorem dX12_feed_54 : decode cX12_feed 54 = .ok (.goto 17, 3) := by decide +kernel
theorem dX12_feed_57 : decode cX12_feed 57 = .ok (.iload 6, 2) := by decide +kernel
theorem dX12_feed_59 : decode cX12_feed 59 = .ok (.bipush 16, 2) := by decide +kernel
theorem dX12_feed_61 : decode cX12_feed 61 = .ok (.if_icmp .ge 8, 3) := by decide +kernel
theorem dX12_feed_64 : decode cX12_feed 64 = .ok (.iload 4, 2) := by decide +kernel
theorem dX12_feed_66 : decode cX12_feed 66 = .ok (.goto 5, 3) := by decide +kernel
theorem dX12_feed_69 : decode cX12_feed 69 = .ok (.iload 5, 2) := by decide +kernel
theorem dX12_feed_71 : decode cX12_feed 71 = .ok (.istore 7, 2) := by decide +kernel
theorem dX12_feed_73 : decode cX12_feed 73 = .ok (.aload_n 0, 1) := by decide +kernel
theorem dX12_feed_74 : decode cX12_feed 74 = .ok (.getfield 7, 3) := by decide +kernel
theorem dX12_feed_77 : decode cX12_feed 77 = .ok (.aload_n 0, 1) := by decide +kernel
theorem dX12_feed_78 : decode cX12_feed 78 = .ok (.getfield 247, 3) := by decide +kernel
theorem dX12_feed_81 : decode cX12_feed 81 = .ok (.iload 6, 2) := by decide +kernel
theorem dX12_feed_83 : decode cX12_feed 83 = .ok (.iadd, 1) := by decide +kernel
theorem dX12_feed_84 : decode cX12_feed 84 = .ok (.iload 7, 2) := by decide +kernel
theorem dX12_feed_86 : decode cX12_feed 86 = .ok (.bipush 24, 2) := by decide +kernel
theorem dX12_feed_88 : decode cX12_feed 88 = .ok (.bipush 8, 2) := by decide +kernel
theorem dX12_feed_90 : decode cX12_feed 90 = .ok (.iload 6, 2) := by decide +kernel
theorem dX12_feed_92 : decode cX12_feed 92 = .ok (.iconst 3, 1) := by decide +kernel
theorem dX12_feed_93 : decode cX12_feed 93 = .ok (.iand, 1) := by decide +kernel
theorem dX12_feed_94 : decode cX12_feed 94 = .ok (.imul, 1) := by decide +kernel
theorem dX12_feed_95 : decode cX12_feed 95 = .ok (.isub, 1) := by decide +kernel
theorem dX12_feed_96 : decode cX12_feed 96 = .ok (.ishr, 1) := by decide +kernel
theorem dX12_feed_97 : decode cX12_feed 97 = .ok (.i2b, 1) := by decide +kernel
theorem dX12_feed_98 : decode cX12_feed 98 = .ok (.bastore, 1) := by decide +kernel
theorem dX12_feed_99 : decode cX12_feed 99 = .ok (.iinc 6 1, 3) := by decide +kernel
theorem dX12_feed_102 : decode cX12_feed 102 = .ok (.goto (-84), 3) := by decide +kernel
theorem dX12_feed_105 : decode cX12_feed 105 = .ok (.aload_n 0, 1) := by decide +kernel
theorem dX12_feed_106 : decode cX12_feed 106 = .ok (.dup, 1) := by decide +kernel
theorem dX12_feed_107 : decode cX12_feed 107 = .ok (.getfield 247, 3) := by decide +kernel
theorem dX12_feed_110 : decode cX12_feed 110 = .ok (.bipush 20, 2) := by decide +kernel
theorem dX12_feed_112 : decode cX12_feed 112 = .ok (.iadd, 1) := by decide +kernel
theorem dX12_feed_113 : decode cX12_feed 113 = .ok (.putfield 247, 3) := by decide +kernel
theorem dX12_feed_116 : decode cX12_feed 116 = .ok (.aload_n 0, 1) := by decide +kernel
theorem dX12_feed_117 : decode cX12_feed 117 = .ok (.getfield 247, 3) := by decide +kernel
theorem dX12_feed_120 : decode cX12_feed 120 = .ok (.ireturn, 1) := by decide +kernel
theorem dX12_forge_0 : decode cX12_forge 0 = .ok (.aload_n 0, 1) := by decide +kernel
theorem dX12_forge_1 : decode cX12_forge 1 = .ok (.iconst 0, 1) := by decide +kernel
theorem dX12_forge_2 : decode cX12_forge 2 = .ok (.putfield 401, 3) := by decide +kernel
theorem dX12_forge_5 : decode cX12_forge 5 = .ok (.aload_n 0, 1) := by decide +kernel
theorem dX12_forge_6 : decode cX12_forge 6 = .ok (.iload_n 1, 1) := by decide +kernel
theorem dX12_forge_7 : decode cX12_forge 7 = .ok (.invokevirtual 420, 3) := by decide +kernel
theorem dX12_forge_10 : decode cX12_forge 10 = .ok (.ifCond .eq 11, 3) := by decide +kernel
theorem dX12_forge_21 : decode cX12_forge 21 = .ok (.iconst (-1), 1) := by decide +kernel
theorem dX12_forge_22 : decode cX12_forge 22 = .ok (.ireturn, 1) := by decide +kernel
theorem dX12_goOn_0 : decode cX12_goOn 0 = .ok (.aload_n 0, 1) := by decide +kernel
theorem dX12_goOn_1 : decode cX12_goOn 1 = .ok (.aload_n 0, 1) := by decide +kernel
theorem dX12_goOn_2 : decode cX12_goOn 2 = .ok (.getfield 182, 3) := by decide +kernel
theorem dX12_goOn_5 : decode cX12_goOn 5 = .ok (.putfield 185, 3) := by decide +kernel
theorem dX12_goOn_8 : decode cX12_goOn 8 = .ok (.aload_n 0, 1) := by decide +kernel
theorem dX12_goOn_9 : decode cX12_goOn 9 = .ok (.getfield 185, 3) := by decide +kernel
theorem dX12_goOn_12 : decode cX12_goOn 12 = .ok (.aload_n 0, 1) := by decide +kernel
theorem dX12_goOn_13 : decode cX12_goOn 13 = .ok (.getfield 140, 3) := by decide +kernel
theorem dX12_goOn_16 : decode cX12_goOn 16 = .ok (.if_icmp .ge 42, 3) := by decide +kernel
theorem dX12_goOn_58 : decode cX12_goOn 58 = .ok (.aload_n 0, 1) := by decide +kernel
theorem dX12_goOn_59 : decode cX12_goOn 59 = .ok (.aload_n 0, 1) := by decide +kernel
theorem dX12_goOn_60 : decode cX12_goOn 60 = .ok (.getfield 185, 3) := by decide +kernel
theorem dX12_goOn_63 : decode cX12_goOn 63 = .ok (.invokevirtual 188, 3) := by decide +kernel
theorem dX12_goOn_66 : decode cX12_goOn 66 = .ok (.istore_n 1, 1) := by decide +kernel
theorem dX12_goOn_67 : decode cX12_goOn 67 = .ok (.aload_n 0, 1) := by decide +kernel
theorem dX12_goOn_68 : decode cX12_goOn 68 = .ok (.aload_n 0, 1) := by decide +kernel
theorem dX12_goOn_69 : decode cX12_goOn 69 = .ok (.getfield 185, 3) := by decide +kernel
theorem dX12_goOn_72 : decode cX12_goOn 72 = .ok (.iconst 1, 1) := by decide +kernel
theorem dX12_goOn_73 : decode cX12_goOn 73 = .ok (.iadd, 1) := by decide +kernel
theorem dX12_goOn_74 : decode cX12_goOn 74 = .ok (.putfield 182, 3) := by decide +kernel
theorem dX12_goOn_77 : decode cX12_goOn 77 = .ok (.aload_n 0, 1) := by decide +kernel
theorem dX12_goOn_78 : decode cX12_goOn 78 = .ok (.getfield 185, 3) := by decide +kernel
theorem dX12_goOn_81 : decode cX12_goOn 81 = .ok (.aload_n 0, 1) := by decide +kernel
theorem dX12_goOn_82 : decode cX12_goOn 82 = .ok (.getfield 140, 3) := by decide +kernel
theorem dX12_goOn_85 : decode cX12_goOn 85 = .ok (.if_icmp .lt 27, 3) := by decide +kernel
theorem dX12_goOn_88 : decode cX12_goOn 88 = .ok (.aload_n 0, 1) := by decide +kernel
theorem dX12_goOn_89 : decode cX12_goOn 89 = .ok (.iconst 0, 1) := by decide +kernel
theorem dX12_goOn_90 : decode cX12_goOn 90 = .ok (.putfield 192, 3) := by decide +kernel
theorem dX12_goOn_93 : decode cX12_goOn 93 = .ok (.aload_n 0, 1) := by decide +kernel
theorem dX12_goOn_94 : decode cX12_goOn 94 = .ok (.aload_n 0, 1) := by decide +kernel
theorem dX12_goOn_95 : decode cX12_goOn 95 = .ok (.getfield 140, 3) := by decide +kernel
theorem dX12_goOn_98 : decode cX12_goOn 98 = .ok (.putfield 185, 3) := by decide +kernel
theorem dX12_goOn_101 : decode cX12_goOn 101 = .ok (.aload_n 0, 1) := by decide +kernel
theorem dX12_goOn_102 : decode cX12_goOn 102 = .ok (.aload_n 0, 1) := by decide +kernel
theorem dX12_goOn_103 : decode cX12_goOn 103 = .ok (.getfield 140, 3) := by decide +kernel
theorem dX12_goOn_106 : decode cX12_goOn 106 = .ok (.putfield 182, 3) := by decide +kernel
theorem dX12_goOn_109 : decode cX12_goOn 109 = .ok (.goto 268, 3) := by decide +kernel
theorem dX12_goOn_377 : decode cX12_goOn 377 = .ok (.return_, 1) := by decide +kernel
theorem dX12_highest_0 : decode cX12_highest 0 = .ok (.iconst 0, 1) := by decide +kernel
theorem dX12_highest_1 : decode cX12_highest 1 = .ok (.istore_n 1, 1) := by decide +kernel
theorem dX12_highest_2 : decode cX12_highest 2 = .ok (.iconst 0, 1) := by decide +kernel
theorem dX12_highest_3 : decode cX12_highest 3 = .ok (.istore_n 2, 1) := by decide +kernel
theorem dX12_highest_4 : decode cX12_highest 4 = .ok (.iload_n 2, 1) := by decide +kernel
theorem dX12_highest_5 : decode cX12_highest 5 = .ok (.aload_n 0, 1) := by decide +kernel
theorem dX12_highest_6 : decode cX12_highest 6 = .ok (.invokevirtual 367, 3) := by decide +kernel
theorem dX12_highest_9 : decode cX12_highest 9 = .ok (.if_icmp .ge 59, 3) := by decide +kernel
theorem dX12_highest_68 : decode cX12_highest 68 = .ok (.iload_n 1, 1) := by decide +kernel
theorem dX12_highest_69 : decode cX12_highest 69 = .ok (.ireturn, 1) := by decide +kernel
theorem dX12_image_0 : decode cX12_image 0 = .ok (.iload_n 1, 1) := by decide +kernel
theorem dX12_image_1 : decode cX12_image 1 = .ok (.iconst 0, 1) := by decide +kernel
theorem dX12_image_2 : decode cX12_image 2 = .ok (.iconst 2, 1) := by decide +kernel
theorem dX12_image_3 : decode cX12_image 3 = .ok (.invokestatic 370, 3) := by decide +kernel
theorem dX12_image_6 : decode cX12_image 6 = .ok (.ifCond .ne 5, 3) := by decide +kernel
theorem dX12_image_9 : decode cX12_image 9 = .ok (.iconst (-1), 1) := by decide +kernel
theorem dX12_image_10 : decode cX12_image 10 = .ok (.ireturn, 1) := by decide +kernel
theorem dX12_image_11 : decode cX12_image 11 = .ok (.iconst 0, 1) := by decide +kernel
theorem dX12_image_12 : decode cX12_image 12 = .ok (.istore_n 2, 1) := by decide +kernel
theorem dX12_image_13 : decode cX12_image 13 = .ok (.iload_n 2, 1) := by decide +kernel
theorem dX12_image_14 : decode cX12_image 14 = .ok (.bipush 114, 2) := by decide +kernel
theorem dX12_image_16 : decode cX12_image 16 = .ok (.if_icmp .ge 26, 3) := by decide +kernel
theorem dX12_image_19 : decode cX12_image 19 = .ok (.aload_n 0, 1) := by decide +kernel
theorem dX12_image_20 : decode cX12_image 20 = .ok (.getfield 127, 3) := by decide +kernel
theorem dX12_image_23 : decode cX12_image 23 = .ok (.bipush 114, 2) := by decide +kernel
theorem dX12_image_25 : decode cX12_image 25 = .ok (.iload_n 1, 1) := by decide +kernel
theorem dX12_image_26 : decode cX12_image 26 = .ok (.imul, 1) := by decide +kernel
theorem dX12_image_27 : decode cX12_image 27 = .ok (.iload_n 2, 1) := by decide +kernel
theorem dX12_image_28 : decode cX12_image 28 = .ok (.iadd, 1) := by decide +kernel
theorem dX12_image_29 : decode cX12_image 29 = .ok (.aload_n 0, 1) := by decide +kernel
theorem dX12_image_30 : decode cX12_image 30 = .ok (.getfield 88, 3) := by decide +kernel
theorem dX12_image_33 : decode cX12_image 33 = .ok (.iload_n 2, 1) := by decide +kernel
theorem dX12_image_34 : decode cX12_image 34 = .ok (.iaload, 1) := by decide +kernel
theorem dX12_image_35 : decode cX12_image 35 = .ok (.iastore, 1) := by decide +kernel
theorem dX12_image_36 : decode cX12_image 36 = .ok (.iinc 2 1, 3) := by decide +kernel
theorem dX12_image_39 : decode cX12_image 39 = .ok (.goto (-26), 3) := by decide +kernel
theorem dX12_image_42 : decode cX12_image 42 = .ok (.aload_n 0, 1) := by decide +kernel
theorem dX12_image_43 : decode cX12_image 43 = .ok (.getfield 130, 3) := by decide +kernel
theorem dX12_image_46 : decode cX12_image 46 = .ok (.iload_n 1, 1) := by decide +kernel
theorem dX12_image_47 : decode cX12_image 47 = .ok (.iconst 1, 1) := by decide +kernel
theorem dX12_image_48 : decode cX12_image 48 = .ok (.bastore, 1) := by decide +kernel
theorem dX12_image_49 : decode cX12_image 49 = .ok (.aload_n 0, 1) := by decide +kernel
theorem dX12_image_50 : decode cX12_image 50 = .ok (.getfield 88, 3) := by decide +kernel
theorem dX12_image_53 : decode cX12_image 53 = .ok (.bipush 112, 2) := by decide +kernel
theorem dX12_image_55 : decode cX12_image 55 = .ok (.iaload, 1) := by decide +kernel
theorem dX12_image_56 : decode cX12_image 56 = .ok (.ireturn, 1) := by decide +kernel
theorem dX12_init_0 : decode cX12_init 0 = .ok (.aload_n 0, 1) := by decide +kernel
theorem dX12_init_1 : decode cX12_init 1 = .ok (.invokespecial 1, 3) := by decide +kernel
theorem dX12_init_4 : decode cX12_init 4 = .ok (.aload_n 0, 1) := by decide +kernel
theorem dX12_init_5 : decode cX12_init 5 = .ok (.sipush 1620, 3) := by decide +kernel
theorem dX12_init_8 : decode cX12_init 8 = .ok (.newarray .byte, 2) := by decide +kernel
theorem dX12_init_10 : decode cX12_init 10 = .ok (.putfield 7, 3) := by decide +kernel
theorem dX12_init_13 : decode cX12_init 13 = .ok (.aload_n 0, 1) := by decide +kernel
theorem dX12_init_14 : decode cX12_init 14 = .ok (.sipush 1600, 3) := by decide +kernel
theorem dX12_init_17 : decode cX12_init 17 = .ok (.newarray .byte, 2) := by decide +kernel
theorem dX12_init_19 : decode cX12_init 19 = .ok (.putfield 13, 3) := by decide +kernel
