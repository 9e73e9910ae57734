theorem dX12_season_1 : decode cX12_season 1 = .ok (.getfield 88, 3) := by decide +kernel
theorem dX12_season_4 : decode cX12_season 4 = .ok (.bipush 112, 2) := by decide +kernel
theorem dX12_season_6 : decode cX12_season 6 = .ok (.iaload, 1) := by decide +kernel
theorem dX12_season_7 : decode cX12_season 7 = .ok (.sipush 999, 3) := by decide +kernel
theorem dX12_season_10 : decode cX12_season 10 = .ok (.if_icmp .ne 5, 3) := by decide +kernel
theorem dX12_season_15 : decode cX12_season 15 = .ok (.aload_n 0, 1) := by decide +kernel
theorem dX12_season_16 : decode cX12_season 16 = .ok (.invokevirtual 438, 3) := by decide +kernel
theorem dX12_season_19 : decode cX12_season 19 = .ok (.iconst 0, 1) := by decide +kernel
theorem dX12_season_20 : decode cX12_season 20 = .ok (.istore_n 1, 1) := by decide +kernel
theorem dX12_season_21 : decode cX12_season 21 = .ok (.iload_n 1, 1) := by decide +kernel
theorem dX12_season_22 : decode cX12_season 22 = .ok (.aload_n 0, 1) := by decide +kernel
theorem dX12_season_23 : decode cX12_season 23 = .ok (.invokevirtual 377, 3) := by decide +kernel
theorem dX12_season_26 : decode cX12_season 26 = .ok (.if_icmp .ge 70, 3) := by decide +kernel
theorem dX12_season_96 : decode cX12_season 96 = .ok (.aload_n 0, 1) := by decide +kernel
theorem dX12_season_97 : decode cX12_season 97 = .ok (.getfield 88, 3) := by decide +kernel
theorem dX12_season_100 : decode cX12_season 100 = .ok (.bipush 112, 2) := by decide +kernel
theorem dX12_season_102 : decode cX12_season 102 = .ok (.dup2, 1) := by decide +kernel
theorem dX12_season_103 : decode cX12_season 103 = .ok (.iaload, 1) := by decide +kernel
theorem dX12_season_104 : decode cX12_season 104 = .ok (.iconst 1, 1) := by decide +kernel
theorem dX12_season_105 : decode cX12_season 105 = .ok (.iadd, 1) := by decide +kernel
theorem dX12_season_106 : decode cX12_season 106 = .ok (.iastore, 1) := by decide +kernel
theorem dX12_season_107 : decode cX12_season 107 = .ok (.iconst 0, 1) := by decide +kernel
theorem dX12_season_108 : decode cX12_season 108 = .ok (.istore_n 1, 1) := by decide +kernel
theorem dX12_season_109 : decode cX12_season 109 = .ok (.iconst 0, 1) := by decide +kernel
theorem dX12_season_110 : decode cX12_season 110 = .ok (.istore_n 2, 1) := by decide +kernel
theorem dX12_season_111 : decode cX12_season 111 = .ok (.iload_n 2, 1) := by decide +kernel
theorem dX12_season_112 : decode cX12_season 112 = .ok (.aload_n 0, 1) := by decide +kernel
theorem dX12_season_113 : decode cX12_season 113 = .ok (.invokevirtual 377, 3) := by decide +kernel
theorem dX12_season_116 : decode cX12_season 116 = .ok (.if_icmp .ge 83, 3) := by decide +kernel
theorem dX12_season_199 : decode cX12_season 199 = .ok (.iload_n 1, 1) := by decide +kernel
theorem dX12_season_200 : decode cX12_season 200 = .ok (.ireturn, 1) := by decide +kernel
theorem dX12_seen_0 : decode cX12_seen 0 = .ok (.iload_n 1, 1) := by decide +kernel
theorem dX12_seen_1 : decode cX12_seen 1 = .ok (.iconst 1, 1) := by decide +kernel
theorem dX12_seen_2 : decode cX12_seen 2 = .ok (.iconst 2, 1) := by decide +kernel
theorem dX12_seen_3 : decode cX12_seen 3 = .ok (.invokestatic 370, 3) := by decide +kernel
theorem dX12_seen_6 : decode cX12_seen 6 = .ok (.ifCond .eq 29, 3) := by decide +kernel
theorem dX12_seen_9 : decode cX12_seen 9 = .ok (.iload_n 2, 1) := by decide +kernel
theorem dX12_seen_10 : decode cX12_seen 10 = .ok (.iconst 0, 1) := by decide +kernel
theorem dX12_seen_11 : decode cX12_seen 11 = .ok (.bipush 11, 2) := by decide +kernel
theorem dX12_seen_13 : decode cX12_seen 13 = .ok (.invokestatic 370, 3) := by decide +kernel
theorem dX12_seen_16 : decode cX12_seen 16 = .ok (.ifCond .eq 19, 3) := by decide +kernel
theorem dX12_seen_19 : decode cX12_seen 19 = .ok (.aload_n 0, 1) := by decide +kernel
theorem dX12_seen_20 : decode cX12_seen 20 = .ok (.getfield 398, 3) := by decide +kernel
theorem dX12_seen_23 : decode cX12_seen 23 = .ok (.bipush 30, 2) := by decide +kernel
theorem dX12_seen_25 : decode cX12_seen 25 = .ok (.if_icmp .eq 10, 3) := by decide +kernel
theorem dX12_seen_28 : decode cX12_seen 28 = .ok (.aload_n 0, 1) := by decide +kernel
theorem dX12_seen_29 : decode cX12_seen 29 = .ok (.invokevirtual 377, 3) := by decide +kernel
theorem dX12_seen_32 : decode cX12_seen 32 = .ok (.ifCond .ne 5, 3) := by decide +kernel
theorem dX12_seen_35 : decode cX12_seen 35 = .ok (.iconst (-1), 1) := by decide +kernel
theorem dX12_seen_36 : decode cX12_seen 36 = .ok (.ireturn, 1) := by decide +kernel
theorem dX12_sell_0 : decode cX12_sell 0 = .ok (.aload_n 0, 1) := by decide +kernel
theorem dX12_sell_1 : decode cX12_sell 1 = .ok (.iload_n 1, 1) := by decide +kernel
theorem dX12_sell_2 : decode cX12_sell 2 = .ok (.invokevirtual 420, 3) := by decide +kernel
theorem dX12_sell_5 : decode cX12_sell 5 = .ok (.ifCond .eq 24, 3) := by decide +kernel
theorem dX12_sell_29 : decode cX12_sell 29 = .ok (.iconst (-1), 1) := by decide +kernel
theorem dX12_sell_30 : decode cX12_sell 30 = .ok (.ireturn, 1) := by decide +kernel
theorem dX12_shared_0 : decode cX12_shared 0 = .ok (.aload_n 0, 1) := by decide +kernel
theorem dX12_shared_1 : decode cX12_shared 1 = .ok (.iload_n 1, 1) := by decide +kernel
theorem dX12_shared_2 : decode cX12_shared 2 = .ok (.invokevirtual 414, 3) := by decide +kernel
theorem dX12_shared_5 : decode cX12_shared 5 = .ok (.ifCond .eq 11, 3) := by decide +kernel
theorem dX12_shared_16 : decode cX12_shared 16 = .ok (.iconst (-1), 1) := by decide +kernel
theorem dX12_shared_17 : decode cX12_shared 17 = .ok (.ireturn, 1) := by decide +kernel
theorem dX12_shownAt_0 : decode cX12_shownAt 0 = .ok (.iconst 0, 1) := by decide +kernel
theorem dX12_shownAt_1 : decode cX12_shownAt 1 = .ok (.istore_n 3, 1) := by decide +kernel
theorem dX12_shownAt_2 : decode cX12_shownAt 2 = .ok (.iconst 0, 1) := by decide +kernel
theorem dX12_shownAt_3 : decode cX12_shownAt 3 = .ok (.istore 4, 2) := by decide +kernel
theorem dX12_shownAt_5 : decode cX12_shownAt 5 = .ok (.iload 4, 2) := by decide +kernel
theorem dX12_shownAt_7 : decode cX12_shownAt 7 = .ok (.aload_n 0, 1) := by decide +kernel
theorem dX12_shownAt_8 : decode cX12_shownAt 8 = .ok (.invokevirtual 377, 3) := by decide +kernel
theorem dX12_shownAt_11 : decode cX12_shownAt 11 = .ok (.if_icmp .ge 118, 3) := by decide +kernel
theorem dX12_shownAt_129 : decode cX12_shownAt 129 = .ok (.iload_n 3, 1) := by decide +kernel
theorem dX12_shownAt_130 : decode cX12_shownAt 130 = .ok (.ireturn, 1) := by decide +kernel
theorem dX12_sign_0 : decode cX12_sign 0 = .ok (.iload_n 1, 1) := by decide +kernel
theorem dX12_sign_1 : decode cX12_sign 1 = .ok (.aload_n 0, 1) := by decide +kernel
theorem dX12_sign_2 : decode cX12_sign 2 = .ok (.getfield 140, 3) := by decide +kernel
theorem dX12_sign_5 : decode cX12_sign 5 = .ok (.if_icmp .ge 16, 3) := by decide +kernel
theorem dX12_sign_21 : decode cX12_sign 21 = .ok (.iconst 0, 1) := by decide +kernel
theorem dX12_sign_22 : decode cX12_sign 22 = .ok (.ireturn, 1) := by decide +kernel
theorem dX12_startAnew_0 : decode cX12_startAnew 0 = .ok (.iconst 0, 1) := by decide +kernel
theorem dX12_startAnew_1 : decode cX12_startAnew 1 = .ok (.istore_n 1, 1) := by decide +kernel
theorem dX12_startAnew_2 : decode cX12_startAnew 2 = .ok (.iload_n 1, 1) := by decide +kernel
theorem dX12_startAnew_3 : decode cX12_startAnew 3 = .ok (.bipush 114, 2) := by decide +kernel
theorem dX12_startAnew_5 : decode cX12_startAnew 5 = .ok (.if_icmp .ge 16, 3) := by decide +kernel
theorem dX12_startAnew_8 : decode cX12_startAnew 8 = .ok (.aload_n 0, 1) := by decide +kernel
theorem dX12_startAnew_9 : decode cX12_startAnew 9 = .ok (.getfield 88, 3) := by decide +kernel
theorem dX12_startAnew_12 : decode cX12_startAnew 12 = .ok (.iload_n 1, 1) := by decide +kernel
theorem dX12_startAnew_13 : decode cX12_startAnew 13 = .ok (.iconst 0, 1) := by decide +kernel
theorem dX12_startAnew_14 : decode cX12_startAnew 14 = .ok (.iastore, 1) := by decide +kernel
theorem dX12_startAnew_15 : decode cX12_startAnew 15 = .ok (.iinc 1 1, 3) := by decide +kernel
theorem dX12_startAnew_18 : decode cX12_startAnew 18 = .ok (.goto (-16), 3) := by decide +kernel
theorem dX12_startAnew_21 : decode cX12_startAnew 21 = .ok (.iconst 0, 1) := by decide +kernel
theorem dX12_startAnew_22 : decode cX12_startAnew 22 = .ok (.istore_n 1, 1) := by decide +kernel
theorem dX12_startAnew_23 : decode cX12_startAnew 23 = .ok (.iload_n 1, 1) := by decide +kernel
theorem dX12_startAnew_24 : decode cX12_startAnew 24 = .ok (.aload_n 0, 1) := by decide +kernel
theorem dX12_startAnew_25 : decode cX12_startAnew 25 = .ok (.invokevirtual 377, 3) := by decide +kernel
theorem dX12_startAnew_28 : decode cX12_startAnew 28 = .ok (.if_icmp .ge 98, 3) := by decide +kernel
theorem dX12_startAnew_126 : decode cX12_startAnew 126 = .ok (.aload_n 0, 1) := by decide +kernel
theorem dX12_startAnew_127 : decode cX12_startAnew 127 = .ok (.getfield 88, 3) := by decide +kernel
theorem dX12_startAnew_130 : decode cX12_startAnew 130 = .ok (.bipush 113, 2) := by decide +kernel
theorem dX12_startAnew_132 : decode cX12_startAnew 132 = .ok (.aload_n 0, 1) := by decide +kernel
theorem dX12_startAnew_133 : decode cX12_startAnew 133 = .ok (.getfield 39, 3) := by decide +kernel
theorem dX12_startAnew_136 : decode cX12_startAnew 136 = .ok (.aload_n 0, 1) := by decide +kernel
theorem dX12_startAnew_137 : decode cX12_startAnew 137 = .ok (.getfield 250, 3) := by decide +kernel
theorem dX12_startAnew_140 : decode cX12_startAnew 140 = .ok (.iaload, 1) := by decide +kernel
theorem dX12_startAnew_141 : decode cX12_startAnew 141 = .ok (.iastore, 1) := by decide +kernel
theorem dX12_startAnew_142 : decode cX12_startAnew 142 = .ok (.aload_n 0, 1) := by decide +kernel
theorem dX12_startAnew_143 : decode cX12_startAnew 143 = .ok (.invokevirtual 389, 3) := by decide +kernel
theorem dX12_startAnew_146 : decode cX12_startAnew 146 = .ok (.aload_n 0, 1) := by decide +kernel
theorem dX12_startAnew_147 : decode cX12_startAnew 147 = .ok (.iconst 0, 1) := by decide +kernel
theorem dX12_startAnew_148 : decode cX12_startAnew 148 = .ok (.putfield 392, 3) := by decide +kernel
theorem dX12_startAnew_151 : decode cX12_startAnew 151 = .ok (.aload_n 0, 1) := by decide +kernel
theorem dX12_startAnew_152 : decode cX12_startAnew 152 = .ok (.iconst 0, 1) := by decide +kernel
theorem dX12_startAnew_153 : decode cX12_startAnew 153 = .ok (.putfield 395, 3) := by decide +kernel
theorem dX12_startAnew_156 : decode cX12_startAnew 156 = .ok (.aload_n 0, 1) := by decide +kernel
theorem dX12_startAnew_157 : decode cX12_startAnew 157 = .ok (.iconst 0, 1) := by decide +kernel
theorem dX12_startAnew_158 : decode cX12_startAnew 158 = .ok (.putfield 398, 3) := by decide +kernel
theorem dX12_startAnew_161 : decode cX12_startAnew 161 = .ok (.aload_n 0, 1) := by decide +kernel
theorem dX12_startAnew_162 : decode cX12_startAnew 162 = .ok (.iconst 0, 1) := by decide +kernel
theorem dX12_startAnew_163 : decode cX12_startAnew 163 = .ok (.putfield 401, 3) := by decide +kernel
theorem dX12_startAnew_166 : decode cX12_startAnew 166 = .ok (.iconst 0, 1) := by decide +kernel
theorem dX12_startAnew_167 : decode cX12_startAnew 167 = .ok (.istore_n 1, 1) := by decide +kernel
theorem dX12_startAnew_168 : decode cX12_startAnew 168 = .ok (.iload_n 1, 1) := by decide +kernel
theorem dX12_startAnew_169 : decode cX12_startAnew 169 = .ok (.iconst 3, 1) := by decide +kernel
theorem dX12_startAnew_170 : decode cX12_startAnew 170 = .ok (.if_icmp .ge 16, 3) := by decide +kernel
theorem dX12_startAnew_173 : decode cX12_startAnew 173 = .ok (.aload_n 0, 1) := by decide +kernel
theorem dX12_startAnew_174 : decode cX12_startAnew 174 = .ok (.getfield 130, 3) := by decide +kernel
theorem dX12_startAnew_177 : decode cX12_startAnew 177 = .ok (.iload_n 1, 1) := by decide +kernel
theorem dX12_startAnew_178 : decode cX12_startAnew 178 = .ok (.iconst 0, 1) := by decide +kernel
theorem dX12_startAnew_179 : decode cX12_startAnew 179 = .ok (.bastore, 1) := by decide +kernel
theorem dX12_startAnew_180 : decode cX12_startAnew 180 = .ok (.iinc 1 1, 3) := by decide +kernel
theorem dX12_startAnew_183 : decode cX12_startAnew 183 = .ok (.goto (-15), 3) := by decide +kernel
theorem dX12_startAnew_186 : decode cX12_startAnew 186 = .ok (.return_, 1) := by decide +kernel
theorem dX12_stocks_0 : decode cX12_stocks 0 = .ok (.aload_n 0, 1) := by decide +kernel
theorem dX12_stocks_1 : decode cX12_stocks 1 = .ok (.getfield 24, 3) := by decide +kernel
theorem dX12_stocks_4 : decode cX12_stocks 4 = .ok (.aload_n 0, 1) := by decide +kernel
theorem dX12_stocks_5 : decode cX12_stocks 5 = .ok (.getfield 250, 3) := by decide +kernel
theorem dX12_stocks_8 : decode cX12_stocks 8 = .ok (.iaload, 1) := by decide +kernel
theorem dX12_stocks_9 : decode cX12_stocks 9 = .ok (.ireturn, 1) := by decide +kernel
theorem dX12_strays_0 : decode cX12_strays 0 = .ok (.iconst 0, 1) := by decide +kernel
theorem dX12_strays_1 : decode cX12_strays 1 = .ok (.istore_n 1, 1) := by decide +kernel
theorem dX12_strays_2 : decode cX12_strays 2 = .ok (.iconst 0, 1) := by decide +kernel
theorem dX12_strays_3 : decode cX12_strays 3 = .ok (.istore_n 2, 1) := by decide +kernel
theorem dX12_strays_4 : decode cX12_strays 4 = .ok (.iload_n 2, 1) := by decide +kernel
theorem dX12_strays_5 : decode cX12_strays 5 = .ok (.aload_n 0, 1) := by decide +kernel
theorem dX12_strays_6 : decode cX12_strays 6 = .ok (.invokevirtual 377, 3) := by decide +kernel
theorem dX12_strays_9 : decode cX12_strays 9 = .ok (.if_icmp .ge 43, 3) := by decide +kernel
theorem dX12_strays_52 : decode cX12_strays 52 = .ok (.iload_n 1, 1) := by decide +kernel
theorem dX12_strays_53 : decode cX12_strays 53 = .ok (.ireturn, 1) := by decide +kernel
theorem dX12_sure_0 : decode cX12_sure 0 = .ok (.iload_n 1, 1) := by decide +kernel
theorem dX12_sure_1 : decode cX12_sure 1 = .ok (.iconst 1, 1) := by decide +kernel
theorem dX12_sure_2 : decode cX12_sure 2 = .ok (.iconst 2, 1) := by decide +kernel
theorem dX12_sure_3 : decode cX12_sure 3 = .ok (.invokestatic 370, 3) := by decide +kernel
theorem dX12_sure_6 : decode cX12_sure 6 = .ok (.ifCond .ne 5, 3) := by decide +kernel
theorem dX12_sure_9 : decode cX12_sure 9 = .ok (.iconst (-1), 1) := by decide +kernel
theorem dX12_sure_10 : decode cX12_sure 10 = .ok (.ireturn, 1) := by decide +kernel
theorem dX12_sure_11 : decode cX12_sure 11 = .ok (.aload_n 0, 1) := by decide +kernel
theorem dX12_sure_12 : decode cX12_sure 12 = .ok (.iload_n 2, 1) := by decide +kernel
theorem dX12_sure_13 : decode cX12_sure 13 = .ok (.invokevirtual 488, 3) := by decide +kernel
theorem dX12_sure_16 : decode cX12_sure 16 = .ok (.aload_n 0, 1) := by decide +kernel
theorem dX12_sure_17 : decode cX12_sure 17 = .ok (.getfield 482, 3) := by decide +kernel
theorem dX12_sure_20 : decode cX12_sure 20 = .ok (.ifCond .ne 5, 3) := by decide +kernel
theorem dX12_sure_23 : decode cX12_sure 23 = .ok (.iconst (-1), 1) := by decide +kernel
theorem dX12_sure_24 : decode cX12_sure 24 = .ok (.ireturn, 1) := by decide +kernel
theorem dX12_tells_0 : decode cX12_tells 0 = .ok (.iconst (-1), 1) := by decide +kernel
theorem dX12_tells_1 : decode cX12_tells 1 = .ok (.istore_n 1, 1) := by decide +kernel
theorem dX12_tells_2 : decode cX12_tells 2 = .ok (.iconst 0, 1) := by decide +kernel
theorem dX12_tells_3 : decode cX12_tells 3 = .ok (.istore_n 2, 1) := by decide +kernel
theorem dX12_tells_4 : decode cX12_tells 4 = .ok (.iconst 0, 1) := by decide +kernel
theorem dX12_tells_5 : decode cX12_tells 5 = .ok (.istore_n 3, 1) := by decide +kernel
theorem dX12_tells_6 : decode cX12_tells 6 = .ok (.iload_n 3, 1) := by decide +kernel
theorem dX12_tells_7 : decode cX12_tells 7 = .ok (.bipush 12, 2) := by decide +kernel
theorem dX12_tells_9 : decode cX12_tells 9 = .ok (.if_icmp .ge 100, 3) := by decide +kernel
theorem dX12_tells_12 : decode cX12_tells 12 = .ok (.aload_n 0, 1) := by decide +kernel
theorem dX12_tells_13 : decode cX12_tells 13 = .ok (.invokevirtual 377, 3) := by decide +kernel
theorem dX12_tells_16 : decode cX12_tells 16 = .ok (.ifCond .le 93, 3) := by decide +kernel
theorem dX12_tells_109 : decode cX12_tells 109 = .ok (.iload_n 1, 1) := by decide +kernel
theorem dX12_tells_110 : decode cX12_tells 110 = .ok (.ireturn, 1) := by decide +kernel
theorem dX12_tempt_0 : decode cX12_tempt 0 = .ok (.aload_n 0, 1) := by decide +kernel
theorem dX12_tempt_1 : decode cX12_tempt 1 = .ok (.iload_n 1, 1) := by decide +kernel
theorem dX12_tempt_2 : decode cX12_tempt 2 = .ok (.invokevirtual 420, 3) := by decide +kernel
theorem dX12_tempt_5 : decode cX12_tempt 5 = .ok (.ifCond .eq 12, 3) := by decide +kernel
theorem dX12_tempt_17 : decode cX12_tempt 17 = .ok (.iconst (-1), 1) := by decide +kernel
theorem dX12_tempt_18 : decode cX12_tempt 18 = .ok (.ireturn, 1) := by decide +kernel
theorem dX12_tools_0 : decode cX12_tools 0 = .ok (.aload_n 0, 1) := by decide +kernel
theorem dX12_tools_1 : decode cX12_tools 1 = .ok (.getfield 27, 3) := by decide +kernel
theorem dX12_tools_4 : decode cX12_tools 4 = .ok (.aload_n 0, 1) := by decide +kernel
theorem dX12_tools_5 : decode cX12_tools 5 = .ok (.getfield 250, 3) := by decide +kernel
theorem dX12_tools_8 : decode cX12_tools 8 = .ok (.iaload, 1) := by decide +kernel
theorem dX12_tools_9 : decode cX12_tools 9 = .ok (.ireturn, 1) := by decide +kernel
theorem dX12_twins_0 : decode cX12_twins 0 = .ok (.iconst 0, 1) := by decide +kernel
theorem dX12_twins_1 : decode cX12_twins 1 = .ok (.istore_n 1, 1) := by decide +kernel
theorem dX12_twins_2 : decode cX12_twins 2 = .ok (.iconst 0, 1) := by decide +kernel
theorem dX12_twins_3 : decode cX12_twins 3 = .ok (.istore_n 2, 1) := by decide +kernel
theorem dX12_twins_4 : decode cX12_twins 4 = .ok (.iload_n 2, 1) := by decide +kernel
theorem dX12_twins_5 : decode cX12_twins 5 = .ok (.aload_n 0, 1) := by decide +kernel
theorem dX12_twins_6 : decode cX12_twins 6 = .ok (.invokevirtual 367, 3) := by decide +kernel
theorem dX12_twins_9 : decode cX12_twins 9 = .ok (.if_icmp .ge 47, 3) := by decide +kernel
theorem dX12_twins_56 : decode cX12_twins 56 = .ok (.iload_n 1, 1) := by decide +kernel
theorem dX12_twins_57 : decode cX12_twins 57 = .ok (.ireturn, 1) := by decide +kernel
theorem dX12_under_0 : decode cX12_under 0 = .ok (.iload_n 1, 1) := by decide +kernel
theorem dX12_under_1 : decode cX12_under 1 = .ok (.invokestatic 426, 3) := by decide +kernel
theorem dX12_under_4 : decode cX12_under 4 = .ok (.ifCond .eq 10, 3) := by decide +kernel
theorem dX12_under_7 : decode cX12_under 7 = .ok (.iload_n 2, 1) := by decide +kernel
theorem dX12_under_8 : decode cX12_under 8 = .ok (.invokestatic 426, 3) := by decide +kernel
theorem dX12_under_11 : decode cX12_under 11 = .ok (.ifCond .ne 5, 3) := by decide +kernel
theorem dX12_under_14 : decode cX12_under 14 = .ok (.iconst (-1), 1) := by decide +kernel
theorem dX12_under_15 : decode cX12_under 15 = .ok (.ireturn, 1) := by decide +kernel
theorem dX12_under_16 : decode cX12_under 16 = .ok (.aload_n 0, 1) := by decide +kernel
theorem dX12_under_17 : decode cX12_under 17 = .ok (.iload_n 1, 1) := by decide +kernel
theorem dX12_under_18 : decode cX12_under 18 = .ok (.iload_n 2, 1) := by decide +kernel
theorem dX12_under_19 : decode cX12_under 19 = .ok (.invokevirtual 429, 3) := by decide +kernel
theorem dX12_under_22 : decode cX12_under 22 = .ok (.ifCond .eq 7, 3) := by decide +kernel
theorem dX12_under_25 : decode cX12_under 25 = .ok (.iconst 1, 1) := by decide +kernel
theorem dX12_under_26 : decode cX12_under 26 = .ok (.goto 4, 3) := by decide +kernel
theorem dX12_under_29 : decode cX12_under 29 = .ok (.iconst 0, 1) := by decide +kernel
theorem dX12_under_30 : decode cX12_under 30 = .ok (.ireturn, 1) := by decide +kernel
theorem dX12_undo_0 : decode cX12_undo 0 = .ok (.aload_n 0, 1) := by decide +kernel
theorem dX12_undo_1 : decode cX12_undo 1 = .ok (.getfield 392, 3) := by decide +kernel
theorem dX12_undo_4 : decode cX12_undo 4 = .ok (.ifCond .ne 5, 3) := by decide +kernel
theorem dX12_undo_7 : decode cX12_undo 7 = .ok (.iconst 0, 1) := by decide +kernel
theorem dX12_undo_8 : decode cX12_undo 8 = .ok (.ireturn, 1) := by decide +kernel
theorem dX12_untell_0 : decode cX12_untell 0 = .ok (.iload_n 1, 1) := by decide +kernel
theorem dX12_untell_1 : decode cX12_untell 1 = .ok (.iconst 0, 1) := by decide +kernel
theorem dX12_untell_2 : decode cX12_untell 2 = .ok (.aload_n 0, 1) := by decide +kernel
theorem dX12_untell_3 : decode cX12_untell 3 = .ok (.getfield 398, 3) := by decide +kernel
theorem dX12_untell_6 : decode cX12_untell 6 = .ok (.iconst 1, 1) := by decide +kernel
theorem dX12_untell_7 : decode cX12_untell 7 = .ok (.isub, 1) := by decide +kernel
theorem dX12_untell_8 : decode cX12_untell 8 = .ok (.invokestatic 370, 3) := by decide +kernel
theorem dX12_untell_11 : decode cX12_untell 11 = .ok (.ifCond .eq 12, 3) := by decide +kernel
theorem dX12_untell_23 : decode cX12_untell 23 = .ok (.iconst 0, 1) := by decide +kernel
theorem dX12_untell_24 : decode cX12_untell 24 = .ok (.ireturn, 1) := by decide +kernel
theorem dX12_untouched_0 : decode cX12_untouched 0 = .ok (.sipush 4095, 3) := by decide +kernel
theorem dX12_untouched_3 : decode cX12_untouched 3 = .ok (.istore_n 1, 1) := by decide +kernel
theorem dX12_untouched_4 : decode cX12_untouched 4 = .ok (.iconst 0, 1) := by decide +kernel
theorem dX12_untouched_5 : decode cX12_untouched 5 = .ok (.istore_n 2, 1) := by decide +kernel
theorem dX12_untouched_6 : decode cX12_untouched 6 = .ok (.iload_n 2, 1) := by decide +kernel
theorem dX12_untouched_7 : decode cX12_untouched 7 = .ok (.aload_n 0, 1) := by decide +kernel
theorem dX12_untouched_8 : decode cX12_untouched 8 = .ok (.invokevirtual 377, 3) := by decide +kernel
theorem dX12_untouched_11 : decode cX12_untouched 11 = .ok (.if_icmp .ge 22, 3) := by decide +kernel
theorem dX12_untouched_33 : decode cX12_untouched 33 = .ok (.iload_n 1, 1) := by decide +kernel
theorem dX12_untouched_34 : decode cX12_untouched 34 = .ok (.ireturn, 1) := by decide +kernel
theorem dX12_useful_0 : decode cX12_useful 0 = .ok (.iconst 0, 1) := by decide +kernel
theorem dX12_useful_1 : decode cX12_useful 1 = .ok (.istore_n 1, 1) := by decide +kernel
theorem dX12_useful_2 : decode cX12_useful 2 = .ok (.iconst 0, 1) := by decide +kernel
theorem dX12_useful_3 : decode cX12_useful 3 = .ok (.istore_n 2, 1) := by decide +kernel
theorem dX12_useful_4 : decode cX12_useful 4 = .ok (.iload_n 2, 1) := by decide +kernel
theorem dX12_useful_5 : decode cX12_useful 5 = .ok (.aload_n 0, 1) := by decide +kernel
theorem dX12_useful_6 : decode cX12_useful 6 = .ok (.invokevirtual 374, 3) := by decide +kernel
theorem dX12_useful_9 : decode cX12_useful 9 = .ok (.aload_n 0, 1) := by decide +kernel
theorem dX12_useful_10 : decode cX12_useful 10 = .ok (.invokevirtual 358, 3) := by decide +kernel
theorem dX12_useful_13 : decode cX12_useful 13 = .ok (.imul, 1) := by decide +kernel
theorem dX12_useful_14 : decode cX12_useful 14 = .ok (.if_icmp .ge 97, 3) := by decide +kernel
theorem dX12_useful_111 : decode cX12_useful 111 = .ok (.iload_n 1, 1) := by decide +kernel
theorem dX12_useful_112 : decode cX12_useful 112 = .ok (.ireturn, 1) := by decide +kernel
theorem dX12_valley_0 : decode cX12_valley 0 = .ok (.aload_n 0, 1) := by decide +kernel
theorem dX12_valley_1 : decode cX12_valley 1 = .ok (.iconst 0, 1) := by decide +kernel
theorem dX12_valley_2 : decode cX12_valley 2 = .ok (.putfield 143, 3) := by decide +kernel
theorem dX12_valley_5 : decode cX12_valley 5 = .ok (.aload_n 0, 1) := by decide +kernel
theorem dX12_valley_6 : decode cX12_valley 6 = .ok (.iconst (-1), 1) := by decide +kernel
theorem dX12_valley_7 : decode cX12_valley 7 = .ok (.putfield 16, 3) := by decide +kernel
theorem dX12_valley_10 : decode cX12_valley 10 = .ok (.aload_n 0, 1) := by decide +kernel
theorem dX12_valley_11 : decode cX12_valley 11 = .ok (.aload_n 0, 1) := by decide +kernel
theorem dX12_valley_12 : decode cX12_valley 12 = .ok (.getfield 247, 3) := by decide +kernel
theorem dX12_valley_15 : decode cX12_valley 15 = .ok (.putfield 140, 3) := by decide +kernel
theorem dX12_valley_18 : decode cX12_valley 18 = .ok (.iconst 0, 1) := by decide +kernel
theorem dX12_valley_19 : decode cX12_valley 19 = .ok (.istore_n 1, 1) := by decide +kernel
theorem dX12_valley_20 : decode cX12_valley 20 = .ok (.iload_n 1, 1) := by decide +kernel
theorem dX12_valley_21 : decode cX12_valley 21 = .ok (.aload_n 0, 1) := by decide +kernel
theorem dX12_valley_22 : decode cX12_valley 22 = .ok (.getfield 140, 3) := by decide +kernel
theorem dX12_valley_25 : decode cX12_valley 25 = .ok (.if_icmp .ge 21, 3) := by decide +kernel
theorem dX12_valley_46 : decode cX12_valley 46 = .ok (.aload_n 0, 1) := by decide +kernel
theorem dX12_valley_47 : decode cX12_valley 47 = .ok (.iconst 0, 1) := by decide +kernel
theorem dX12_valley_48 : decode cX12_valley 48 = .ok (.putfield 247, 3) := by decide +kernel
theorem dX12_valley_51 : decode cX12_valley 51 = .ok (.aload_n 0, 1) := by decide +kernel
theorem dX12_valley_52 : decode cX12_valley 52 = .ok (.iconst 0, 1) := by decide +kernel
theorem dX12_valley_53 : decode cX12_valley 53 = .ok (.putfield 182, 3) := by decide +kernel
theorem dX12_valley_56 : decode cX12_valley 56 = .ok (.aload_n 0, 1) := by decide +kernel
theorem dX12_valley_57 : decode cX12_valley 57 = .ok (.iconst 1, 1) := by decide +kernel
theorem dX12_valley_58 : decode cX12_valley 58 = .ok (.aload_n 0, 1) := by decide +kernel
theorem dX12_valley_59 : decode cX12_valley 59 = .ok (.getfield 250, 3) := by decide +kernel
theorem dX12_valley_62 : decode cX12_valley 62 = .ok (.isub, 1) := by decide +kernel
theorem dX12_valley_63 : decode cX12_valley 63 = .ok (.putfield 241, 3) := by decide +kernel
theorem dX12_valley_66 : decode cX12_valley 66 = .ok (.aload_n 0, 1) := by decide +kernel
theorem dX12_valley_67 : decode cX12_valley 67 = .ok (.invokevirtual 134, 3) := by decide +kernel
theorem dX12_valley_70 : decode cX12_valley 70 = .ok (.aload_n 0, 1) := by decide +kernel
theorem dX12_valley_71 : decode cX12_valley 71 = .ok (.invokevirtual 224, 3) := by decide +kernel
theorem dX12_valley_74 : decode cX12_valley 74 = .ok (.aload_n 0, 1) := by decide +kernel
theorem dX12_valley_75 : decode cX12_valley 75 = .ok (.invokevirtual 220, 3) := by decide +kernel
theorem dX12_valley_78 : decode cX12_valley 78 = .ok (.ifCond .eq 17, 3) := by decide +kernel
theorem dX12_valley_81 : decode cX12_valley 81 = .ok (.aload_n 0, 1) := by decide +kernel
theorem dX12_valley_82 : decode cX12_valley 82 = .ok (.getfield 192, 3) := by decide +kernel
theorem dX12_valley_85 : decode cX12_valley 85 = .ok (.ifCond .eq 10, 3) := by decide +kernel
theorem dX12_valley_95 : decode cX12_valley 95 = .ok (.aload_n 0, 1) := by decide +kernel
theorem dX12_valley_96 : decode cX12_valley 96 = .ok (.invokevirtual 220, 3) := by decide +kernel
theorem dX12_valley_99 : decode cX12_valley 99 = .ok (.ifCond .ne 5, 3) := by decide +kernel
theorem dX12_valley_104 : decode cX12_valley 104 = .ok (.aload_n 0, 1) := by decide +kernel
theorem dX12_valley_105 : decode cX12_valley 105 = .ok (.aload_n 0, 1) := by decide +kernel
theorem dX12_valley_106 : decode cX12_valley 106 = .ok (.getfield 241, 3) := by decide +kernel
theorem dX12_valley_109 : decode cX12_valley 109 = .ok (.putfield 250, 3) := by decide +kernel
theorem dX12_valley_112 : decode cX12_valley 112 = .ok (.aload_n 0, 1) := by decide +kernel
theorem dX12_valley_113 : decode cX12_valley 113 = .ok (.invokevirtual 137, 3) := by decide +kernel
theorem dX12_valley_116 : decode cX12_valley 116 = .ok (.aload_n 0, 1) := by decide +kernel
theorem dX12_valley_117 : decode cX12_valley 117 = .ok (.getfield 24, 3) := by decide +kernel
theorem dX12_valley_120 : decode cX12_valley 120 = .ok (.aload_n 0, 1) := by decide +kernel
theorem dX12_valley_121 : decode cX12_valley 121 = .ok (.getfield 250, 3) := by decide +kernel
theorem dX12_valley_124 : decode cX12_valley 124 = .ok (.iaload, 1) := by decide +kernel
theorem dX12_valley_125 : decode cX12_valley 125 = .ok (.ireturn, 1) := by decide +kernel
theorem dX12_will_0 : decode cX12_will 0 = .ok (.iload_n 1, 1) := by decide +kernel
theorem dX12_will_1 : decode cX12_will 1 = .ok (.iconst 0, 1) := by decide +kernel
theorem dX12_will_2 : decode cX12_will 2 = .ok (.bipush 60, 2) := by decide +kernel
theorem dX12_will_4 : decode cX12_will 4 = .ok (.invokestatic 370, 3) := by decide +kernel
theorem dX12_will_7 : decode cX12_will 7 = .ok (.ifCond .eq 12, 3) := by decide +kernel
theorem dX12_will_10 : decode cX12_will 10 = .ok (.aload_n 0, 1) := by decide +kernel
theorem dX12_will_11 : decode cX12_will 11 = .ok (.iload_n 1, 1) := by decide +kernel
theorem dX12_will_12 : decode cX12_will 12 = .ok (.iconst (-1), 1) := by decide +kernel
theorem dX12_will_13 : decode cX12_will 13 = .ok (.invokevirtual 435, 3) := by decide +kernel
theorem dX12_will_16 : decode cX12_will 16 = .ok (.goto 4, 3) := by decide +kernel
theorem dX12_will_19 : decode cX12_will 19 = .ok (.iconst (-1), 1) := by decide +kernel
theorem dX12_will_20 : decode cX12_will 20 = .ok (.ireturn, 1) := by decide +kernel
theorem dX1_allHerds_0 : decode cX1_allHerds 0 = .ok (.iconst 1, 1) := by decide +kernel
theorem dX1_allHerds_1 : decode cX1_allHerds 1 = .ok (.aload_n 0, 1) := by decide +kernel
theorem dX1_allHerds_2 : decode cX1_allHerds 2 = .ok (.getfield 28, 3) := by decide +kernel
theorem dX1_allHerds_5 : decode cX1_allHerds 5 = .ok (.getfield 40, 3) := by decide +kernel
theorem dX1_allHerds_8 : decode cX1_allHerds 8 = .ok (.ishl, 1) := by decide +kernel
theorem dX1_allHerds_9 : decode cX1_allHerds 9 = .ok (.iconst 1, 1) := by decide +kernel
theorem dX1_allHerds_10 : decode cX1_allHerds 10 = .ok (.isub, 1) := by decide +kernel
theorem dX1_allHerds_11 : decode cX1_allHerds 11 = .ok (.ireturn, 1) := by decide +kernel
theorem dX1_bottomHerds_0 : decode cX1_bottomHerds 0 = .ok (.aload_n 0, 1) := by decide +kernel
theorem dX1_bottomHerds_1 : decode cX1_bottomHerds 1 = .ok (.invokevirtual 69, 3) := by decide +kernel
theorem dX1_bottomHerds_4 : decode cX1_bottomHerds 4 = .ok (.istore_n 1, 1) := by decide +kernel
theorem dX1_bottomHerds_5 : decode cX1_bottomHerds 5 = .ok (.iconst 0, 1) := by decide +kernel
theorem dX1_bottomHerds_6 : decode cX1_bottomHerds 6 = .ok (.istore_n 2, 1) := by decide +kernel
theorem dX1_bottomHerds_7 : decode cX1_bottomHerds 7 = .ok (.iload_n 2, 1) := by decide +kernel
theorem dX1_bottomHerds_8 : decode cX1_bottomHerds 8 = .ok (.aload_n 0, 1) := by decide +kernel
theorem dX1_bottomHerds_9 : decode cX1_bottomHerds 9 = .ok (.getfield 28, 3) := by decide +kernel
theorem dX1_bottomHerds_12 : decode cX1_bottomHerds 12 = .ok (.getfield 40, 3) := by decide +kernel
theorem dX1_bottomHerds_15 : decode cX1_bottomHerds 15 = .ok (.if_icmp .ge 20, 3) := by decide +kernel
theorem dX1_bottomHerds_35 : decode cX1_bottomHerds 35 = .ok (.iload_n 1, 1) := by decide +kernel
theorem dX1_bottomHerds_36 : decode cX1_bottomHerds 36 = .ok (.ireturn, 1) := by decide +kernel
theorem dX1_compareBrands_0 : decode cX1_compareBrands 0 = .ok (.aload_n 0, 1) := by decide +kernel
theorem dX1_compareBrands_1 : decode cX1_compareBrands 1 = .ok (.iconst 0, 1) := by decide +kernel
theorem dX1_compareBrands_2 : decode cX1_compareBrands 2 = .ok (.putfield 24, 3) := by decide +kernel
theorem dX1_compareBrands_5 : decode cX1_compareBrands 5 = .ok (.iconst 0, 1) := by decide +kernel
theorem dX1_compareBrands_6 : decode cX1_compareBrands 6 = .ok (.istore_n 1, 1) := by decide +kernel
theorem dX1_compareBrands_7 : decode cX1_compareBrands 7 = .ok (.iload_n 1, 1) := by decide +kernel
theorem dX1_compareBrands_8 : decode cX1_compareBrands 8 = .ok (.aload_n 0, 1) := by decide +kernel
theorem dX1_compareBrands_9 : decode cX1_compareBrands 9 = .ok (.getfield 28, 3) := by decide +kernel
theorem dX1_compareBrands_12 : decode cX1_compareBrands 12 = .ok (.getfield 40, 3) := by decide +kernel
theorem dX1_compareBrands_15 : decode cX1_compareBrands 15 = .ok (.if_icmp .ge 86, 3) := by decide +kernel
theorem dX1_compareBrands_101 : decode cX1_compareBrands 101 = .ok (.iconst 0, 1) := by decide +kernel
theorem dX1_compareBrands_102 : decode cX1_compareBrands 102 = .ok (.istore_n 1, 1) := by decide +kernel
theorem dX1_compareBrands_103 : decode cX1_compareBrands 103 = .ok (.iload_n 1, 1) := by decide +kernel
theorem dX1_compareBrands_104 : decode cX1_compareBrands 104 = .ok (.aload_n 0, 1) := by decide +kernel
theorem dX1_compareBrands_105 : decode cX1_compareBrands 105 = .ok (.getfield 28, 3) := by decide +kernel
theorem dX1_compareBrands_108 : decode cX1_compareBrands 108 = .ok (.getfield 40, 3) := by decide +kernel
theorem dX1_compareBrands_111 : decode cX1_compareBrands 111 = .ok (.if_icmp .ge 20, 3) := by decide +kernel
theorem dX1_compareBrands_131 : decode cX1_compareBrands 131 = .ok (.return_, 1) := by decide +kernel
theorem dX1_init_0 : decode cX1_init 0 = .ok (.aload_n 0, 1) := by decide +kernel
theorem dX1_init_1 : decode cX1_init 1 = .ok (.invokespecial 3, 3) := by decide +kernel
theorem dX1_init_4 : decode cX1_init 4 = .ok (.aload_n 0, 1) := by decide +kernel
theorem dX1_init_5 : decode cX1_init 5 = .ok (.bipush 8, 2) := by decide +kernel
theorem dX1_init_7 : decode cX1_init 7 = .ok (.newarray .int, 2) := by decide +kernel
theorem dX1_init_9 : decode cX1_init 9 = .ok (.putfield 9, 3) := by decide +kernel
theorem dX1_init_12 : decode cX1_init 12 = .ok (.aload_n 0, 1) := by decide +kernel
theorem dX1_init_13 : decode cX1_init 13 = .ok (.bipush 8, 2) := by decide +kernel
theorem dX1_init_15 : decode cX1_init 15 = .ok (.newarray .int, 2) := by decide +kernel
theorem dX1_init_17 : decode cX1_init 17 = .ok (.putfield 15, 3) := by decide +kernel
theorem dX1_init_20 : decode cX1_init 20 = .ok (.aload_n 0, 1) := by decide +kernel
theorem dX1_init_21 : decode cX1_init 21 = .ok (.bipush 8, 2) := by decide +kernel
theorem dX1_init_23 : decode cX1_init 23 = .ok (.newarray .int, 2) := by decide +kernel
theorem dX1_init_25 : decode cX1_init 25 = .ok (.putfield 18, 3) := by decide +kernel
theorem dX1_init_28 : decode cX1_init 28 = .ok (.aload_n 0, 1) := by decide +kernel
theorem dX1_init_29 : decode cX1_init 29 = .ok (.bipush 64, 2) := by decide +kernel
theorem dX1_init_31 : decode cX1_init 31 = .ok (.newarray .int, 2) := by decide +kernel
theorem dX1_init_33 : decode cX1_init 33 = .ok (.putfield 21, 3) := by decide +kernel
theorem dX1_init_36 : decode cX1_init 36 = .ok (.aload_n 0, 1) := by decide +kernel
theorem dX1_init_37 : decode cX1_init 37 = .ok (.iconst 0, 1) := by decide +kernel
theorem dX1_init_38 : decode cX1_init 38 = .ok (.putfield 24, 3) := by decide +kernel
theorem dX1_init_41 : decode cX1_init 41 = .ok (.aload_n 0, 1) := by decide +kernel
theorem dX1_init_42 : decode cX1_init 42 = .ok (.aload_n 1, 1) := by decide +kernel
theorem dX1_init_43 : decode cX1_init 43 = .ok (.putfield 28, 3) := by decide +kernel
theorem dX1_init_46 : decode cX1_init 46 = .ok (.aload_n 0, 1) := by decide +kernel
theorem dX1_init_47 : decode cX1_init 47 = .ok (.aload_n 2, 1) := by decide +kernel
theorem dX1_init_48 : decode cX1_init 48 = .ok (.putfield 32, 3) := by decide +kernel
theorem dX1_init_51 : decode cX1_init 51 = .ok (.aload_n 0, 1) := by decide +kernel
theorem dX1_init_52 : decode cX1_init 52 = .ok (.aload_n 3, 1) := by decide +kernel
theorem dX1_init_53 : decode cX1_init 53 = .ok (.putfield 36, 3) := by decide +kernel
theorem dX1_init_56 : decode cX1_init 56 = .ok (.return_, 1) := by decide +kernel
theorem dX1_isClosed_0 : decode cX1_isClosed 0 = .ok (.aload_n 0, 1) := by decide +kernel
theorem dX1_isClosed_1 : decode cX1_isClosed 1 = .ok (.invokevirtual 72, 3) := by decide +kernel
theorem dX1_isClosed_4 : decode cX1_isClosed 4 = .ok (.aload_n 0, 1) := by decide +kernel
theorem dX1_isClosed_5 : decode cX1_isClosed 5 = .ok (.invokevirtual 69, 3) := by decide +kernel
theorem dX1_isClosed_8 : decode cX1_isClosed 8 = .ok (.if_icmp .ne 14, 3) := by decide +kernel
theorem dX1_isClosed_11 : decode cX1_isClosed 11 = .ok (.aload_n 0, 1) := by decide +kernel
theorem dX1_isClosed_12 : decode cX1_isClosed 12 = .ok (.invokevirtual 75, 3) := by decide +kernel
theorem dX1_isClosed_15 : decode cX1_isClosed 15 = .ok (.ifCond .ne 7, 3) := by decide +kernel
theorem dX1_isClosed_18 : decode cX1_isClosed 18 = .ok (.iconst 1, 1) := by decide +kernel
theorem dX1_isClosed_19 : decode cX1_isClosed 19 = .ok (.goto 4, 3) := by decide +kernel
theorem dX1_isClosed_23 : decode cX1_isClosed 23 = .ok (.ireturn, 1) := by decide +kernel
theorem dX1_longestChain_0 : decode cX1_longestChain 0 = .ok (.aload_n 0, 1) := by decide +kernel
theorem dX1_longestChain_1 : decode cX1_longestChain 1 = .ok (.invokevirtual 78, 3) := by decide +kernel
theorem dX1_longestChain_4 : decode cX1_longestChain 4 = .ok (.istore_n 2, 1) := by decide +kernel
theorem dX1_longestChain_5 : decode cX1_longestChain 5 = .ok (.aload_n 0, 1) := by decide +kernel
theorem dX1_longestChain_6 : decode cX1_longestChain 6 = .ok (.invokevirtual 69, 3) := by decide +kernel
theorem dX1_longestChain_9 : decode cX1_longestChain 9 = .ok (.istore_n 3, 1) := by decide +kernel
theorem dX1_longestChain_10 : decode cX1_longestChain 10 = .ok (.iconst 0, 1) := by decide +kernel
theorem dX1_longestChain_11 : decode cX1_longestChain 11 = .ok (.istore 4, 2) := by decide +kernel
theorem dX1_longestChain_13 : decode cX1_longestChain 13 = .ok (.iload 4, 2) := by decide +kernel
theorem dX1_longestChain_15 : decode cX1_longestChain 15 = .ok (.iload_n 2, 1) := by decide +kernel
theorem dX1_longestChain_16 : decode cX1_longestChain 16 = .ok (.if_icmp .ge 50, 3) := by decide +kernel
theorem dX1_longestChain_66 : decode cX1_longestChain 66 = .ok (.iload_n 2, 1) := by decide +kernel
theorem dX1_longestChain_67 : decode cX1_longestChain 67 = .ok (.ireturn, 1) := by decide +kernel
theorem dX1_measureHeights_0 : decode cX1_measureHeights 0 = .ok (.iconst 0, 1) := by decide +kernel
theorem dX1_measureHeights_1 : decode cX1_measureHeights 1 = .ok (.istore_n 1, 1) := by decide +kernel
theorem dX1_measureHeights_2 : decode cX1_measureHeights 2 = .ok (.aload_n 0, 1) := by decide +kernel
theorem dX1_measureHeights_3 : decode cX1_measureHeights 3 = .ok (.getfield 18, 3) := by decide +kernel
theorem dX1_measureHeights_6 : decode cX1_measureHeights 6 = .ok (.iconst 0, 1) := by decide +kernel
theorem dX1_measureHeights_7 : decode cX1_measureHeights 7 = .ok (.invokestatic 84, 3) := by decide +kernel
theorem dX1_measureHeights_10 : decode cX1_measureHeights 10 = .ok (.iconst 0, 1) := by decide +kernel
theorem dX1_measureHeights_11 : decode cX1_measureHeights 11 = .ok (.istore_n 2, 1) := by decide +kernel
theorem dX1_measureHeights_12 : decode cX1_measureHeights 12 = .ok (.iload_n 2, 1) := by decide +kernel
theorem dX1_measureHeights_13 : decode cX1_measureHeights 13 = .ok (.aload_n 0, 1) := by decide +kernel
theorem dX1_measureHeights_14 : decode cX1_measureHeights 14 = .ok (.getfield 28, 3) := by decide +kernel
theorem dX1_measureHeights_17 : decode cX1_measureHeights 17 = .ok (.getfield 40, 3) := by decide +kernel
theorem dX1_measureHeights_20 : decode cX1_measureHeights 20 = .ok (.if_icmp .ge 57, 3) := by decide +kernel
theorem dX1_measureHeights_77 : decode cX1_measureHeights 77 = .ok (.iload_n 1, 1) := by decide +kernel
theorem dX1_measureHeights_78 : decode cX1_measureHeights 78 = .ok (.ireturn, 1) := by decide +kernel
theorem dX1_safeHerds_0 : decode cX1_safeHerds 0 = .ok (.aload_n 0, 1) := by decide +kernel
theorem dX1_safeHerds_1 : decode cX1_safeHerds 1 = .ok (.invokevirtual 69, 3) := by decide +kernel
theorem dX1_safeHerds_4 : decode cX1_safeHerds 4 = .ok (.istore_n 1, 1) := by decide +kernel
theorem dX1_safeHerds_5 : decode cX1_safeHerds 5 = .ok (.iconst 0, 1) := by decide +kernel
theorem dX1_safeHerds_6 : decode cX1_safeHerds 6 = .ok (.istore_n 2, 1) := by decide +kernel
theorem dX1_safeHerds_7 : decode cX1_safeHerds 7 = .ok (.iload_n 2, 1) := by decide +kernel
theorem dX1_safeHerds_8 : decode cX1_safeHerds 8 = .ok (.aload_n 0, 1) := by decide +kernel
theorem dX1_safeHerds_9 : decode cX1_safeHerds 9 = .ok (.getfield 28, 3) := by decide +kernel
theorem dX1_safeHerds_12 : decode cX1_safeHerds 12 = .ok (.getfield 40, 3) := by decide +kernel
theorem dX1_safeHerds_15 : decode cX1_safeHerds 15 = .ok (.if_icmp .ge 60, 3) := by decide +kernel
theorem dX1_safeHerds_75 : decode cX1_safeHerds 75 = .ok (.iload_n 1, 1) := by decide +kernel
theorem dX1_safeHerds_76 : decode cX1_safeHerds 76 = .ok (.ireturn, 1) := by decide +kernel
theorem dX1_topHerds_0 : decode cX1_topHerds 0 = .ok (.iconst 0, 1) := by decide +kernel
theorem dX1_topHerds_1 : decode cX1_topHerds 1 = .ok (.istore_n 1, 1) := by decide +kernel
theorem dX1_topHerds_2 : decode cX1_topHerds 2 = .ok (.iconst 0, 1) := by decide +kernel
theorem dX1_topHerds_3 : decode cX1_topHerds 3 = .ok (.istore_n 2, 1) := by decide +kernel
theorem dX1_topHerds_4 : decode cX1_topHerds 4 = .ok (.iload_n 2, 1) := by decide +kernel
theorem dX1_topHerds_5 : decode cX1_topHerds 5 = .ok (.aload_n 0, 1) := by decide +kernel
theorem dX1_topHerds_6 : decode cX1_topHerds 6 = .ok (.getfield 28, 3) := by decide +kernel
theorem dX1_topHerds_9 : decode cX1_topHerds 9 = .ok (.getfield 40, 3) := by decide +kernel
theorem dX1_topHerds_12 : decode cX1_topHerds 12 = .ok (.if_icmp .ge 28, 3) := by decide +kernel
theorem dX1_topHerds_40 : decode cX1_topHerds 40 = .ok (.iload_n 1, 1) := by decide +kernel
theorem dX1_topHerds_41 : decode cX1_topHerds 41 = .ok (.ireturn, 1) := by decide +kernel
theorem dX1_twinCount_0 : decode cX1_twinCount 0 = .ok (.iconst 0, 1) := by decide +kernel
theorem dX1_twinCount_1 : decode cX1_twinCount 1 = .ok (.istore_n 1, 1) := by decide +kernel
theorem dX1_twinCount_2 : decode cX1_twinCount 2 = .ok (.iconst 0, 1) := by decide +kernel
theorem dX1_twinCount_3 : decode cX1_twinCount 3 = .ok (.istore_n 2, 1) := by decide +kernel
theorem dX1_twinCount_4 : decode cX1_twinCount 4 = .ok (.iload_n 2, 1) := by decide +kernel
theorem dX1_twinCount_5 : decode cX1_twinCount 5 = .ok (.aload_n 0, 1) := by decide +kernel
theorem dX1_twinCount_6 : decode cX1_twinCount 6 = .ok (.getfield 28, 3) := by decide +kernel
theorem dX1_twinCount_9 : decode cX1_twinCount 9 = .ok (.getfield 40, 3) := by decide +kernel
theorem dX1_twinCount_12 : decode cX1_twinCount 12 = .ok (.if_icmp .ge 53, 3) := by decide +kernel
theorem dX1_twinCount_65 : decode cX1_twinCount 65 = .ok (.iload_n 1, 1) := by decide +kernel
theorem dX1_twinCount_66 : decode cX1_twinCount 66 = .ok (.ireturn, 1) := by decide +kernel
theorem dX1_usefulIrons_0 : decode cX1_usefulIrons 0 = .ok (.iconst 0, 1) := by decide +kernel
theorem dX1_usefulIrons_1 : decode cX1_usefulIrons 1 = .ok (.istore_n 1, 1) := by decide +kernel
theorem dX1_usefulIrons_2 : decode cX1_usefulIrons 2 = .ok (.iconst 0, 1) := by decide +kernel
theorem dX1_usefulIrons_3 : decode cX1_usefulIrons 3 = .ok (.istore_n 2, 1) := by decide +kernel
theorem dX1_usefulIrons_4 : decode cX1_usefulIrons 4 = .ok (.iload_n 2, 1) := by decide +kernel
theorem dX1_usefulIrons_5 : decode cX1_usefulIrons 5 = .ok (.aload_n 0, 1) := by decide +kernel
theorem dX1_usefulIrons_6 : decode cX1_usefulIrons 6 = .ok (.getfield 28, 3) := by decide +kernel
theorem dX1_usefulIrons_9 : decode cX1_usefulIrons 9 = .ok (.getfield 118, 3) := by decide +kernel
theorem dX1_usefulIrons_12 : decode cX1_usefulIrons 12 = .ok (.if_icmp .ge 43, 3) := by decide +kernel
theorem dX1_usefulIrons_55 : decode cX1_usefulIrons 55 = .ok (.iload_n 1, 1) := by decide +kernel
theorem dX1_usefulIrons_56 : decode cX1_usefulIrons 56 = .ok (.ireturn, 1) := by decide +kernel
theorem dX2_copyFrom_0 : decode cX2_copyFrom 0 = .ok (.aload_n 1, 1) := by decide +kernel
theorem dX2_copyFrom_1 : decode cX2_copyFrom 1 = .ok (.getfield 9, 3) := by decide +kernel
theorem dX2_copyFrom_4 : decode cX2_copyFrom 4 = .ok (.iconst 0, 1) := by decide +kernel
theorem dX2_copyFrom_5 : decode cX2_copyFrom 5 = .ok (.aload_n 0, 1) := by decide +kernel
theorem dX2_copyFrom_6 : decode cX2_copyFrom 6 = .ok (.getfield 9, 3) := by decide +kernel
theorem dX2_copyFrom_9 : decode cX2_copyFrom 9 = .ok (.iconst 0, 1) := by decide +kernel
theorem dX2_copyFrom_10 : decode cX2_copyFrom 10 = .ok (.sipush 270, 3) := by decide +kernel
theorem dX2_copyFrom_13 : decode cX2_copyFrom 13 = .ok (.invokestatic 29, 3) := by decide +kernel
theorem dX2_copyFrom_16 : decode cX2_copyFrom 16 = .ok (.aload_n 1, 1) := by decide +kernel
theorem dX2_copyFrom_17 : decode cX2_copyFrom 17 = .ok (.getfield 13, 3) := by decide +kernel
theorem dX2_copyFrom_20 : decode cX2_copyFrom 20 = .ok (.iconst 0, 1) := by decide +kernel
theorem dX2_copyFrom_21 : decode cX2_copyFrom 21 = .ok (.aload_n 0, 1) := by decide +kernel
theorem dX2_copyFrom_22 : decode cX2_copyFrom 22 = .ok (.getfield 13, 3) := by decide +kernel
theorem dX2_copyFrom_25 : decode cX2_copyFrom 25 = .ok (.iconst 0, 1) := by decide +kernel
theorem dX2_copyFrom_26 : decode cX2_copyFrom 26 = .ok (.sipush 270, 3) := by decide +kernel
theorem dX2_copyFrom_29 : decode cX2_copyFrom 29 = .ok (.invokestatic 29, 3) := by decide +kernel
theorem dX2_copyFrom_32 : decode cX2_copyFrom 32 = .ok (.aload_n 0, 1) := by decide +kernel
theorem dX2_copyFrom_33 : decode cX2_copyFrom 33 = .ok (.aload_n 1, 1) := by decide +kernel
theorem dX2_copyFrom_34 : decode cX2_copyFrom 34 = .ok (.getfield 22, 3) := by decide +kernel
theorem dX2_copyFrom_37 : decode cX2_copyFrom 37 = .ok (.putfield 22, 3) := by decide +kernel
theorem dX2_copyFrom_40 : decode cX2_copyFrom 40 = .ok (.aload_n 0, 1) := by decide +kernel
theorem dX2_copyFrom_41 : decode cX2_copyFrom 41 = .ok (.aload_n 1, 1) := by decide +kernel
theorem dX2_copyFrom_42 : decode cX2_copyFrom 42 = .ok (.getfield 26, 3) := by decide +kernel
theorem dX2_copyFrom_45 : decode cX2_copyFrom 45 = .ok (.putfield 26, 3) := by decide +kernel
theorem dX2_copyFrom_48 : decode cX2_copyFrom 48 = .ok (.return_, 1) := by decide +kernel
theorem dX2_empty_0 : decode cX2_empty 0 = .ok (.aload_n 0, 1) := by decide +kernel
theorem dX2_empty_1 : decode cX2_empty 1 = .ok (.iconst 0, 1) := by decide +kernel
theorem dX2_empty_2 : decode cX2_empty 2 = .ok (.putfield 22, 3) := by decide +kernel
theorem dX2_empty_5 : decode cX2_empty 5 = .ok (.aload_n 0, 1) := by decide +kernel
theorem dX2_empty_6 : decode cX2_empty 6 = .ok (.iconst 0, 1) := by decide +kernel
theorem dX2_empty_7 : decode cX2_empty 7 = .ok (.putfield 26, 3) := by decide +kernel
theorem dX2_empty_10 : decode cX2_empty 10 = .ok (.return_, 1) := by decide +kernel
theorem dX2_init_0 : decode cX2_init 0 = .ok (.aload_n 0, 1) := by decide +kernel
theorem dX2_init_1 : decode cX2_init 1 = .ok (.invokespecial 3, 3) := by decide +kernel
theorem dX2_init_4 : decode cX2_init 4 = .ok (.aload_n 0, 1) := by decide +kernel
theorem dX2_init_5 : decode cX2_init 5 = .ok (.sipush 270, 3) := by decide +kernel
theorem dX2_init_8 : decode cX2_init 8 = .ok (.newarray .int, 2) := by decide +kernel
theorem dX2_init_10 : decode cX2_init 10 = .ok (.putfield 9, 3) := by decide +kernel
theorem dX2_init_13 : decode cX2_init 13 = .ok (.aload_n 0, 1) := by decide +kernel
theorem dX2_init_14 : decode cX2_init 14 = .ok (.sipush 270, 3) := by decide +kernel
theorem dX2_init_17 : decode cX2_init 17 = .ok (.newarray .int, 2) := by decide +kernel
theorem dX2_init_19 : decode cX2_init 19 = .ok (.putfield 13, 3) := by decide +kernel
theorem dX2_init_22 : decode cX2_init 22 = .ok (.aload_n 0, 1) := by decide +kernel
theorem dX2_init_23 : decode cX2_init 23 = .ok (.bipush 30, 2) := by decide +kernel
theorem dX2_init_25 : decode cX2_init 25 = .ok (.newarray .int, 2) := by decide +kernel
theorem dX2_init_27 : decode cX2_init 27 = .ok (.putfield 16, 3) := by decide +kernel
theorem dX2_init_30 : decode cX2_init 30 = .ok (.aload_n 0, 1) := by decide +kernel
theorem dX2_init_31 : decode cX2_init 31 = .ok (.iconst 5, 1) := by decide +kernel
theorem dX2_init_32 : decode cX2_init 32 = .ok (.newarray .int, 2) := by decide +kernel
theorem dX2_init_34 : decode cX2_init 34 = .ok (.putfield 19, 3) := by decide +kernel
theorem dX2_init_37 : decode cX2_init 37 = .ok (.aload_n 0, 1) := by decide +kernel
theorem dX2_init_38 : decode cX2_init 38 = .ok (.iconst 0, 1) := by decide +kernel
theorem dX2_init_39 : decode cX2_init 39 = .ok (.putfield 22, 3) := by decide +kernel
theorem dX2_init_42 : decode cX2_init 42 = .ok (.aload_n 0, 1) := by decide +kernel
theorem dX2_init_43 : decode cX2_init 43 = .ok (.iconst 0, 1) := by decide +kernel
theorem dX2_init_44 : decode cX2_init 44 = .ok (.putfield 26, 3) := by decide +kernel
theorem dX2_init_47 : decode cX2_init 47 = .ok (.return_, 1) := by decide +kernel
theorem dX2_units_0 : decode cX2_units 0 = .ok (.aload_n 0, 1) := by decide +kernel
theorem dX2_units_1 : decode cX2_units 1 = .ok (.getfield 26, 3) := by decide +kernel
theorem dX2_units_4 : decode cX2_units 4 = .ok (.ireturn, 1) := by decide +kernel
theorem dX3_beginAct_0 : decode cX3_beginAct 0 = .ok (.aload_n 0, 1) := by decide +kernel
theorem dX3_beginAct_1 : decode cX3_beginAct 1 = .ok (.invokevirtual 38, 3) := by decide +kernel
theorem dX3_beginAct_4 : decode cX3_beginAct 4 = .ok (.astore_n 1, 1) := by decide +kernel
theorem dX3_beginAct_5 : decode cX3_beginAct 5 = .ok (.aload_n 0, 1) := by decide +kernel
theorem dX3_beginAct_6 : decode cX3_beginAct 6 = .ok (.aload_n 0, 1) := by decide +kernel
theorem dX3_beginAct_7 : decode cX3_beginAct 7 = .ok (.getfield 24, 3) := by decide +kernel
theorem dX3_beginAct_10 : decode cX3_beginAct 10 = .ok (.iconst 1, 1) := by decide +kernel
theorem dX3_beginAct_11 : decode cX3_beginAct 11 = .ok (.iadd, 1) := by decide +kernel
theorem dX3_beginAct_12 : decode cX3_beginAct 12 = .ok (.bipush 41, 2) := by decide +kernel
theorem dX3_beginAct_14 : decode cX3_beginAct 14 = .ok (.irem, 1) := by decide +kernel
theorem dX3_beginAct_15 : decode cX3_beginAct 15 = .ok (.putfield 24, 3) := by decide +kernel
theorem dX3_beginAct_18 : decode cX3_beginAct 18 = .ok (.aload_n 0, 1) := by decide +kernel
theorem dX3_beginAct_19 : decode cX3_beginAct 19 = .ok (.invokevirtual 38, 3) := by decide +kernel
theorem dX3_beginAct_22 : decode cX3_beginAct 22 = .ok (.aload_n 1, 1) := by decide +kernel
theorem dX3_beginAct_23 : decode cX3_beginAct 23 = .ok (.invokevirtual 46, 3) := by decide +kernel
theorem dX3_beginAct_26 : decode cX3_beginAct 26 = .ok (.aload_n 0, 1) := by decide +kernel
theorem dX3_beginAct_27 : decode cX3_beginAct 27 = .ok (.aload_n 0, 1) := by decide +kernel
theorem dX3_beginAct_28 : decode cX3_beginAct 28 = .ok (.getfield 28, 3) := by decide +kernel
theorem dX3_beginAct_31 : decode cX3_beginAct 31 = .ok (.iconst 1, 1) := by decide +kernel
theorem dX3_beginAct_32 : decode cX3_beginAct 32 = .ok (.iadd, 1) := by decide +kernel
theorem dX3_beginAct_33 : decode cX3_beginAct 33 = .ok (.bipush 40, 2) := by decide +kernel
theorem dX3_beginAct_35 : decode cX3_beginAct 35 = .ok (.invokestatic 50, 3) := by decide +kernel
theorem dX3_beginAct_38 : decode cX3_beginAct 38 = .ok (.putfield 28, 3) := by decide +kernel
theorem dX3_beginAct_41 : decode cX3_beginAct 41 = .ok (.aload_n 0, 1) := by decide +kernel
theorem dX3_beginAct_42 : decode cX3_beginAct 42 = .ok (.iconst 0, 1) := by decide +kernel
theorem dX3_beginAct_43 : decode cX3_beginAct 43 = .ok (.putfield 31, 3) := by decide +kernel
theorem dX3_beginAct_46 : decode cX3_beginAct 46 = .ok (.aload_n 0, 1) := by decide +kernel
theorem dX3_beginAct_47 : decode cX3_beginAct 47 = .ok (.invokevirtual 38, 3) := by decide +kernel
theorem dX3_beginAct_50 : decode cX3_beginAct 50 = .ok (.areturn, 1) := by decide +kernel
theorem dX3_bringBack_0 : decode cX3_bringBack 0 = .ok (.aload_n 0, 1) := by decide +kernel
theorem dX3_bringBack_1 : decode cX3_bringBack 1 = .ok (.getfield 20, 3) := by decide +kernel
theorem dX3_bringBack_4 : decode cX3_bringBack 4 = .ok (.iload_n 1, 1) := by decide +kernel
theorem dX3_bringBack_5 : decode cX3_bringBack 5 = .ok (.baload, 1) := by decide +kernel
theorem dX3_bringBack_6 : decode cX3_bringBack 6 = .ok (.ifCond .ne 5, 3) := by decide +kernel
theorem dX3_bringBack_9 : decode cX3_bringBack 9 = .ok (.iconst (-1), 1) := by decide +kernel
theorem dX3_bringBack_10 : decode cX3_bringBack 10 = .ok (.ireturn, 1) := by decide +kernel
theorem dX3_forgetActs_0 : decode cX3_forgetActs 0 = .ok (.aload_n 0, 1) := by decide +kernel
theorem dX3_forgetActs_1 : decode cX3_forgetActs 1 = .ok (.iconst 0, 1) := by decide +kernel
theorem dX3_forgetActs_2 : decode cX3_forgetActs 2 = .ok (.putfield 28, 3) := by decide +kernel
theorem dX3_forgetActs_5 : decode cX3_forgetActs 5 = .ok (.aload_n 0, 1) := by decide +kernel
theorem dX3_forgetActs_6 : decode cX3_forgetActs 6 = .ok (.iconst 0, 1) := by decide +kernel
theorem dX3_forgetActs_7 : decode cX3_forgetActs 7 = .ok (.putfield 31, 3) := by decide +kernel
theorem dX3_forgetActs_10 : decode cX3_forgetActs 10 = .ok (.return_, 1) := by decide +kernel
theorem dX3_init_0 : decode cX3_init 0 = .ok (.aload_n 0, 1) := by decide +kernel
theorem dX3_init_1 : decode cX3_init 1 = .ok (.invokespecial 3, 3) := by decide +kernel
theorem dX3_init_4 : decode cX3_init 4 = .ok (.aload_n 0, 1) := by decide +kernel
theorem dX3_init_5 : decode cX3_init 5 = .ok (.bipush 41, 2) := by decide +kernel
theorem dX3_init_7 : decode cX3_init 7 = .ok (.anewarray 11, 3) := by decide +kernel
theorem dX3_init_10 : decode cX3_init 10 = .ok (.putfield 13, 3) := by decide +kernel
theorem dX3_init_13 : decode cX3_init 13 = .ok (.aload_n 0, 1) := by decide +kernel
theorem dX3_init_14 : decode cX3_init 14 = .ok (.iconst 3, 1) := by decide +kernel
theorem dX3_init_15 : decode cX3_init 15 = .ok (.anewarray 11, 3) := by decide +kernel
theorem dX3_init_18 : decode cX3_init 18 = .ok (.putfield 17, 3) := by decide +kernel
theorem dX3_init_21 : decode cX3_init 21 = .ok (.aload_n 0, 1) := by decide +kernel
theorem dX3_init_22 : decode cX3_init 22 = .ok (.iconst 3, 1) := by decide +kernel
theorem dX3_init_23 : decode cX3_init 23 = .ok (.newarray .boolean, 2) := by decide +kernel
theorem dX3_init_25 : decode cX3_init 25 = .ok (.putfield 20, 3) := by decide +kernel
theorem dX3_init_28 : decode cX3_init 28 = .ok (.aload_n 0, 1) := by decide +kernel
theorem dX3_init_29 : decode cX3_init 29 = .ok (.iconst 0, 1) := by decide +kernel
theorem dX3_init_30 : decode cX3_init 30 = .ok (.putfield 24, 3) := by decide +kernel
theorem dX3_init_33 : decode cX3_init 33 = .ok (.aload_n 0, 1) := by decide +kernel
theorem dX3_init_34 : decode cX3_init 34 = .ok (.iconst 0, 1) := by decide +kernel
theorem dX3_init_35 : decode cX3_init 35 = .ok (.putfield 28, 3) := by decide +kernel
theorem dX3_init_38 : decode cX3_init 38 = .ok (.aload_n 0, 1) := by decide +kernel
theorem dX3_init_39 : decode cX3_init 39 = .ok (.iconst 0, 1) := by decide +kernel
theorem dX3_init_40 : decode cX3_init 40 = .ok (.putfield 31, 3) := by decide +kernel
theorem dX3_init_43 : decode cX3_init 43 = .ok (.iconst 0, 1) := by decide +kernel
theorem dX3_init_44 : decode cX3_init 44 = .ok (.istore_n 1, 1) := by decide +kernel
