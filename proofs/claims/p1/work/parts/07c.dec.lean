theorem dX11_about_134 : decode cX11_about 134 = .ok (.invokevirtual 386, 3) := by decide +kernel
theorem dX11_about_137 : decode cX11_about 137 = .ok (.ireturn, 1) := by decide +kernel
theorem dX11_about_138 : decode cX11_about 138 = .ok (.aload_n 0, 1) := by decide +kernel
theorem dX11_about_139 : decode cX11_about 139 = .ok (.getfield 62, 3) := by decide +kernel
theorem dX11_about_142 : decode cX11_about 142 = .ok (.invokevirtual 389, 3) := by decide +kernel
theorem dX11_about_145 : decode cX11_about 145 = .ok (.ireturn, 1) := by decide +kernel
theorem dX11_about_146 : decode cX11_about 146 = .ok (.aload_n 0, 1) := by decide +kernel
theorem dX11_about_147 : decode cX11_about 147 = .ok (.getfield 87, 3) := by decide +kernel
theorem dX11_about_150 : decode cX11_about 150 = .ok (.invokevirtual 392, 3) := by decide +kernel
theorem dX11_about_153 : decode cX11_about 153 = .ok (.ireturn, 1) := by decide +kernel
theorem dX11_about_154 : decode cX11_about 154 = .ok (.aload_n 0, 1) := by decide +kernel
theorem dX11_about_155 : decode cX11_about 155 = .ok (.getfield 87, 3) := by decide +kernel
theorem dX11_about_158 : decode cX11_about 158 = .ok (.invokevirtual 395, 3) := by decide +kernel
theorem dX11_about_161 : decode cX11_about 161 = .ok (.ireturn, 1) := by decide +kernel
theorem dX11_about_162 : decode cX11_about 162 = .ok (.aload_n 0, 1) := by decide +kernel
theorem dX11_about_163 : decode cX11_about 163 = .ok (.getfield 20, 3) := by decide +kernel
theorem dX11_about_166 : decode cX11_about 166 = .ok (.invokevirtual 91, 3) := by decide +kernel
theorem dX11_about_169 : decode cX11_about 169 = .ok (.ireturn, 1) := by decide +kernel
theorem dX11_about_170 : decode cX11_about 170 = .ok (.aload_n 0, 1) := by decide +kernel
theorem dX11_about_171 : decode cX11_about 171 = .ok (.getfield 27, 3) := by decide +kernel
theorem dX11_about_174 : decode cX11_about 174 = .ok (.getfield 398, 3) := by decide +kernel
theorem dX11_about_177 : decode cX11_about 177 = .ok (.invokevirtual 402, 3) := by decide +kernel
theorem dX11_about_180 : decode cX11_about 180 = .ok (.ireturn, 1) := by decide +kernel
theorem dX11_about_181 : decode cX11_about 181 = .ok (.aload_n 0, 1) := by decide +kernel
theorem dX11_about_182 : decode cX11_about 182 = .ok (.getfield 13, 3) := by decide +kernel
theorem dX11_about_185 : decode cX11_about 185 = .ok (.ireturn, 1) := by decide +kernel
theorem dX11_about_186 : decode cX11_about 186 = .ok (.aload_n 0, 1) := by decide +kernel
theorem dX11_about_187 : decode cX11_about 187 = .ok (.getfield 27, 3) := by decide +kernel
theorem dX11_about_190 : decode cX11_about 190 = .ok (.getfield 335, 3) := by decide +kernel
theorem dX11_about_193 : decode cX11_about 193 = .ok (.ireturn, 1) := by decide +kernel
theorem dX11_about_194 : decode cX11_about 194 = .ok (.aload_n 0, 1) := by decide +kernel
theorem dX11_about_195 : decode cX11_about 195 = .ok (.getfield 27, 3) := by decide +kernel
theorem dX11_about_198 : decode cX11_about 198 = .ok (.getfield 110, 3) := by decide +kernel
theorem dX11_about_201 : decode cX11_about 201 = .ok (.ireturn, 1) := by decide +kernel
theorem dX11_about_202 : decode cX11_about 202 = .ok (.iconst (-1), 1) := by decide +kernel
theorem dX11_about_203 : decode cX11_about 203 = .ok (.ireturn, 1) := by decide +kernel
theorem dX11_age_0 : decode cX11_age 0 = .ok (.aload_n 0, 1) := by decide +kernel
theorem dX11_age_1 : decode cX11_age 1 = .ok (.iload_n 1, 1) := by decide +kernel
theorem dX11_age_2 : decode cX11_age 2 = .ok (.invokevirtual 155, 3) := by decide +kernel
theorem dX11_age_5 : decode cX11_age 5 = .ok (.ifCond .eq 10, 3) := by decide +kernel
theorem dX11_age_15 : decode cX11_age 15 = .ok (.iconst (-1), 1) := by decide +kernel
theorem dX11_age_16 : decode cX11_age 16 = .ok (.ireturn, 1) := by decide +kernel
theorem dX11_ask_0 : decode cX11_ask 0 = .ok (.iload_n 1, 1) := by decide +kernel
theorem dX11_ask_1 : decode cX11_ask 1 = .ok (.invokestatic 271, 3) := by decide +kernel
theorem dX11_ask_4 : decode cX11_ask 4 = .ok (.ifCond .eq 14, 3) := by decide +kernel
theorem dX11_ask_7 : decode cX11_ask 7 = .ok (.aload_n 0, 1) := by decide +kernel
theorem dX11_ask_8 : decode cX11_ask 8 = .ok (.getfield 87, 3) := by decide +kernel
theorem dX11_ask_11 : decode cX11_ask 11 = .ok (.iload_n 2, 1) := by decide +kernel
theorem dX11_ask_12 : decode cX11_ask 12 = .ok (.invokevirtual 354, 3) := by decide +kernel
theorem dX11_ask_15 : decode cX11_ask 15 = .ok (.ifCond .ne 5, 3) := by decide +kernel
theorem dX11_ask_18 : decode cX11_ask 18 = .ok (.iconst (-1), 1) := by decide +kernel
theorem dX11_ask_19 : decode cX11_ask 19 = .ok (.ireturn, 1) := by decide +kernel
theorem dX11_back_0 : decode cX11_back 0 = .ok (.iload_n 1, 1) := by decide +kernel
theorem dX11_back_1 : decode cX11_back 1 = .ok (.invokestatic 368, 3) := by decide +kernel
theorem dX11_back_4 : decode cX11_back 4 = .ok (.ifCond .eq 14, 3) := by decide +kernel
theorem dX11_back_7 : decode cX11_back 7 = .ok (.aload_n 0, 1) := by decide +kernel
theorem dX11_back_8 : decode cX11_back 8 = .ok (.getfield 62, 3) := by decide +kernel
theorem dX11_back_11 : decode cX11_back 11 = .ok (.iload_n 1, 1) := by decide +kernel
theorem dX11_back_12 : decode cX11_back 12 = .ok (.invokevirtual 374, 3) := by decide +kernel
theorem dX11_back_15 : decode cX11_back 15 = .ok (.goto 4, 3) := by decide +kernel
theorem dX11_back_18 : decode cX11_back 18 = .ok (.iconst (-1), 1) := by decide +kernel
theorem dX11_back_19 : decode cX11_back 19 = .ok (.ireturn, 1) := by decide +kernel
theorem dX11_beast_0 : decode cX11_beast 0 = .ok (.aload_n 0, 1) := by decide +kernel
theorem dX11_beast_1 : decode cX11_beast 1 = .ok (.iload_n 1, 1) := by decide +kernel
theorem dX11_beast_2 : decode cX11_beast 2 = .ok (.invokevirtual 155, 3) := by decide +kernel
theorem dX11_beast_5 : decode cX11_beast 5 = .ok (.ifCond .ne 5, 3) := by decide +kernel
theorem dX11_beast_8 : decode cX11_beast 8 = .ok (.iconst (-1), 1) := by decide +kernel
theorem dX11_beast_9 : decode cX11_beast 9 = .ok (.ireturn, 1) := by decide +kernel
theorem dX11_brand_0 : decode cX11_brand 0 = .ok (.aload_n 0, 1) := by decide +kernel
theorem dX11_brand_1 : decode cX11_brand 1 = .ok (.iload_n 1, 1) := by decide +kernel
theorem dX11_brand_2 : decode cX11_brand 2 = .ok (.invokevirtual 142, 3) := by decide +kernel
theorem dX11_brand_5 : decode cX11_brand 5 = .ok (.ifCond .eq 15, 3) := by decide +kernel
theorem dX11_brand_20 : decode cX11_brand 20 = .ok (.iconst (-1), 1) := by decide +kernel
theorem dX11_brand_21 : decode cX11_brand 21 = .ok (.ireturn, 1) := by decide +kernel
theorem dX11_burn_0 : decode cX11_burn 0 = .ok (.aload_n 0, 1) := by decide +kernel
theorem dX11_burn_1 : decode cX11_burn 1 = .ok (.iload_n 1, 1) := by decide +kernel
theorem dX11_burn_2 : decode cX11_burn 2 = .ok (.invokevirtual 155, 3) := by decide +kernel
theorem dX11_burn_5 : decode cX11_burn 5 = .ok (.ifCond .eq 19, 3) := by decide +kernel
theorem dX11_burn_24 : decode cX11_burn 24 = .ok (.iconst (-1), 1) := by decide +kernel
theorem dX11_burn_25 : decode cX11_burn 25 = .ok (.ireturn, 1) := by decide +kernel
theorem dX11_chain_0 : decode cX11_chain 0 = .ok (.aload_n 0, 1) := by decide +kernel
theorem dX11_chain_1 : decode cX11_chain 1 = .ok (.aload_n 0, 1) := by decide +kernel
theorem dX11_chain_2 : decode cX11_chain 2 = .ok (.getfield 71, 3) := by decide +kernel
theorem dX11_chain_5 : decode cX11_chain 5 = .ok (.aload_n 0, 1) := by decide +kernel
theorem dX11_chain_6 : decode cX11_chain 6 = .ok (.getfield 9, 3) := by decide +kernel
theorem dX11_chain_9 : decode cX11_chain 9 = .ok (.invokevirtual 245, 3) := by decide +kernel
theorem dX11_chain_12 : decode cX11_chain 12 = .ok (.putfield 13, 3) := by decide +kernel
theorem dX11_chain_15 : decode cX11_chain 15 = .ok (.aload_n 0, 1) := by decide +kernel
theorem dX11_chain_16 : decode cX11_chain 16 = .ok (.getfield 13, 3) := by decide +kernel
theorem dX11_chain_19 : decode cX11_chain 19 = .ok (.ireturn, 1) := by decide +kernel
theorem dX11_claim_0 : decode cX11_claim 0 = .ok (.aload_n 0, 1) := by decide +kernel
theorem dX11_claim_1 : decode cX11_claim 1 = .ok (.iload_n 1, 1) := by decide +kernel
theorem dX11_claim_2 : decode cX11_claim 2 = .ok (.invokevirtual 142, 3) := by decide +kernel
theorem dX11_claim_5 : decode cX11_claim 5 = .ok (.ifCond .eq 21, 3) := by decide +kernel
theorem dX11_claim_26 : decode cX11_claim 26 = .ok (.iconst (-1), 1) := by decide +kernel
theorem dX11_claim_27 : decode cX11_claim 27 = .ok (.ireturn, 1) := by decide +kernel
theorem dX11_clean_0 : decode cX11_clean 0 = .ok (.aload_n 0, 1) := by decide +kernel
theorem dX11_clean_1 : decode cX11_clean 1 = .ok (.iload_n 1, 1) := by decide +kernel
theorem dX11_clean_2 : decode cX11_clean 2 = .ok (.invokevirtual 155, 3) := by decide +kernel
theorem dX11_clean_5 : decode cX11_clean 5 = .ok (.ifCond .ne 5, 3) := by decide +kernel
theorem dX11_clean_8 : decode cX11_clean 8 = .ok (.iconst (-1), 1) := by decide +kernel
theorem dX11_clean_9 : decode cX11_clean 9 = .ok (.ireturn, 1) := by decide +kernel
theorem dX11_closed_0 : decode cX11_closed 0 = .ok (.aload_n 0, 1) := by decide +kernel
theorem dX11_closed_1 : decode cX11_closed 1 = .ok (.getfield 71, 3) := by decide +kernel
theorem dX11_closed_4 : decode cX11_closed 4 = .ok (.invokevirtual 314, 3) := by decide +kernel
theorem dX11_closed_7 : decode cX11_closed 7 = .ok (.ifCond .eq 7, 3) := by decide +kernel
theorem dX11_closed_10 : decode cX11_closed 10 = .ok (.iconst 1, 1) := by decide +kernel
theorem dX11_closed_11 : decode cX11_closed 11 = .ok (.goto 4, 3) := by decide +kernel
theorem dX11_closed_15 : decode cX11_closed 15 = .ok (.ireturn, 1) := by decide +kernel
theorem dX11_end_0 : decode cX11_end 0 = .ok (.iload_n 1, 1) := by decide +kernel
theorem dX11_end_1 : decode cX11_end 1 = .ok (.ifCond .lt 14, 3) := by decide +kernel
theorem dX11_end_4 : decode cX11_end 4 = .ok (.iload_n 1, 1) := by decide +kernel
theorem dX11_end_5 : decode cX11_end 5 = .ok (.aload_n 0, 1) := by decide +kernel
theorem dX11_end_6 : decode cX11_end 6 = .ok (.getfield 20, 3) := by decide +kernel
theorem dX11_end_9 : decode cX11_end 9 = .ok (.invokevirtual 91, 3) := by decide +kernel
theorem dX11_end_12 : decode cX11_end 12 = .ok (.if_icmp .le 5, 3) := by decide +kernel
theorem dX11_end_15 : decode cX11_end 15 = .ok (.iconst (-1), 1) := by decide +kernel
theorem dX11_end_16 : decode cX11_end 16 = .ok (.ireturn, 1) := by decide +kernel
theorem dX11_end_17 : decode cX11_end 17 = .ok (.aload_n 0, 1) := by decide +kernel
theorem dX11_end_18 : decode cX11_end 18 = .ok (.getfield 20, 3) := by decide +kernel
theorem dX11_end_21 : decode cX11_end 21 = .ok (.iload_n 1, 1) := by decide +kernel
theorem dX11_end_22 : decode cX11_end 22 = .ok (.invokevirtual 99, 3) := by decide +kernel
theorem dX11_end_25 : decode cX11_end 25 = .ok (.iload_n 1, 1) := by decide +kernel
theorem dX11_end_26 : decode cX11_end 26 = .ok (.ireturn, 1) := by decide +kernel
theorem dX11_faces_0 : decode cX11_faces 0 = .ok (.iload_n 1, 1) := by decide +kernel
theorem dX11_faces_1 : decode cX11_faces 1 = .ok (.invokestatic 193, 3) := by decide +kernel
theorem dX11_faces_4 : decode cX11_faces 4 = .ok (.ifCond .eq 14, 3) := by decide +kernel
theorem dX11_faces_7 : decode cX11_faces 7 = .ok (.aload_n 0, 1) := by decide +kernel
theorem dX11_faces_8 : decode cX11_faces 8 = .ok (.getfield 46, 3) := by decide +kernel
theorem dX11_faces_11 : decode cX11_faces 11 = .ok (.iload_n 1, 1) := by decide +kernel
theorem dX11_faces_12 : decode cX11_faces 12 = .ok (.invokevirtual 317, 3) := by decide +kernel
theorem dX11_faces_15 : decode cX11_faces 15 = .ok (.goto 4, 3) := by decide +kernel
theorem dX11_faces_18 : decode cX11_faces 18 = .ok (.iconst (-1), 1) := by decide +kernel
theorem dX11_faces_19 : decode cX11_faces 19 = .ok (.ireturn, 1) := by decide +kernel
theorem dX11_fades_0 : decode cX11_fades 0 = .ok (.aload_n 0, 1) := by decide +kernel
theorem dX11_fades_1 : decode cX11_fades 1 = .ok (.iload_n 1, 1) := by decide +kernel
theorem dX11_fades_2 : decode cX11_fades 2 = .ok (.invokevirtual 155, 3) := by decide +kernel
theorem dX11_fades_5 : decode cX11_fades 5 = .ok (.ifCond .eq 21, 3) := by decide +kernel
theorem dX11_fades_26 : decode cX11_fades 26 = .ok (.iconst (-1), 1) := by decide +kernel
theorem dX11_fades_27 : decode cX11_fades 27 = .ok (.ireturn, 1) := by decide +kernel
theorem dX11_fault_0 : decode cX11_fault 0 = .ok (.iload_n 1, 1) := by decide +kernel
theorem dX11_fault_1 : decode cX11_fault 1 = .ok (.ifCond .ne 11, 3) := by decide +kernel
theorem dX11_fault_4 : decode cX11_fault 4 = .ok (.aload_n 0, 1) := by decide +kernel
theorem dX11_fault_5 : decode cX11_fault 5 = .ok (.getfield 20, 3) := by decide +kernel
theorem dX11_fault_8 : decode cX11_fault 8 = .ok (.invokevirtual 136, 3) := by decide +kernel
theorem dX11_fault_11 : decode cX11_fault 11 = .ok (.ireturn, 1) := by decide +kernel
theorem dX11_fault_12 : decode cX11_fault 12 = .ok (.iload_n 1, 1) := by decide +kernel
theorem dX11_fault_13 : decode cX11_fault 13 = .ok (.iconst 1, 1) := by decide +kernel
theorem dX11_fault_14 : decode cX11_fault 14 = .ok (.if_icmp .ne 13, 3) := by decide +kernel
theorem dX11_fault_17 : decode cX11_fault 17 = .ok (.aload_n 0, 1) := by decide +kernel
theorem dX11_fault_18 : decode cX11_fault 18 = .ok (.getfield 20, 3) := by decide +kernel
theorem dX11_fault_21 : decode cX11_fault 21 = .ok (.invokevirtual 139, 3) := by decide +kernel
theorem dX11_fault_24 : decode cX11_fault 24 = .ok (.goto 4, 3) := by decide +kernel
theorem dX11_fault_27 : decode cX11_fault 27 = .ok (.iconst (-1), 1) := by decide +kernel
theorem dX11_fault_28 : decode cX11_fault 28 = .ok (.ireturn, 1) := by decide +kernel
theorem dX11_feed_0 : decode cX11_feed 0 = .ok (.aload_n 0, 1) := by decide +kernel
theorem dX11_feed_1 : decode cX11_feed 1 = .ok (.getfield 20, 3) := by decide +kernel
theorem dX11_feed_4 : decode cX11_feed 4 = .ok (.invokevirtual 91, 3) := by decide +kernel
theorem dX11_feed_7 : decode cX11_feed 7 = .ok (.bipush 20, 2) := by decide +kernel
theorem dX11_feed_9 : decode cX11_feed 9 = .ok (.iadd, 1) := by decide +kernel
theorem dX11_feed_10 : decode cX11_feed 10 = .ok (.sipush 1600, 3) := by decide +kernel
theorem dX11_feed_13 : decode cX11_feed 13 = .ok (.if_icmp .le 5, 3) := by decide +kernel
theorem dX11_feed_18 : decode cX11_feed 18 = .ok (.aload_n 0, 1) := by decide +kernel
theorem dX11_feed_19 : decode cX11_feed 19 = .ok (.getfield 20, 3) := by decide +kernel
theorem dX11_feed_22 : decode cX11_feed 22 = .ok (.iload_n 1, 1) := by decide +kernel
theorem dX11_feed_23 : decode cX11_feed 23 = .ok (.invokevirtual 95, 3) := by decide +kernel
theorem dX11_feed_26 : decode cX11_feed 26 = .ok (.aload_n 0, 1) := by decide +kernel
theorem dX11_feed_27 : decode cX11_feed 27 = .ok (.getfield 20, 3) := by decide +kernel
theorem dX11_feed_30 : decode cX11_feed 30 = .ok (.iload_n 2, 1) := by decide +kernel
theorem dX11_feed_31 : decode cX11_feed 31 = .ok (.invokevirtual 95, 3) := by decide +kernel
theorem dX11_feed_34 : decode cX11_feed 34 = .ok (.aload_n 0, 1) := by decide +kernel
theorem dX11_feed_35 : decode cX11_feed 35 = .ok (.getfield 20, 3) := by decide +kernel
theorem dX11_feed_38 : decode cX11_feed 38 = .ok (.iload_n 3, 1) := by decide +kernel
theorem dX11_feed_39 : decode cX11_feed 39 = .ok (.invokevirtual 95, 3) := by decide +kernel
theorem dX11_feed_42 : decode cX11_feed 42 = .ok (.aload_n 0, 1) := by decide +kernel
theorem dX11_feed_43 : decode cX11_feed 43 = .ok (.getfield 20, 3) := by decide +kernel
theorem dX11_feed_46 : decode cX11_feed 46 = .ok (.iload 4, 2) := by decide +kernel
theorem dX11_feed_48 : decode cX11_feed 48 = .ok (.invokevirtual 95, 3) := by decide +kernel
theorem dX11_feed_51 : decode cX11_feed 51 = .ok (.aload_n 0, 1) := by decide +kernel
theorem dX11_feed_52 : decode cX11_feed 52 = .ok (.getfield 20, 3) := by decide +kernel
theorem dX11_feed_55 : decode cX11_feed 55 = .ok (.iload 5, 2) := by decide +kernel
theorem dX11_feed_57 : decode cX11_feed 57 = .ok (.invokevirtual 95, 3) := by decide +kernel
theorem dX11_feed_60 : decode cX11_feed 60 = .ok (.aload_n 0, 1) := by decide +kernel
theorem dX11_feed_61 : decode cX11_feed 61 = .ok (.getfield 20, 3) := by decide +kernel
theorem dX11_feed_64 : decode cX11_feed 64 = .ok (.invokevirtual 91, 3) := by decide +kernel
theorem dX11_feed_67 : decode cX11_feed 67 = .ok (.ireturn, 1) := by decide +kernel
theorem dX11_forge_0 : decode cX11_forge 0 = .ok (.aload_n 0, 1) := by decide +kernel
theorem dX11_forge_1 : decode cX11_forge 1 = .ok (.iconst 0, 1) := by decide +kernel
theorem dX11_forge_2 : decode cX11_forge 2 = .ok (.putfield 13, 3) := by decide +kernel
theorem dX11_forge_5 : decode cX11_forge 5 = .ok (.aload_n 0, 1) := by decide +kernel
theorem dX11_forge_6 : decode cX11_forge 6 = .ok (.iload_n 1, 1) := by decide +kernel
theorem dX11_forge_7 : decode cX11_forge 7 = .ok (.invokevirtual 155, 3) := by decide +kernel
theorem dX11_forge_10 : decode cX11_forge 10 = .ok (.ifCond .eq 11, 3) := by decide +kernel
theorem dX11_forge_21 : decode cX11_forge 21 = .ok (.iconst (-1), 1) := by decide +kernel
theorem dX11_forge_22 : decode cX11_forge 22 = .ok (.ireturn, 1) := by decide +kernel
theorem dX11_highest_0 : decode cX11_highest 0 = .ok (.aload_n 0, 1) := by decide +kernel
theorem dX11_highest_1 : decode cX11_highest 1 = .ok (.getfield 71, 3) := by decide +kernel
theorem dX11_highest_4 : decode cX11_highest 4 = .ok (.invokevirtual 252, 3) := by decide +kernel
theorem dX11_highest_7 : decode cX11_highest 7 = .ok (.ireturn, 1) := by decide +kernel
theorem dX11_image_0 : decode cX11_image 0 = .ok (.iload_n 1, 1) := by decide +kernel
theorem dX11_image_1 : decode cX11_image 1 = .ok (.invokestatic 368, 3) := by decide +kernel
theorem dX11_image_4 : decode cX11_image 4 = .ok (.ifCond .eq 14, 3) := by decide +kernel
theorem dX11_image_7 : decode cX11_image 7 = .ok (.aload_n 0, 1) := by decide +kernel
theorem dX11_image_8 : decode cX11_image 8 = .ok (.getfield 62, 3) := by decide +kernel
theorem dX11_image_11 : decode cX11_image 11 = .ok (.iload_n 1, 1) := by decide +kernel
theorem dX11_image_12 : decode cX11_image 12 = .ok (.invokevirtual 371, 3) := by decide +kernel
theorem dX11_image_15 : decode cX11_image 15 = .ok (.goto 4, 3) := by decide +kernel
theorem dX11_image_18 : decode cX11_image 18 = .ok (.iconst (-1), 1) := by decide +kernel
theorem dX11_image_19 : decode cX11_image 19 = .ok (.ireturn, 1) := by decide +kernel
theorem dX11_init_0 : decode cX11_init 0 = .ok (.aload_n 0, 1) := by decide +kernel
theorem dX11_init_1 : decode cX11_init 1 = .ok (.invokespecial 3, 3) := by decide +kernel
theorem dX11_init_4 : decode cX11_init 4 = .ok (.aload_n 0, 1) := by decide +kernel
theorem dX11_init_5 : decode cX11_init 5 = .ok (.bipush 16, 2) := by decide +kernel
theorem dX11_init_7 : decode cX11_init 7 = .ok (.newarray .int, 2) := by decide +kernel
theorem dX11_init_9 : decode cX11_init 9 = .ok (.putfield 9, 3) := by decide +kernel
theorem dX11_init_12 : decode cX11_init 12 = .ok (.aload_n 0, 1) := by decide +kernel
theorem dX11_init_13 : decode cX11_init 13 = .ok (.iconst 0, 1) := by decide +kernel
theorem dX11_init_14 : decode cX11_init 14 = .ok (.putfield 13, 3) := by decide +kernel
theorem dX11_init_17 : decode cX11_init 17 = .ok (.aload_n 0, 1) := by decide +kernel
theorem dX11_init_18 : decode cX11_init 18 = .ok (.new 17, 3) := by decide +kernel
theorem dX11_init_21 : decode cX11_init 21 = .ok (.dup, 1) := by decide +kernel
theorem dX11_init_22 : decode cX11_init 22 = .ok (.invokespecial 19, 3) := by decide +kernel
theorem dX11_init_25 : decode cX11_init 25 = .ok (.putfield 20, 3) := by decide +kernel
theorem dX11_init_28 : decode cX11_init 28 = .ok (.aload_n 0, 1) := by decide +kernel
theorem dX11_init_29 : decode cX11_init 29 = .ok (.new 24, 3) := by decide +kernel
theorem dX11_init_32 : decode cX11_init 32 = .ok (.dup, 1) := by decide +kernel
theorem dX11_init_33 : decode cX11_init 33 = .ok (.invokespecial 26, 3) := by decide +kernel
theorem dX11_init_36 : decode cX11_init 36 = .ok (.putfield 27, 3) := by decide +kernel
theorem dX11_init_39 : decode cX11_init 39 = .ok (.aload_n 0, 1) := by decide +kernel
theorem dX11_init_40 : decode cX11_init 40 = .ok (.new 24, 3) := by decide +kernel
theorem dX11_init_43 : decode cX11_init 43 = .ok (.dup, 1) := by decide +kernel
theorem dX11_init_44 : decode cX11_init 44 = .ok (.invokespecial 26, 3) := by decide +kernel
theorem dX11_init_47 : decode cX11_init 47 = .ok (.putfield 31, 3) := by decide +kernel
theorem dX11_init_50 : decode cX11_init 50 = .ok (.aload_n 0, 1) := by decide +kernel
theorem dX11_init_51 : decode cX11_init 51 = .ok (.new 34, 3) := by decide +kernel
theorem dX11_init_54 : decode cX11_init 54 = .ok (.dup, 1) := by decide +kernel
theorem dX11_init_55 : decode cX11_init 55 = .ok (.aload_n 0, 1) := by decide +kernel
theorem dX11_init_56 : decode cX11_init 56 = .ok (.getfield 20, 3) := by decide +kernel
theorem dX11_init_59 : decode cX11_init 59 = .ok (.aload_n 0, 1) := by decide +kernel
theorem dX11_init_60 : decode cX11_init 60 = .ok (.getfield 31, 3) := by decide +kernel
theorem dX11_init_63 : decode cX11_init 63 = .ok (.invokespecial 36, 3) := by decide +kernel
theorem dX11_init_66 : decode cX11_init 66 = .ok (.putfield 39, 3) := by decide +kernel
theorem dX11_init_69 : decode cX11_init 69 = .ok (.aload_n 0, 1) := by decide +kernel
theorem dX11_init_70 : decode cX11_init 70 = .ok (.new 43, 3) := by decide +kernel
theorem dX11_init_73 : decode cX11_init 73 = .ok (.dup, 1) := by decide +kernel
theorem dX11_init_74 : decode cX11_init 74 = .ok (.invokespecial 45, 3) := by decide +kernel
theorem dX11_init_77 : decode cX11_init 77 = .ok (.putfield 46, 3) := by decide +kernel
theorem dX11_init_80 : decode cX11_init 80 = .ok (.aload_n 0, 1) := by decide +kernel
theorem dX11_init_81 : decode cX11_init 81 = .ok (.new 50, 3) := by decide +kernel
theorem dX11_init_84 : decode cX11_init 84 = .ok (.dup, 1) := by decide +kernel
theorem dX11_init_85 : decode cX11_init 85 = .ok (.aload_n 0, 1) := by decide +kernel
theorem dX11_init_86 : decode cX11_init 86 = .ok (.getfield 46, 3) := by decide +kernel
theorem dX11_init_89 : decode cX11_init 89 = .ok (.invokespecial 52, 3) := by decide +kernel
theorem dX11_init_92 : decode cX11_init 92 = .ok (.putfield 55, 3) := by decide +kernel
theorem dX11_init_95 : decode cX11_init 95 = .ok (.aload_n 0, 1) := by decide +kernel
theorem dX11_init_96 : decode cX11_init 96 = .ok (.new 59, 3) := by decide +kernel
theorem dX11_init_99 : decode cX11_init 99 = .ok (.dup, 1) := by decide +kernel
theorem dX11_init_100 : decode cX11_init 100 = .ok (.invokespecial 61, 3) := by decide +kernel
theorem dX11_init_103 : decode cX11_init 103 = .ok (.putfield 62, 3) := by decide +kernel
theorem dX11_init_106 : decode cX11_init 106 = .ok (.aload_n 0, 1) := by decide +kernel
theorem dX11_init_107 : decode cX11_init 107 = .ok (.new 66, 3) := by decide +kernel
theorem dX11_init_110 : decode cX11_init 110 = .ok (.dup, 1) := by decide +kernel
theorem dX11_init_111 : decode cX11_init 111 = .ok (.aload_n 0, 1) := by decide +kernel
theorem dX11_init_112 : decode cX11_init 112 = .ok (.getfield 27, 3) := by decide +kernel
theorem dX11_init_115 : decode cX11_init 115 = .ok (.aload_n 0, 1) := by decide +kernel
theorem dX11_init_116 : decode cX11_init 116 = .ok (.getfield 46, 3) := by decide +kernel
theorem dX11_init_119 : decode cX11_init 119 = .ok (.aload_n 0, 1) := by decide +kernel
theorem dX11_init_120 : decode cX11_init 120 = .ok (.getfield 55, 3) := by decide +kernel
theorem dX11_init_123 : decode cX11_init 123 = .ok (.invokespecial 68, 3) := by decide +kernel
theorem dX11_init_126 : decode cX11_init 126 = .ok (.putfield 71, 3) := by decide +kernel
theorem dX11_init_129 : decode cX11_init 129 = .ok (.aload_n 0, 1) := by decide +kernel
theorem dX11_init_130 : decode cX11_init 130 = .ok (.new 75, 3) := by decide +kernel
theorem dX11_init_133 : decode cX11_init 133 = .ok (.dup, 1) := by decide +kernel
theorem dX11_init_134 : decode cX11_init 134 = .ok (.aload_n 0, 1) := by decide +kernel
theorem dX11_init_135 : decode cX11_init 135 = .ok (.getfield 27, 3) := by decide +kernel
theorem dX11_init_138 : decode cX11_init 138 = .ok (.aload_n 0, 1) := by decide +kernel
theorem dX11_init_139 : decode cX11_init 139 = .ok (.getfield 46, 3) := by decide +kernel
theorem dX11_init_142 : decode cX11_init 142 = .ok (.aload_n 0, 1) := by decide +kernel
theorem dX11_init_143 : decode cX11_init 143 = .ok (.getfield 55, 3) := by decide +kernel
theorem dX11_init_146 : decode cX11_init 146 = .ok (.invokespecial 77, 3) := by decide +kernel
theorem dX11_init_149 : decode cX11_init 149 = .ok (.putfield 78, 3) := by decide +kernel
theorem dX11_init_152 : decode cX11_init 152 = .ok (.aload_n 0, 1) := by decide +kernel
theorem dX11_init_153 : decode cX11_init 153 = .ok (.new 82, 3) := by decide +kernel
theorem dX11_init_156 : decode cX11_init 156 = .ok (.dup, 1) := by decide +kernel
theorem dX11_init_157 : decode cX11_init 157 = .ok (.aload_n 0, 1) := by decide +kernel
theorem dX11_init_158 : decode cX11_init 158 = .ok (.getfield 27, 3) := by decide +kernel
theorem dX11_init_161 : decode cX11_init 161 = .ok (.aload_n 0, 1) := by decide +kernel
theorem dX11_init_162 : decode cX11_init 162 = .ok (.getfield 55, 3) := by decide +kernel
theorem dX11_init_165 : decode cX11_init 165 = .ok (.invokespecial 84, 3) := by decide +kernel
theorem dX11_init_168 : decode cX11_init 168 = .ok (.putfield 87, 3) := by decide +kernel
theorem dX11_init_171 : decode cX11_init 171 = .ok (.return_, 1) := by decide +kernel
theorem dX11_iron_0 : decode cX11_iron 0 = .ok (.aload_n 0, 1) := by decide +kernel
theorem dX11_iron_1 : decode cX11_iron 1 = .ok (.iload_n 1, 1) := by decide +kernel
theorem dX11_iron_2 : decode cX11_iron 2 = .ok (.invokevirtual 149, 3) := by decide +kernel
theorem dX11_iron_5 : decode cX11_iron 5 = .ok (.ifCond .eq 15, 3) := by decide +kernel
theorem dX11_iron_20 : decode cX11_iron 20 = .ok (.iconst (-1), 1) := by decide +kernel
theorem dX11_iron_21 : decode cX11_iron 21 = .ok (.ireturn, 1) := by decide +kernel
theorem dX11_isBeast_0 : decode cX11_isBeast 0 = .ok (.iload_n 1, 1) := by decide +kernel
theorem dX11_isBeast_1 : decode cX11_isBeast 1 = .ok (.ifCond .lt 18, 3) := by decide +kernel
theorem dX11_isBeast_4 : decode cX11_isBeast 4 = .ok (.iload_n 1, 1) := by decide +kernel
theorem dX11_isBeast_5 : decode cX11_isBeast 5 = .ok (.aload_n 0, 1) := by decide +kernel
theorem dX11_isBeast_6 : decode cX11_isBeast 6 = .ok (.getfield 27, 3) := by decide +kernel
theorem dX11_isBeast_9 : decode cX11_isBeast 9 = .ok (.getfield 308, 3) := by decide +kernel
theorem dX11_isBeast_12 : decode cX11_isBeast 12 = .ok (.if_icmp .ge 7, 3) := by decide +kernel
theorem dX11_isBeast_19 : decode cX11_isBeast 19 = .ok (.iconst 0, 1) := by decide +kernel
theorem dX11_isBeast_20 : decode cX11_isBeast 20 = .ok (.ireturn, 1) := by decide +kernel
theorem dX11_isBox_0 : decode cX11_isBox 0 = .ok (.iload_n 0, 1) := by decide +kernel
theorem dX11_isBox_1 : decode cX11_isBox 1 = .ok (.ifCond .lt 12, 3) := by decide +kernel
theorem dX11_isBox_4 : decode cX11_isBox 4 = .ok (.iload_n 0, 1) := by decide +kernel
theorem dX11_isBox_5 : decode cX11_isBox 5 = .ok (.iconst 3, 1) := by decide +kernel
theorem dX11_isBox_6 : decode cX11_isBox 6 = .ok (.if_icmp .ge 7, 3) := by decide +kernel
theorem dX11_isBox_9 : decode cX11_isBox 9 = .ok (.iconst 1, 1) := by decide +kernel
theorem dX11_isBox_10 : decode cX11_isBox 10 = .ok (.goto 4, 3) := by decide +kernel
theorem dX11_isBox_13 : decode cX11_isBox 13 = .ok (.iconst 0, 1) := by decide +kernel
theorem dX11_isBox_14 : decode cX11_isBox 14 = .ok (.ireturn, 1) := by decide +kernel
theorem dX11_isBurning_0 : decode cX11_isBurning 0 = .ok (.iload_n 0, 1) := by decide +kernel
theorem dX11_isBurning_1 : decode cX11_isBurning 1 = .ok (.iconst 1, 1) := by decide +kernel
theorem dX11_isBurning_2 : decode cX11_isBurning 2 = .ok (.if_icmp .eq 8, 3) := by decide +kernel
theorem dX11_isBurning_5 : decode cX11_isBurning 5 = .ok (.iload_n 0, 1) := by decide +kernel
theorem dX11_isBurning_6 : decode cX11_isBurning 6 = .ok (.iconst 2, 1) := by decide +kernel
theorem dX11_isBurning_7 : decode cX11_isBurning 7 = .ok (.if_icmp .ne 7, 3) := by decide +kernel
theorem dX11_isBurning_10 : decode cX11_isBurning 10 = .ok (.iconst 1, 1) := by decide +kernel
theorem dX11_isBurning_11 : decode cX11_isBurning 11 = .ok (.goto 4, 3) := by decide +kernel
theorem dX11_isBurning_14 : decode cX11_isBurning 14 = .ok (.iconst 0, 1) := by decide +kernel
theorem dX11_isBurning_15 : decode cX11_isBurning 15 = .ok (.ireturn, 1) := by decide +kernel
theorem dX11_isHerd_0 : decode cX11_isHerd 0 = .ok (.iload_n 1, 1) := by decide +kernel
theorem dX11_isHerd_1 : decode cX11_isHerd 1 = .ok (.ifCond .lt 18, 3) := by decide +kernel
theorem dX11_isHerd_4 : decode cX11_isHerd 4 = .ok (.iload_n 1, 1) := by decide +kernel
theorem dX11_isHerd_5 : decode cX11_isHerd 5 = .ok (.aload_n 0, 1) := by decide +kernel
theorem dX11_isHerd_6 : decode cX11_isHerd 6 = .ok (.getfield 27, 3) := by decide +kernel
theorem dX11_isHerd_9 : decode cX11_isHerd 9 = .ok (.getfield 133, 3) := by decide +kernel
theorem dX11_isHerd_12 : decode cX11_isHerd 12 = .ok (.if_icmp .ge 7, 3) := by decide +kernel
theorem dX11_isHerd_19 : decode cX11_isHerd 19 = .ok (.iconst 0, 1) := by decide +kernel
theorem dX11_isHerd_20 : decode cX11_isHerd 20 = .ok (.ireturn, 1) := by decide +kernel
theorem dX11_isIron_0 : decode cX11_isIron 0 = .ok (.iload_n 1, 1) := by decide +kernel
theorem dX11_isIron_1 : decode cX11_isIron 1 = .ok (.ifCond .lt 18, 3) := by decide +kernel
theorem dX11_isIron_4 : decode cX11_isIron 4 = .ok (.iload_n 1, 1) := by decide +kernel
theorem dX11_isIron_5 : decode cX11_isIron 5 = .ok (.aload_n 0, 1) := by decide +kernel
theorem dX11_isIron_6 : decode cX11_isIron 6 = .ok (.getfield 27, 3) := by decide +kernel
theorem dX11_isIron_9 : decode cX11_isIron 9 = .ok (.getfield 377, 3) := by decide +kernel
theorem dX11_isIron_12 : decode cX11_isIron 12 = .ok (.if_icmp .ge 7, 3) := by decide +kernel
theorem dX11_isIron_19 : decode cX11_isIron 19 = .ok (.iconst 0, 1) := by decide +kernel
theorem dX11_isIron_20 : decode cX11_isIron 20 = .ok (.ireturn, 1) := by decide +kernel
theorem dX11_isMark_0 : decode cX11_isMark 0 = .ok (.iload_n 0, 1) := by decide +kernel
theorem dX11_isMark_1 : decode cX11_isMark 1 = .ok (.ifCond .lt 14, 3) := by decide +kernel
theorem dX11_isMark_4 : decode cX11_isMark 4 = .ok (.iload_n 0, 1) := by decide +kernel
theorem dX11_isMark_5 : decode cX11_isMark 5 = .ok (.sipush 4096, 3) := by decide +kernel
theorem dX11_isMark_8 : decode cX11_isMark 8 = .ok (.if_icmp .ge 7, 3) := by decide +kernel
theorem dX11_isMark_11 : decode cX11_isMark 11 = .ok (.iconst 1, 1) := by decide +kernel
theorem dX11_isMark_12 : decode cX11_isMark 12 = .ok (.goto 4, 3) := by decide +kernel
theorem dX11_isMark_15 : decode cX11_isMark 15 = .ok (.iconst 0, 1) := by decide +kernel
theorem dX11_isMark_16 : decode cX11_isMark 16 = .ok (.ireturn, 1) := by decide +kernel
theorem dX11_isPart_0 : decode cX11_isPart 0 = .ok (.iload_n 0, 1) := by decide +kernel
theorem dX11_isPart_1 : decode cX11_isPart 1 = .ok (.ifCond .eq 8, 3) := by decide +kernel
theorem dX11_isPart_4 : decode cX11_isPart 4 = .ok (.iload_n 0, 1) := by decide +kernel
theorem dX11_isPart_5 : decode cX11_isPart 5 = .ok (.iconst 1, 1) := by decide +kernel
theorem dX11_isPart_6 : decode cX11_isPart 6 = .ok (.if_icmp .ne 7, 3) := by decide +kernel
theorem dX11_isPart_9 : decode cX11_isPart 9 = .ok (.iconst 1, 1) := by decide +kernel
theorem dX11_isPart_10 : decode cX11_isPart 10 = .ok (.goto 4, 3) := by decide +kernel
theorem dX11_isPart_13 : decode cX11_isPart 13 = .ok (.iconst 0, 1) := by decide +kernel
theorem dX11_isPart_14 : decode cX11_isPart 14 = .ok (.ireturn, 1) := by decide +kernel
theorem dX11_isPlacement_0 : decode cX11_isPlacement 0 = .ok (.iload_n 1, 1) := by decide +kernel
theorem dX11_isPlacement_1 : decode cX11_isPlacement 1 = .ok (.ifCond .lt 18, 3) := by decide +kernel
theorem dX11_isPlacement_4 : decode cX11_isPlacement 4 = .ok (.iload_n 1, 1) := by decide +kernel
theorem dX11_isPlacement_5 : decode cX11_isPlacement 5 = .ok (.aload_n 0, 1) := by decide +kernel
theorem dX11_isPlacement_6 : decode cX11_isPlacement 6 = .ok (.getfield 46, 3) := by decide +kernel
theorem dX11_isPlacement_9 : decode cX11_isPlacement 9 = .ok (.invokevirtual 380, 3) := by decide +kernel
theorem dX11_isPlacement_12 : decode cX11_isPlacement 12 = .ok (.if_icmp .ge 7, 3) := by decide +kernel
theorem dX11_isPlacement_15 : decode cX11_isPlacement 15 = .ok (.iconst 1, 1) := by decide +kernel
theorem dX11_isPlacement_16 : decode cX11_isPlacement 16 = .ok (.goto 4, 3) := by decide +kernel
theorem dX11_isPlacement_19 : decode cX11_isPlacement 19 = .ok (.iconst 0, 1) := by decide +kernel
theorem dX11_isPlacement_20 : decode cX11_isPlacement 20 = .ok (.ireturn, 1) := by decide +kernel
theorem dX11_isStroke_0 : decode cX11_isStroke 0 = .ok (.iload_n 0, 1) := by decide +kernel
theorem dX11_isStroke_1 : decode cX11_isStroke 1 = .ok (.ifCond .lt 13, 3) := by decide +kernel
theorem dX11_isStroke_4 : decode cX11_isStroke 4 = .ok (.iload_n 0, 1) := by decide +kernel
theorem dX11_isStroke_5 : decode cX11_isStroke 5 = .ok (.bipush 12, 2) := by decide +kernel
theorem dX11_isStroke_7 : decode cX11_isStroke 7 = .ok (.if_icmp .ge 7, 3) := by decide +kernel
theorem dX11_isStroke_10 : decode cX11_isStroke 10 = .ok (.iconst 1, 1) := by decide +kernel
theorem dX11_isStroke_11 : decode cX11_isStroke 11 = .ok (.goto 4, 3) := by decide +kernel
theorem dX11_isStroke_14 : decode cX11_isStroke 14 = .ok (.iconst 0, 1) := by decide +kernel
theorem dX11_isStroke_15 : decode cX11_isStroke 15 = .ok (.ireturn, 1) := by decide +kernel
theorem dX11_king_0 : decode cX11_king 0 = .ok (.aload_n 0, 1) := by decide +kernel
theorem dX11_king_1 : decode cX11_king 1 = .ok (.getfield 27, 3) := by decide +kernel
theorem dX11_king_4 : decode cX11_king 4 = .ok (.getfield 133, 3) := by decide +kernel
theorem dX11_king_7 : decode cX11_king 7 = .ok (.ifCond .eq 10, 3) := by decide +kernel
theorem dX11_king_17 : decode cX11_king 17 = .ok (.iconst (-1), 1) := by decide +kernel
theorem dX11_king_18 : decode cX11_king 18 = .ok (.ireturn, 1) := by decide +kernel
theorem dX11_later_0 : decode cX11_later 0 = .ok (.iload_n 1, 1) := by decide +kernel
theorem dX11_later_1 : decode cX11_later 1 = .ok (.ifCond .lt 21, 3) := by decide +kernel
theorem dX11_later_4 : decode cX11_later 4 = .ok (.iload_n 1, 1) := by decide +kernel
theorem dX11_later_5 : decode cX11_later 5 = .ok (.sipush 1000, 3) := by decide +kernel
theorem dX11_later_8 : decode cX11_later 8 = .ok (.if_icmp .gt 14, 3) := by decide +kernel
theorem dX11_later_11 : decode cX11_later 11 = .ok (.aload_n 0, 1) := by decide +kernel
theorem dX11_later_12 : decode cX11_later 12 = .ok (.getfield 87, 3) := by decide +kernel
theorem dX11_later_15 : decode cX11_later 15 = .ok (.iload_n 1, 1) := by decide +kernel
theorem dX11_later_16 : decode cX11_later 16 = .ok (.invokevirtual 351, 3) := by decide +kernel
theorem dX11_later_19 : decode cX11_later 19 = .ok (.goto 4, 3) := by decide +kernel
theorem dX11_later_22 : decode cX11_later 22 = .ok (.iconst (-1), 1) := by decide +kernel
theorem dX11_later_23 : decode cX11_later 23 = .ok (.ireturn, 1) := by decide +kernel
theorem dX11_law_0 : decode cX11_law 0 = .ok (.iload_n 1, 1) := by decide +kernel
theorem dX11_law_1 : decode cX11_law 1 = .ok (.ifCond .lt 27, 3) := by decide +kernel
theorem dX11_law_4 : decode cX11_law 4 = .ok (.iload_n 1, 1) := by decide +kernel
theorem dX11_law_5 : decode cX11_law 5 = .ok (.bipush 99, 2) := by decide +kernel
theorem dX11_law_7 : decode cX11_law 7 = .ok (.if_icmp .gt 21, 3) := by decide +kernel
theorem dX11_law_10 : decode cX11_law 10 = .ok (.aload_n 0, 1) := by decide +kernel
theorem dX11_law_11 : decode cX11_law 11 = .ok (.getfield 78, 3) := by decide +kernel
theorem dX11_law_14 : decode cX11_law 14 = .ok (.aload_n 0, 1) := by decide +kernel
theorem dX11_law_15 : decode cX11_law 15 = .ok (.getfield 62, 3) := by decide +kernel
theorem dX11_law_18 : decode cX11_law 18 = .ok (.invokevirtual 158, 3) := by decide +kernel
theorem dX11_law_21 : decode cX11_law 21 = .ok (.iload_n 1, 1) := by decide +kernel
theorem dX11_law_22 : decode cX11_law 22 = .ok (.invokevirtual 332, 3) := by decide +kernel
theorem dX11_law_25 : decode cX11_law 25 = .ok (.goto 4, 3) := by decide +kernel
theorem dX11_law_28 : decode cX11_law 28 = .ok (.iconst (-1), 1) := by decide +kernel
theorem dX11_law_29 : decode cX11_law 29 = .ok (.ireturn, 1) := by decide +kernel
theorem dX11_lies_0 : decode cX11_lies 0 = .ok (.iload_n 1, 1) := by decide +kernel
theorem dX11_lies_1 : decode cX11_lies 1 = .ok (.ifCond .lt 20, 3) := by decide +kernel
theorem dX11_lies_4 : decode cX11_lies 4 = .ok (.iload_n 1, 1) := by decide +kernel
theorem dX11_lies_5 : decode cX11_lies 5 = .ok (.aload_n 0, 1) := by decide +kernel
theorem dX11_lies_6 : decode cX11_lies 6 = .ok (.getfield 13, 3) := by decide +kernel
theorem dX11_lies_9 : decode cX11_lies 9 = .ok (.if_icmp .ge 12, 3) := by decide +kernel
theorem dX11_lies_21 : decode cX11_lies 21 = .ok (.iconst (-1), 1) := by decide +kernel
theorem dX11_lies_22 : decode cX11_lies 22 = .ok (.ireturn, 1) := by decide +kernel
theorem dX11_lowest_0 : decode cX11_lowest 0 = .ok (.aload_n 0, 1) := by decide +kernel
theorem dX11_lowest_1 : decode cX11_lowest 1 = .ok (.getfield 71, 3) := by decide +kernel
theorem dX11_lowest_4 : decode cX11_lowest 4 = .ok (.invokevirtual 249, 3) := by decide +kernel
theorem dX11_lowest_7 : decode cX11_lowest 7 = .ok (.ireturn, 1) := by decide +kernel
theorem dX11_nearest_0 : decode cX11_nearest 0 = .ok (.aload_n 0, 1) := by decide +kernel
theorem dX11_nearest_1 : decode cX11_nearest 1 = .ok (.getfield 27, 3) := by decide +kernel
theorem dX11_nearest_4 : decode cX11_nearest 4 = .ok (.getfield 133, 3) := by decide +kernel
theorem dX11_nearest_7 : decode cX11_nearest 7 = .ok (.ifCond .eq 17, 3) := by decide +kernel
theorem dX11_nearest_24 : decode cX11_nearest 24 = .ok (.iconst (-1), 1) := by decide +kernel
theorem dX11_nearest_25 : decode cX11_nearest 25 = .ok (.ireturn, 1) := by decide +kernel
theorem dX11_norm_0 : decode cX11_norm 0 = .ok (.iload_n 1, 1) := by decide +kernel
theorem dX11_norm_1 : decode cX11_norm 1 = .ok (.invokestatic 193, 3) := by decide +kernel
theorem dX11_norm_4 : decode cX11_norm 4 = .ok (.ifCond .eq 14, 3) := by decide +kernel
theorem dX11_norm_7 : decode cX11_norm 7 = .ok (.aload_n 0, 1) := by decide +kernel
theorem dX11_norm_8 : decode cX11_norm 8 = .ok (.getfield 46, 3) := by decide +kernel
theorem dX11_norm_11 : decode cX11_norm 11 = .ok (.iload_n 1, 1) := by decide +kernel
theorem dX11_norm_12 : decode cX11_norm 12 = .ok (.invokevirtual 320, 3) := by decide +kernel
theorem dX11_norm_15 : decode cX11_norm 15 = .ok (.goto 4, 3) := by decide +kernel
theorem dX11_norm_18 : decode cX11_norm 18 = .ok (.iconst (-1), 1) := by decide +kernel
theorem dX11_norm_19 : decode cX11_norm 19 = .ok (.ireturn, 1) := by decide +kernel
theorem dX11_odds_0 : decode cX11_odds 0 = .ok (.iload_n 1, 1) := by decide +kernel
theorem dX11_odds_1 : decode cX11_odds 1 = .ok (.ifCond .lt 15, 3) := by decide +kernel
theorem dX11_odds_4 : decode cX11_odds 4 = .ok (.iload_n 1, 1) := by decide +kernel
theorem dX11_odds_5 : decode cX11_odds 5 = .ok (.iconst 4, 1) := by decide +kernel
theorem dX11_odds_6 : decode cX11_odds 6 = .ok (.if_icmp .gt 10, 3) := by decide +kernel
theorem dX11_odds_9 : decode cX11_odds 9 = .ok (.iload_n 2, 1) := by decide +kernel
theorem dX11_odds_10 : decode cX11_odds 10 = .ok (.invokestatic 271, 3) := by decide +kernel
theorem dX11_odds_13 : decode cX11_odds 13 = .ok (.ifCond .ne 5, 3) := by decide +kernel
theorem dX11_odds_16 : decode cX11_odds 16 = .ok (.iconst (-1), 1) := by decide +kernel
theorem dX11_odds_17 : decode cX11_odds 17 = .ok (.ireturn, 1) := by decide +kernel
theorem dX11_odds_18 : decode cX11_odds 18 = .ok (.bipush 100, 2) := by decide +kernel
theorem dX11_odds_20 : decode cX11_odds 20 = .ok (.aload_n 0, 1) := by decide +kernel
theorem dX11_odds_21 : decode cX11_odds 21 = .ok (.getfield 27, 3) := by decide +kernel
theorem dX11_odds_24 : decode cX11_odds 24 = .ok (.getfield 335, 3) := by decide +kernel
theorem dX11_odds_27 : decode cX11_odds 27 = .ok (.isub, 1) := by decide +kernel
theorem dX11_odds_28 : decode cX11_odds 28 = .ok (.istore_n 3, 1) := by decide +kernel
theorem dX11_odds_29 : decode cX11_odds 29 = .ok (.iload_n 2, 1) := by decide +kernel
theorem dX11_odds_30 : decode cX11_odds 30 = .ok (.ifCond .ne 7, 3) := by decide +kernel
theorem dX11_odds_33 : decode cX11_odds 33 = .ok (.iload_n 3, 1) := by decide +kernel
theorem dX11_odds_34 : decode cX11_odds 34 = .ok (.goto 5, 3) := by decide +kernel
theorem dX11_odds_37 : decode cX11_odds 37 = .ok (.bipush 100, 2) := by decide +kernel
theorem dX11_odds_39 : decode cX11_odds 39 = .ok (.iload_n 3, 1) := by decide +kernel
theorem dX11_odds_40 : decode cX11_odds 40 = .ok (.invokestatic 338, 3) := by decide +kernel
theorem dX11_odds_43 : decode cX11_odds 43 = .ok (.istore 4, 2) := by decide +kernel
theorem dX11_odds_45 : decode cX11_odds 45 = .ok (.iconst 1, 1) := by decide +kernel
theorem dX11_odds_46 : decode cX11_odds 46 = .ok (.istore 5, 2) := by decide +kernel
theorem dX11_odds_48 : decode cX11_odds 48 = .ok (.iconst 0, 1) := by decide +kernel
theorem dX11_odds_49 : decode cX11_odds 49 = .ok (.istore 6, 2) := by decide +kernel
theorem dX11_odds_51 : decode cX11_odds 51 = .ok (.iload 6, 2) := by decide +kernel
theorem dX11_odds_53 : decode cX11_odds 53 = .ok (.iload_n 1, 1) := by decide +kernel
theorem dX11_odds_54 : decode cX11_odds 54 = .ok (.if_icmp .ge 16, 3) := by decide +kernel
theorem dX11_odds_57 : decode cX11_odds 57 = .ok (.iload 5, 2) := by decide +kernel
theorem dX11_odds_59 : decode cX11_odds 59 = .ok (.iload 4, 2) := by decide +kernel
theorem dX11_odds_61 : decode cX11_odds 61 = .ok (.imul, 1) := by decide +kernel
theorem dX11_odds_62 : decode cX11_odds 62 = .ok (.istore 5, 2) := by decide +kernel
theorem dX11_odds_64 : decode cX11_odds 64 = .ok (.iinc 6 1, 3) := by decide +kernel
theorem dX11_odds_67 : decode cX11_odds 67 = .ok (.goto (-16), 3) := by decide +kernel
theorem dX11_odds_70 : decode cX11_odds 70 = .ok (.iload 5, 2) := by decide +kernel
theorem dX11_odds_72 : decode cX11_odds 72 = .ok (.ireturn, 1) := by decide +kernel
theorem dX11_oldest_0 : decode cX11_oldest 0 = .ok (.aload_n 0, 1) := by decide +kernel
theorem dX11_oldest_1 : decode cX11_oldest 1 = .ok (.iload_n 1, 1) := by decide +kernel
theorem dX11_oldest_2 : decode cX11_oldest 2 = .ok (.invokevirtual 155, 3) := by decide +kernel
theorem dX11_oldest_5 : decode cX11_oldest 5 = .ok (.ifCond .eq 17, 3) := by decide +kernel
theorem dX11_oldest_22 : decode cX11_oldest 22 = .ok (.iconst (-1), 1) := by decide +kernel
theorem dX11_oldest_23 : decode cX11_oldest 23 = .ok (.ireturn, 1) := by decide +kernel
theorem dX11_origins_0 : decode cX11_origins 0 = .ok (.aload_n 0, 1) := by decide +kernel
theorem dX11_origins_1 : decode cX11_origins 1 = .ok (.iload_n 1, 1) := by decide +kernel
theorem dX11_origins_2 : decode cX11_origins 2 = .ok (.invokevirtual 155, 3) := by decide +kernel
theorem dX11_origins_5 : decode cX11_origins 5 = .ok (.ifCond .eq 21, 3) := by decide +kernel
theorem dX11_origins_26 : decode cX11_origins 26 = .ok (.iconst (-1), 1) := by decide +kernel
theorem dX11_origins_27 : decode cX11_origins 27 = .ok (.ireturn, 1) := by decide +kernel
theorem dX11_placed_0 : decode cX11_placed 0 = .ok (.iload_n 1, 1) := by decide +kernel
theorem dX11_placed_1 : decode cX11_placed 1 = .ok (.invokestatic 193, 3) := by decide +kernel
theorem dX11_placed_4 : decode cX11_placed 4 = .ok (.ifCond .eq 11, 3) := by decide +kernel
theorem dX11_placed_7 : decode cX11_placed 7 = .ok (.aload_n 0, 1) := by decide +kernel
theorem dX11_placed_8 : decode cX11_placed 8 = .ok (.iload_n 2, 1) := by decide +kernel
theorem dX11_placed_9 : decode cX11_placed 9 = .ok (.invokevirtual 196, 3) := by decide +kernel
theorem dX11_placed_12 : decode cX11_placed 12 = .ok (.ifCond .ne 5, 3) := by decide +kernel
theorem dX11_placed_15 : decode cX11_placed 15 = .ok (.iconst (-1), 1) := by decide +kernel
theorem dX11_placed_16 : decode cX11_placed 16 = .ok (.ireturn, 1) := by decide +kernel
theorem dX11_placed_17 : decode cX11_placed 17 = .ok (.aload_n 0, 1) := by decide +kernel
theorem dX11_placed_18 : decode cX11_placed 18 = .ok (.getfield 46, 3) := by decide +kernel
theorem dX11_placed_21 : decode cX11_placed 21 = .ok (.iload_n 1, 1) := by decide +kernel
theorem dX11_placed_22 : decode cX11_placed 22 = .ok (.iload_n 2, 1) := by decide +kernel
theorem dX11_placed_23 : decode cX11_placed 23 = .ok (.invokevirtual 199, 3) := by decide +kernel
theorem dX11_placed_26 : decode cX11_placed 26 = .ok (.ireturn, 1) := by decide +kernel
theorem dX11_raid_0 : decode cX11_raid 0 = .ok (.aload_n 0, 1) := by decide +kernel
theorem dX11_raid_1 : decode cX11_raid 1 = .ok (.iconst 0, 1) := by decide +kernel
theorem dX11_raid_2 : decode cX11_raid 2 = .ok (.putfield 13, 3) := by decide +kernel
theorem dX11_raid_5 : decode cX11_raid 5 = .ok (.aload_n 0, 1) := by decide +kernel
theorem dX11_raid_6 : decode cX11_raid 6 = .ok (.iload_n 1, 1) := by decide +kernel
theorem dX11_raid_7 : decode cX11_raid 7 = .ok (.invokevirtual 142, 3) := by decide +kernel
theorem dX11_raid_10 : decode cX11_raid 10 = .ok (.ifCond .eq 26, 3) := by decide +kernel
theorem dX11_raid_36 : decode cX11_raid 36 = .ok (.iconst (-1), 1) := by decide +kernel
theorem dX11_raid_37 : decode cX11_raid 37 = .ok (.ireturn, 1) := by decide +kernel
theorem dX11_read_0 : decode cX11_read 0 = .ok (.aload_n 0, 1) := by decide +kernel
theorem dX11_read_1 : decode cX11_read 1 = .ok (.iload_n 1, 1) := by decide +kernel
theorem dX11_read_2 : decode cX11_read 2 = .ok (.invokevirtual 155, 3) := by decide +kernel
theorem dX11_read_5 : decode cX11_read 5 = .ok (.ifCond .eq 21, 3) := by decide +kernel
theorem dX11_read_26 : decode cX11_read 26 = .ok (.iconst (-1), 1) := by decide +kernel
theorem dX11_read_27 : decode cX11_read 27 = .ok (.ireturn, 1) := by decide +kernel
theorem dX11_redo_0 : decode cX11_redo 0 = .ok (.aload_n 0, 1) := by decide +kernel
theorem dX11_redo_1 : decode cX11_redo 1 = .ok (.getfield 62, 3) := by decide +kernel
theorem dX11_redo_4 : decode cX11_redo 4 = .ok (.invokevirtual 235, 3) := by decide +kernel
theorem dX11_redo_7 : decode cX11_redo 7 = .ok (.ireturn, 1) := by decide +kernel
theorem dX11_rows_0 : decode cX11_rows 0 = .ok (.aload_n 0, 1) := by decide +kernel
theorem dX11_rows_1 : decode cX11_rows 1 = .ok (.getfield 87, 3) := by decide +kernel
theorem dX11_rows_4 : decode cX11_rows 4 = .ok (.iload_n 1, 1) := by decide +kernel
theorem dX11_rows_5 : decode cX11_rows 5 = .ok (.invokevirtual 354, 3) := by decide +kernel
theorem dX11_rows_8 : decode cX11_rows 8 = .ok (.ireturn, 1) := by decide +kernel
theorem dX11_safe_0 : decode cX11_safe 0 = .ok (.aload_n 0, 1) := by decide +kernel
theorem dX11_safe_1 : decode cX11_safe 1 = .ok (.getfield 71, 3) := by decide +kernel
theorem dX11_safe_4 : decode cX11_safe 4 = .ok (.invokevirtual 268, 3) := by decide +kernel
theorem dX11_safe_7 : decode cX11_safe 7 = .ok (.ireturn, 1) := by decide +kernel
theorem dX11_season_0 : decode cX11_season 0 = .ok (.aload_n 0, 1) := by decide +kernel
theorem dX11_season_1 : decode cX11_season 1 = .ok (.getfield 62, 3) := by decide +kernel
theorem dX11_season_4 : decode cX11_season 4 = .ok (.invokevirtual 158, 3) := by decide +kernel
theorem dX11_season_7 : decode cX11_season 7 = .ok (.getfield 206, 3) := by decide +kernel
theorem dX11_season_10 : decode cX11_season 10 = .ok (.sipush 999, 3) := by decide +kernel
theorem dX11_season_13 : decode cX11_season 13 = .ok (.if_icmp .lt 5, 3) := by decide +kernel
theorem dX11_season_18 : decode cX11_season 18 = .ok (.aload_n 0, 1) := by decide +kernel
theorem dX11_season_19 : decode cX11_season 19 = .ok (.getfield 62, 3) := by decide +kernel
theorem dX11_season_22 : decode cX11_season 22 = .ok (.invokevirtual 209, 3) := by decide +kernel
theorem dX11_season_25 : decode cX11_season 25 = .ok (.astore_n 1, 1) := by decide +kernel
theorem dX11_season_26 : decode cX11_season 26 = .ok (.aload_n 1, 1) := by decide +kernel
theorem dX11_season_27 : decode cX11_season 27 = .ok (.invokevirtual 212, 3) := by decide +kernel
theorem dX11_season_30 : decode cX11_season 30 = .ok (.aload_n 1, 1) := by decide +kernel
theorem dX11_season_31 : decode cX11_season 31 = .ok (.aload_n 0, 1) := by decide +kernel
theorem dX11_season_32 : decode cX11_season 32 = .ok (.getfield 27, 3) := by decide +kernel
theorem dX11_season_35 : decode cX11_season 35 = .ok (.invokevirtual 215, 3) := by decide +kernel
theorem dX11_season_38 : decode cX11_season 38 = .ok (.ireturn, 1) := by decide +kernel
theorem dX11_seen_0 : decode cX11_seen 0 = .ok (.iload_n 1, 1) := by decide +kernel
theorem dX11_seen_1 : decode cX11_seen 1 = .ok (.invokestatic 341, 3) := by decide +kernel
theorem dX11_seen_4 : decode cX11_seen 4 = .ok (.ifCond .eq 20, 3) := by decide +kernel
theorem dX11_seen_7 : decode cX11_seen 7 = .ok (.iload_n 2, 1) := by decide +kernel
theorem dX11_seen_8 : decode cX11_seen 8 = .ok (.invokestatic 186, 3) := by decide +kernel
theorem dX11_seen_11 : decode cX11_seen 11 = .ok (.ifCond .eq 13, 3) := by decide +kernel
theorem dX11_seen_14 : decode cX11_seen 14 = .ok (.aload_n 0, 1) := by decide +kernel
theorem dX11_seen_15 : decode cX11_seen 15 = .ok (.getfield 27, 3) := by decide +kernel
theorem dX11_seen_18 : decode cX11_seen 18 = .ok (.getfield 308, 3) := by decide +kernel
theorem dX11_seen_21 : decode cX11_seen 21 = .ok (.ifCond .ne 5, 3) := by decide +kernel
theorem dX11_seen_24 : decode cX11_seen 24 = .ok (.iconst (-1), 1) := by decide +kernel
theorem dX11_seen_25 : decode cX11_seen 25 = .ok (.ireturn, 1) := by decide +kernel
theorem dX11_sell_0 : decode cX11_sell 0 = .ok (.aload_n 0, 1) := by decide +kernel
theorem dX11_sell_1 : decode cX11_sell 1 = .ok (.iload_n 1, 1) := by decide +kernel
theorem dX11_sell_2 : decode cX11_sell 2 = .ok (.invokevirtual 155, 3) := by decide +kernel
theorem dX11_sell_5 : decode cX11_sell 5 = .ok (.ifCond .eq 27, 3) := by decide +kernel
theorem dX11_sell_32 : decode cX11_sell 32 = .ok (.iconst (-1), 1) := by decide +kernel
theorem dX11_sell_33 : decode cX11_sell 33 = .ok (.ireturn, 1) := by decide +kernel
theorem dX11_shared_0 : decode cX11_shared 0 = .ok (.aload_n 0, 1) := by decide +kernel
theorem dX11_shared_1 : decode cX11_shared 1 = .ok (.iload_n 1, 1) := by decide +kernel
theorem dX11_shared_2 : decode cX11_shared 2 = .ok (.invokevirtual 142, 3) := by decide +kernel
theorem dX11_shared_5 : decode cX11_shared 5 = .ok (.ifCond .eq 11, 3) := by decide +kernel
theorem dX11_shared_16 : decode cX11_shared 16 = .ok (.iconst (-1), 1) := by decide +kernel
theorem dX11_shared_17 : decode cX11_shared 17 = .ok (.ireturn, 1) := by decide +kernel
theorem dX11_strays_0 : decode cX11_strays 0 = .ok (.aload_n 0, 1) := by decide +kernel
theorem dX11_strays_1 : decode cX11_strays 1 = .ok (.getfield 78, 3) := by decide +kernel
theorem dX11_strays_4 : decode cX11_strays 4 = .ok (.aload_n 0, 1) := by decide +kernel
theorem dX11_strays_5 : decode cX11_strays 5 = .ok (.getfield 62, 3) := by decide +kernel
theorem dX11_strays_8 : decode cX11_strays 8 = .ok (.invokevirtual 158, 3) := by decide +kernel
theorem dX11_strays_11 : decode cX11_strays 11 = .ok (.invokevirtual 323, 3) := by decide +kernel
theorem dX11_strays_14 : decode cX11_strays 14 = .ok (.ireturn, 1) := by decide +kernel
theorem dX11_sure_0 : decode cX11_sure 0 = .ok (.iload_n 1, 1) := by decide +kernel
theorem dX11_sure_1 : decode cX11_sure 1 = .ok (.invokestatic 341, 3) := by decide +kernel
theorem dX11_sure_4 : decode cX11_sure 4 = .ok (.ifCond .eq 15, 3) := by decide +kernel
theorem dX11_sure_7 : decode cX11_sure 7 = .ok (.aload_n 0, 1) := by decide +kernel
theorem dX11_sure_8 : decode cX11_sure 8 = .ok (.getfield 87, 3) := by decide +kernel
theorem dX11_sure_11 : decode cX11_sure 11 = .ok (.iload_n 1, 1) := by decide +kernel
theorem dX11_sure_12 : decode cX11_sure 12 = .ok (.iload_n 2, 1) := by decide +kernel
theorem dX11_sure_13 : decode cX11_sure 13 = .ok (.invokevirtual 357, 3) := by decide +kernel
theorem dX11_sure_16 : decode cX11_sure 16 = .ok (.goto 4, 3) := by decide +kernel
theorem dX11_sure_19 : decode cX11_sure 19 = .ok (.iconst (-1), 1) := by decide +kernel
theorem dX11_sure_20 : decode cX11_sure 20 = .ok (.ireturn, 1) := by decide +kernel
theorem dX11_tells_0 : decode cX11_tells 0 = .ok (.aload_n 0, 1) := by decide +kernel
theorem dX11_tells_1 : decode cX11_tells 1 = .ok (.getfield 78, 3) := by decide +kernel
theorem dX11_tells_4 : decode cX11_tells 4 = .ok (.aload_n 0, 1) := by decide +kernel
theorem dX11_tells_5 : decode cX11_tells 5 = .ok (.getfield 62, 3) := by decide +kernel
theorem dX11_tells_8 : decode cX11_tells 8 = .ok (.invokevirtual 158, 3) := by decide +kernel
