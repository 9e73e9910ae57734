theorem dX11_clean_11 : decode cX11_clean 11 = .ok (.getfield 62, 3) := by decide +kernel
theorem dX11_clean_14 : decode cX11_clean 14 = .ok (.invokevirtual 209, 3) := by decide +kernel
theorem dX11_clean_17 : decode cX11_clean 17 = .ok (.astore_n 2, 1) := by decide +kernel
theorem dX11_clean_18 : decode cX11_clean 18 = .ok (.aload_n 0, 1) := by decide +kernel
theorem dX11_clean_19 : decode cX11_clean 19 = .ok (.aload_n 0, 1) := by decide +kernel
theorem dX11_clean_20 : decode cX11_clean 20 = .ok (.getfield 27, 3) := by decide +kernel
theorem dX11_clean_23 : decode cX11_clean 23 = .ok (.getfield 174, 3) := by decide +kernel
theorem dX11_clean_26 : decode cX11_clean 26 = .ok (.iload_n 1, 1) := by decide +kernel
theorem dX11_clean_27 : decode cX11_clean 27 = .ok (.iaload, 1) := by decide +kernel
theorem dX11_clean_28 : decode cX11_clean 28 = .ok (.invokevirtual 225, 3) := by decide +kernel
theorem dX11_clean_31 : decode cX11_clean 31 = .ok (.istore_n 3, 1) := by decide +kernel
theorem dX11_clean_32 : decode cX11_clean 32 = .ok (.aload_n 2, 1) := by decide +kernel
theorem dX11_clean_33 : decode cX11_clean 33 = .ok (.getfield 162, 3) := by decide +kernel
theorem dX11_clean_36 : decode cX11_clean 36 = .ok (.iload_n 1, 1) := by decide +kernel
theorem dX11_clean_37 : decode cX11_clean 37 = .ok (.iaload, 1) := by decide +kernel
theorem dX11_clean_38 : decode cX11_clean 38 = .ok (.iload_n 3, 1) := by decide +kernel
theorem dX11_clean_39 : decode cX11_clean 39 = .ok (.iconst (-1), 1) := by decide +kernel
theorem dX11_clean_40 : decode cX11_clean 40 = .ok (.ixor, 1) := by decide +kernel
theorem dX11_clean_41 : decode cX11_clean 41 = .ok (.iand, 1) := by decide +kernel
theorem dX11_clean_42 : decode cX11_clean 42 = .ok (.invokestatic 180, 3) := by decide +kernel
theorem dX11_clean_45 : decode cX11_clean 45 = .ok (.istore 4, 2) := by decide +kernel
theorem dX11_clean_47 : decode cX11_clean 47 = .ok (.aload_n 2, 1) := by decide +kernel
theorem dX11_clean_48 : decode cX11_clean 48 = .ok (.iload_n 1, 1) := by decide +kernel
theorem dX11_clean_49 : decode cX11_clean 49 = .ok (.iload_n 3, 1) := by decide +kernel
theorem dX11_clean_50 : decode cX11_clean 50 = .ok (.iconst 0, 1) := by decide +kernel
theorem dX11_clean_51 : decode cX11_clean 51 = .ok (.invokevirtual 228, 3) := by decide +kernel
theorem dX11_clean_54 : decode cX11_clean 54 = .ok (.iload 4, 2) := by decide +kernel
theorem dX11_clean_56 : decode cX11_clean 56 = .ok (.ireturn, 1) := by decide +kernel
theorem dX11_undo_0 : decode cX11_undo 0 = .ok (.aload_n 0, 1) := by decide +kernel
theorem dX11_undo_1 : decode cX11_undo 1 = .ok (.getfield 62, 3) := by decide +kernel
theorem dX11_undo_4 : decode cX11_undo 4 = .ok (.invokevirtual 232, 3) := by decide +kernel
theorem dX11_undo_7 : decode cX11_undo 7 = .ok (.ireturn, 1) := by decide +kernel
theorem dX11_redo_0 : decode cX11_redo 0 = .ok (.aload_n 0, 1) := by decide +kernel
theorem dX11_redo_1 : decode cX11_redo 1 = .ok (.getfield 62, 3) := by decide +kernel
theorem dX11_redo_4 : decode cX11_redo 4 = .ok (.invokevirtual 235, 3) := by decide +kernel
theorem dX11_redo_7 : decode cX11_redo 7 = .ok (.ireturn, 1) := by decide +kernel
theorem dX11_make_0 : decode cX11_make 0 = .ok (.iload_n 1, 1) := by decide +kernel
theorem dX11_make_1 : decode cX11_make 1 = .ok (.invokestatic 193, 3) := by decide +kernel
theorem dX11_make_4 : decode cX11_make 4 = .ok (.ifCond .eq 10, 3) := by decide +kernel
theorem dX11_make_7 : decode cX11_make 7 = .ok (.iload_n 2, 1) := by decide +kernel
theorem dX11_make_8 : decode cX11_make 8 = .ok (.invokestatic 193, 3) := by decide +kernel
theorem dX11_make_11 : decode cX11_make 11 = .ok (.ifCond .ne 5, 3) := by decide +kernel
theorem dX11_make_14 : decode cX11_make 14 = .ok (.iconst (-1), 1) := by decide +kernel
theorem dX11_make_15 : decode cX11_make 15 = .ok (.ireturn, 1) := by decide +kernel
theorem dX11_make_16 : decode cX11_make 16 = .ok (.aload_n 0, 1) := by decide +kernel
theorem dX11_make_17 : decode cX11_make 17 = .ok (.getfield 55, 3) := by decide +kernel
theorem dX11_make_20 : decode cX11_make 20 = .ok (.iload_n 1, 1) := by decide +kernel
theorem dX11_make_21 : decode cX11_make 21 = .ok (.iload_n 2, 1) := by decide +kernel
theorem dX11_make_22 : decode cX11_make 22 = .ok (.invokevirtual 238, 3) := by decide +kernel
theorem dX11_make_25 : decode cX11_make 25 = .ok (.ireturn, 1) := by decide +kernel
theorem dX11_forge_0 : decode cX11_forge 0 = .ok (.aload_n 0, 1) := by decide +kernel
theorem dX11_forge_1 : decode cX11_forge 1 = .ok (.iconst 0, 1) := by decide +kernel
theorem dX11_forge_2 : decode cX11_forge 2 = .ok (.putfield 13, 3) := by decide +kernel
theorem dX11_forge_5 : decode cX11_forge 5 = .ok (.aload_n 0, 1) := by decide +kernel
theorem dX11_forge_6 : decode cX11_forge 6 = .ok (.iload_n 1, 1) := by decide +kernel
theorem dX11_forge_7 : decode cX11_forge 7 = .ok (.invokevirtual 155, 3) := by decide +kernel
theorem dX11_forge_10 : decode cX11_forge 10 = .ok (.ifCond .eq 11, 3) := by decide +kernel
theorem dX11_forge_13 : decode cX11_forge 13 = .ok (.aload_n 0, 1) := by decide +kernel
theorem dX11_forge_14 : decode cX11_forge 14 = .ok (.iload_n 2, 1) := by decide +kernel
theorem dX11_forge_15 : decode cX11_forge 15 = .ok (.invokevirtual 142, 3) := by decide +kernel
theorem dX11_forge_18 : decode cX11_forge 18 = .ok (.ifCond .ne 5, 3) := by decide +kernel
theorem dX11_forge_21 : decode cX11_forge 21 = .ok (.iconst (-1), 1) := by decide +kernel
theorem dX11_forge_22 : decode cX11_forge 22 = .ok (.ireturn, 1) := by decide +kernel
theorem dX11_forge_23 : decode cX11_forge 23 = .ok (.aload_n 0, 1) := by decide +kernel
theorem dX11_forge_24 : decode cX11_forge 24 = .ok (.getfield 62, 3) := by decide +kernel
theorem dX11_forge_27 : decode cX11_forge 27 = .ok (.invokevirtual 158, 3) := by decide +kernel
theorem dX11_forge_30 : decode cX11_forge 30 = .ok (.getfield 162, 3) := by decide +kernel
theorem dX11_forge_33 : decode cX11_forge 33 = .ok (.iload_n 1, 1) := by decide +kernel
theorem dX11_forge_34 : decode cX11_forge 34 = .ok (.iaload, 1) := by decide +kernel
theorem dX11_forge_35 : decode cX11_forge 35 = .ok (.istore_n 3, 1) := by decide +kernel
theorem dX11_forge_36 : decode cX11_forge 36 = .ok (.aload_n 0, 1) := by decide +kernel
theorem dX11_forge_37 : decode cX11_forge 37 = .ok (.getfield 55, 3) := by decide +kernel
theorem dX11_forge_40 : decode cX11_forge 40 = .ok (.iload_n 3, 1) := by decide +kernel
theorem dX11_forge_41 : decode cX11_forge 41 = .ok (.aload_n 0, 1) := by decide +kernel
theorem dX11_forge_42 : decode cX11_forge 42 = .ok (.getfield 27, 3) := by decide +kernel
theorem dX11_forge_45 : decode cX11_forge 45 = .ok (.getfield 146, 3) := by decide +kernel
theorem dX11_forge_48 : decode cX11_forge 48 = .ok (.iload_n 2, 1) := by decide +kernel
theorem dX11_forge_49 : decode cX11_forge 49 = .ok (.iaload, 1) := by decide +kernel
theorem dX11_forge_50 : decode cX11_forge 50 = .ok (.invokevirtual 238, 3) := by decide +kernel
theorem dX11_forge_53 : decode cX11_forge 53 = .ok (.istore 4, 2) := by decide +kernel
theorem dX11_forge_55 : decode cX11_forge 55 = .ok (.iload 4, 2) := by decide +kernel
theorem dX11_forge_57 : decode cX11_forge 57 = .ok (.ifCond .le 30, 3) := by decide +kernel
theorem dX11_forge_60 : decode cX11_forge 60 = .ok (.aload_n 0, 1) := by decide +kernel
theorem dX11_forge_61 : decode cX11_forge 61 = .ok (.aload_n 0, 1) := by decide +kernel
theorem dX11_forge_62 : decode cX11_forge 62 = .ok (.getfield 55, 3) := by decide +kernel
theorem dX11_forge_65 : decode cX11_forge 65 = .ok (.iload_n 3, 1) := by decide +kernel
theorem dX11_forge_66 : decode cX11_forge 66 = .ok (.aload_n 0, 1) := by decide +kernel
theorem dX11_forge_67 : decode cX11_forge 67 = .ok (.getfield 27, 3) := by decide +kernel
theorem dX11_forge_70 : decode cX11_forge 70 = .ok (.getfield 146, 3) := by decide +kernel
theorem dX11_forge_73 : decode cX11_forge 73 = .ok (.iload_n 2, 1) := by decide +kernel
theorem dX11_forge_74 : decode cX11_forge 74 = .ok (.iaload, 1) := by decide +kernel
theorem dX11_forge_75 : decode cX11_forge 75 = .ok (.iload 4, 2) := by decide +kernel
theorem dX11_forge_77 : decode cX11_forge 77 = .ok (.aload_n 0, 1) := by decide +kernel
theorem dX11_forge_78 : decode cX11_forge 78 = .ok (.getfield 9, 3) := by decide +kernel
theorem dX11_forge_81 : decode cX11_forge 81 = .ok (.invokevirtual 241, 3) := by decide +kernel
theorem dX11_forge_84 : decode cX11_forge 84 = .ok (.putfield 13, 3) := by decide +kernel
theorem dX11_forge_87 : decode cX11_forge 87 = .ok (.iload 4, 2) := by decide +kernel
theorem dX11_forge_89 : decode cX11_forge 89 = .ok (.ireturn, 1) := by decide +kernel
theorem dX11_chain_0 : decode cX11_chain 0 = .ok (.aload_n 0, 1) := by decide +kernel
theorem dX11_chain_1 : decode cX11_chain 1 = .ok (.aload_n 0, 1) := by decide +kernel
theorem dX11_chain_2 : decode cX11_chain 2 = .ok (.getfield 71, 3) := by decide +kernel
theorem dX11_chain_5 : decode cX11_chain 5 = .ok (.aload_n 0, 1) := by decide +kernel
theorem dX11_chain_6 : decode cX11_chain 6 = .ok (.getfield 9, 3) := by decide +kernel
theorem dX11_chain_9 : decode cX11_chain 9 = .ok (.invokevirtual 245, 3) := by decide +kernel
theorem dX11_chain_12 : decode cX11_chain 12 = .ok (.putfield 13, 3) := by decide +kernel
theorem dX11_chain_15 : decode cX11_chain 15 = .ok (.aload_n 0, 1) := by decide +kernel
theorem dX11_chain_16 : decode cX11_chain 16 = .ok (.getfield 13, 3) := by decide +kernel
theorem dX11_chain_19 : decode cX11_chain 19 = .ok (.ireturn, 1) := by decide +kernel
theorem dX11_lowest_0 : decode cX11_lowest 0 = .ok (.aload_n 0, 1) := by decide +kernel
theorem dX11_lowest_1 : decode cX11_lowest 1 = .ok (.getfield 71, 3) := by decide +kernel
theorem dX11_lowest_4 : decode cX11_lowest 4 = .ok (.invokevirtual 249, 3) := by decide +kernel
theorem dX11_lowest_7 : decode cX11_lowest 7 = .ok (.ireturn, 1) := by decide +kernel
theorem dX11_highest_0 : decode cX11_highest 0 = .ok (.aload_n 0, 1) := by decide +kernel
theorem dX11_highest_1 : decode cX11_highest 1 = .ok (.getfield 71, 3) := by decide +kernel
theorem dX11_highest_4 : decode cX11_highest 4 = .ok (.invokevirtual 252, 3) := by decide +kernel
theorem dX11_highest_7 : decode cX11_highest 7 = .ok (.ireturn, 1) := by decide +kernel
theorem dX11_fresh_0 : decode cX11_fresh 0 = .ok (.aload_n 0, 1) := by decide +kernel
theorem dX11_fresh_1 : decode cX11_fresh 1 = .ok (.getfield 71, 3) := by decide +kernel
theorem dX11_fresh_4 : decode cX11_fresh 4 = .ok (.invokevirtual 255, 3) := by decide +kernel
theorem dX11_fresh_7 : decode cX11_fresh 7 = .ok (.ireturn, 1) := by decide +kernel
theorem dX11_origins_0 : decode cX11_origins 0 = .ok (.aload_n 0, 1) := by decide +kernel
theorem dX11_origins_1 : decode cX11_origins 1 = .ok (.iload_n 1, 1) := by decide +kernel
theorem dX11_origins_2 : decode cX11_origins 2 = .ok (.invokevirtual 155, 3) := by decide +kernel
theorem dX11_origins_5 : decode cX11_origins 5 = .ok (.ifCond .eq 21, 3) := by decide +kernel
theorem dX11_origins_8 : decode cX11_origins 8 = .ok (.aload_n 0, 1) := by decide +kernel
theorem dX11_origins_9 : decode cX11_origins 9 = .ok (.getfield 78, 3) := by decide +kernel
theorem dX11_origins_12 : decode cX11_origins 12 = .ok (.aload_n 0, 1) := by decide +kernel
theorem dX11_origins_13 : decode cX11_origins 13 = .ok (.getfield 62, 3) := by decide +kernel
theorem dX11_origins_16 : decode cX11_origins 16 = .ok (.invokevirtual 158, 3) := by decide +kernel
theorem dX11_origins_19 : decode cX11_origins 19 = .ok (.iload_n 1, 1) := by decide +kernel
theorem dX11_origins_20 : decode cX11_origins 20 = .ok (.invokevirtual 258, 3) := by decide +kernel
theorem dX11_origins_23 : decode cX11_origins 23 = .ok (.goto 4, 3) := by decide +kernel
theorem dX11_origins_26 : decode cX11_origins 26 = .ok (.iconst (-1), 1) := by decide +kernel
theorem dX11_origins_27 : decode cX11_origins 27 = .ok (.ireturn, 1) := by decide +kernel
theorem dX11_read_0 : decode cX11_read 0 = .ok (.aload_n 0, 1) := by decide +kernel
theorem dX11_read_1 : decode cX11_read 1 = .ok (.iload_n 1, 1) := by decide +kernel
theorem dX11_read_2 : decode cX11_read 2 = .ok (.invokevirtual 155, 3) := by decide +kernel
theorem dX11_read_5 : decode cX11_read 5 = .ok (.ifCond .eq 21, 3) := by decide +kernel
theorem dX11_read_8 : decode cX11_read 8 = .ok (.aload_n 0, 1) := by decide +kernel
theorem dX11_read_9 : decode cX11_read 9 = .ok (.getfield 78, 3) := by decide +kernel
theorem dX11_read_12 : decode cX11_read 12 = .ok (.aload_n 0, 1) := by decide +kernel
theorem dX11_read_13 : decode cX11_read 13 = .ok (.getfield 62, 3) := by decide +kernel
theorem dX11_read_16 : decode cX11_read 16 = .ok (.invokevirtual 158, 3) := by decide +kernel
theorem dX11_read_19 : decode cX11_read 19 = .ok (.iload_n 1, 1) := by decide +kernel
theorem dX11_read_20 : decode cX11_read 20 = .ok (.invokevirtual 262, 3) := by decide +kernel
theorem dX11_read_23 : decode cX11_read 23 = .ok (.goto 4, 3) := by decide +kernel
theorem dX11_read_26 : decode cX11_read 26 = .ok (.iconst (-1), 1) := by decide +kernel
theorem dX11_read_27 : decode cX11_read 27 = .ok (.ireturn, 1) := by decide +kernel
theorem dX11_claim_0 : decode cX11_claim 0 = .ok (.aload_n 0, 1) := by decide +kernel
theorem dX11_claim_1 : decode cX11_claim 1 = .ok (.iload_n 1, 1) := by decide +kernel
theorem dX11_claim_2 : decode cX11_claim 2 = .ok (.invokevirtual 142, 3) := by decide +kernel
theorem dX11_claim_5 : decode cX11_claim 5 = .ok (.ifCond .eq 21, 3) := by decide +kernel
theorem dX11_claim_8 : decode cX11_claim 8 = .ok (.aload_n 0, 1) := by decide +kernel
theorem dX11_claim_9 : decode cX11_claim 9 = .ok (.getfield 78, 3) := by decide +kernel
theorem dX11_claim_12 : decode cX11_claim 12 = .ok (.aload_n 0, 1) := by decide +kernel
theorem dX11_claim_13 : decode cX11_claim 13 = .ok (.getfield 62, 3) := by decide +kernel
theorem dX11_claim_16 : decode cX11_claim 16 = .ok (.invokevirtual 158, 3) := by decide +kernel
theorem dX11_claim_19 : decode cX11_claim 19 = .ok (.iload_n 1, 1) := by decide +kernel
theorem dX11_claim_20 : decode cX11_claim 20 = .ok (.invokevirtual 265, 3) := by decide +kernel
theorem dX11_claim_23 : decode cX11_claim 23 = .ok (.goto 4, 3) := by decide +kernel
theorem dX11_claim_26 : decode cX11_claim 26 = .ok (.iconst (-1), 1) := by decide +kernel
theorem dX11_claim_27 : decode cX11_claim 27 = .ok (.ireturn, 1) := by decide +kernel
theorem dX11_safe_0 : decode cX11_safe 0 = .ok (.aload_n 0, 1) := by decide +kernel
theorem dX11_safe_1 : decode cX11_safe 1 = .ok (.getfield 71, 3) := by decide +kernel
theorem dX11_safe_4 : decode cX11_safe 4 = .ok (.invokevirtual 268, 3) := by decide +kernel
theorem dX11_safe_7 : decode cX11_safe 7 = .ok (.ireturn, 1) := by decide +kernel
theorem dX11_king_0 : decode cX11_king 0 = .ok (.aload_n 0, 1) := by decide +kernel
theorem dX11_king_1 : decode cX11_king 1 = .ok (.getfield 27, 3) := by decide +kernel
theorem dX11_king_4 : decode cX11_king 4 = .ok (.getfield 133, 3) := by decide +kernel
theorem dX11_king_7 : decode cX11_king 7 = .ok (.ifCond .eq 10, 3) := by decide +kernel
theorem dX11_king_10 : decode cX11_king 10 = .ok (.iload_n 1, 1) := by decide +kernel
theorem dX11_king_11 : decode cX11_king 11 = .ok (.invokestatic 271, 3) := by decide +kernel
theorem dX11_king_14 : decode cX11_king 14 = .ok (.ifCond .ne 5, 3) := by decide +kernel
theorem dX11_king_17 : decode cX11_king 17 = .ok (.iconst (-1), 1) := by decide +kernel
theorem dX11_king_18 : decode cX11_king 18 = .ok (.ireturn, 1) := by decide +kernel
theorem dX11_king_19 : decode cX11_king 19 = .ok (.aload_n 0, 1) := by decide +kernel
theorem dX11_king_20 : decode cX11_king 20 = .ok (.getfield 71, 3) := by decide +kernel
theorem dX11_king_23 : decode cX11_king 23 = .ok (.invokevirtual 274, 3) := by decide +kernel
theorem dX11_king_26 : decode cX11_king 26 = .ok (.istore_n 2, 1) := by decide +kernel
theorem dX11_king_27 : decode cX11_king 27 = .ok (.iload_n 1, 1) := by decide +kernel
theorem dX11_king_28 : decode cX11_king 28 = .ok (.ifCond .ne 7, 3) := by decide +kernel
theorem dX11_king_31 : decode cX11_king 31 = .ok (.iload_n 2, 1) := by decide +kernel
theorem dX11_king_32 : decode cX11_king 32 = .ok (.goto 11, 3) := by decide +kernel
theorem dX11_king_35 : decode cX11_king 35 = .ok (.aload_n 0, 1) := by decide +kernel
theorem dX11_king_36 : decode cX11_king 36 = .ok (.getfield 71, 3) := by decide +kernel
theorem dX11_king_39 : decode cX11_king 39 = .ok (.iload_n 2, 1) := by decide +kernel
theorem dX11_king_40 : decode cX11_king 40 = .ok (.invokevirtual 277, 3) := by decide +kernel
theorem dX11_king_43 : decode cX11_king 43 = .ok (.ireturn, 1) := by decide +kernel
theorem dX11_tempt_0 : decode cX11_tempt 0 = .ok (.aload_n 0, 1) := by decide +kernel
theorem dX11_tempt_1 : decode cX11_tempt 1 = .ok (.iload_n 1, 1) := by decide +kernel
theorem dX11_tempt_2 : decode cX11_tempt 2 = .ok (.invokevirtual 155, 3) := by decide +kernel
theorem dX11_tempt_5 : decode cX11_tempt 5 = .ok (.ifCond .eq 10, 3) := by decide +kernel
theorem dX11_tempt_8 : decode cX11_tempt 8 = .ok (.iload_n 2, 1) := by decide +kernel
theorem dX11_tempt_9 : decode cX11_tempt 9 = .ok (.invokestatic 271, 3) := by decide +kernel
theorem dX11_tempt_12 : decode cX11_tempt 12 = .ok (.ifCond .ne 5, 3) := by decide +kernel
theorem dX11_tempt_15 : decode cX11_tempt 15 = .ok (.iconst (-1), 1) := by decide +kernel
theorem dX11_tempt_16 : decode cX11_tempt 16 = .ok (.ireturn, 1) := by decide +kernel
theorem dX11_tempt_17 : decode cX11_tempt 17 = .ok (.aload_n 0, 1) := by decide +kernel
theorem dX11_tempt_18 : decode cX11_tempt 18 = .ok (.getfield 78, 3) := by decide +kernel
theorem dX11_tempt_21 : decode cX11_tempt 21 = .ok (.aload_n 0, 1) := by decide +kernel
theorem dX11_tempt_22 : decode cX11_tempt 22 = .ok (.getfield 62, 3) := by decide +kernel
theorem dX11_tempt_25 : decode cX11_tempt 25 = .ok (.invokevirtual 158, 3) := by decide +kernel
theorem dX11_tempt_28 : decode cX11_tempt 28 = .ok (.iload_n 1, 1) := by decide +kernel
theorem dX11_tempt_29 : decode cX11_tempt 29 = .ok (.invokevirtual 280, 3) := by decide +kernel
theorem dX11_tempt_32 : decode cX11_tempt 32 = .ok (.istore_n 3, 1) := by decide +kernel
theorem dX11_tempt_33 : decode cX11_tempt 33 = .ok (.iload_n 3, 1) := by decide +kernel
theorem dX11_tempt_34 : decode cX11_tempt 34 = .ok (.iconst (-1), 1) := by decide +kernel
theorem dX11_tempt_35 : decode cX11_tempt 35 = .ok (.if_icmp .eq 7, 3) := by decide +kernel
theorem dX11_tempt_38 : decode cX11_tempt 38 = .ok (.iload_n 2, 1) := by decide +kernel
theorem dX11_tempt_39 : decode cX11_tempt 39 = .ok (.ifCond .ne 5, 3) := by decide +kernel
theorem dX11_tempt_42 : decode cX11_tempt 42 = .ok (.iload_n 3, 1) := by decide +kernel
theorem dX11_tempt_43 : decode cX11_tempt 43 = .ok (.ireturn, 1) := by decide +kernel
theorem dX11_tempt_44 : decode cX11_tempt 44 = .ok (.aload_n 0, 1) := by decide +kernel
theorem dX11_tempt_45 : decode cX11_tempt 45 = .ok (.getfield 55, 3) := by decide +kernel
theorem dX11_tempt_48 : decode cX11_tempt 48 = .ok (.aload_n 0, 1) := by decide +kernel
theorem dX11_tempt_49 : decode cX11_tempt 49 = .ok (.getfield 62, 3) := by decide +kernel
theorem dX11_tempt_52 : decode cX11_tempt 52 = .ok (.invokevirtual 158, 3) := by decide +kernel
theorem dX11_tempt_55 : decode cX11_tempt 55 = .ok (.getfield 162, 3) := by decide +kernel
theorem dX11_tempt_58 : decode cX11_tempt 58 = .ok (.iload_n 1, 1) := by decide +kernel
theorem dX11_tempt_59 : decode cX11_tempt 59 = .ok (.iaload, 1) := by decide +kernel
theorem dX11_tempt_60 : decode cX11_tempt 60 = .ok (.aload_n 0, 1) := by decide +kernel
theorem dX11_tempt_61 : decode cX11_tempt 61 = .ok (.iload_n 3, 1) := by decide +kernel
theorem dX11_tempt_62 : decode cX11_tempt 62 = .ok (.invokevirtual 225, 3) := by decide +kernel
theorem dX11_tempt_65 : decode cX11_tempt 65 = .ok (.invokevirtual 238, 3) := by decide +kernel
theorem dX11_tempt_68 : decode cX11_tempt 68 = .ok (.ireturn, 1) := by decide +kernel
theorem dX11_useful_0 : decode cX11_useful 0 = .ok (.aload_n 0, 1) := by decide +kernel
theorem dX11_useful_1 : decode cX11_useful 1 = .ok (.getfield 71, 3) := by decide +kernel
theorem dX11_useful_4 : decode cX11_useful 4 = .ok (.invokevirtual 283, 3) := by decide +kernel
theorem dX11_useful_7 : decode cX11_useful 7 = .ok (.ireturn, 1) := by decide +kernel
theorem dX11_nearest_0 : decode cX11_nearest 0 = .ok (.aload_n 0, 1) := by decide +kernel
theorem dX11_nearest_1 : decode cX11_nearest 1 = .ok (.getfield 27, 3) := by decide +kernel
theorem dX11_nearest_4 : decode cX11_nearest 4 = .ok (.getfield 133, 3) := by decide +kernel
theorem dX11_nearest_7 : decode cX11_nearest 7 = .ok (.ifCond .eq 17, 3) := by decide +kernel
theorem dX11_nearest_10 : decode cX11_nearest 10 = .ok (.iload_n 1, 1) := by decide +kernel
theorem dX11_nearest_11 : decode cX11_nearest 11 = .ok (.invokestatic 193, 3) := by decide +kernel
theorem dX11_nearest_14 : decode cX11_nearest 14 = .ok (.ifCond .eq 10, 3) := by decide +kernel
theorem dX11_nearest_17 : decode cX11_nearest 17 = .ok (.iload_n 2, 1) := by decide +kernel
theorem dX11_nearest_18 : decode cX11_nearest 18 = .ok (.invokestatic 271, 3) := by decide +kernel
theorem dX11_nearest_21 : decode cX11_nearest 21 = .ok (.ifCond .ne 5, 3) := by decide +kernel
theorem dX11_nearest_24 : decode cX11_nearest 24 = .ok (.iconst (-1), 1) := by decide +kernel
theorem dX11_nearest_25 : decode cX11_nearest 25 = .ok (.ireturn, 1) := by decide +kernel
theorem dX11_nearest_26 : decode cX11_nearest 26 = .ok (.aload_n 0, 1) := by decide +kernel
theorem dX11_nearest_27 : decode cX11_nearest 27 = .ok (.getfield 71, 3) := by decide +kernel
theorem dX11_nearest_30 : decode cX11_nearest 30 = .ok (.iload_n 1, 1) := by decide +kernel
theorem dX11_nearest_31 : decode cX11_nearest 31 = .ok (.invokevirtual 286, 3) := by decide +kernel
theorem dX11_nearest_34 : decode cX11_nearest 34 = .ok (.istore_n 3, 1) := by decide +kernel
theorem dX11_nearest_35 : decode cX11_nearest 35 = .ok (.iload_n 2, 1) := by decide +kernel
theorem dX11_nearest_36 : decode cX11_nearest 36 = .ok (.ifCond .ne 7, 3) := by decide +kernel
theorem dX11_nearest_39 : decode cX11_nearest 39 = .ok (.iload_n 3, 1) := by decide +kernel
theorem dX11_nearest_40 : decode cX11_nearest 40 = .ok (.goto 16, 3) := by decide +kernel
theorem dX11_nearest_43 : decode cX11_nearest 43 = .ok (.aload_n 0, 1) := by decide +kernel
theorem dX11_nearest_44 : decode cX11_nearest 44 = .ok (.getfield 46, 3) := by decide +kernel
theorem dX11_nearest_47 : decode cX11_nearest 47 = .ok (.aload_n 0, 1) := by decide +kernel
theorem dX11_nearest_48 : decode cX11_nearest 48 = .ok (.iload_n 3, 1) := by decide +kernel
theorem dX11_nearest_49 : decode cX11_nearest 49 = .ok (.invokevirtual 225, 3) := by decide +kernel
theorem dX11_nearest_52 : decode cX11_nearest 52 = .ok (.iload_n 1, 1) := by decide +kernel
theorem dX11_nearest_53 : decode cX11_nearest 53 = .ok (.invokevirtual 289, 3) := by decide +kernel
theorem dX11_nearest_56 : decode cX11_nearest 56 = .ok (.ireturn, 1) := by decide +kernel
theorem dX11_shared_0 : decode cX11_shared 0 = .ok (.aload_n 0, 1) := by decide +kernel
theorem dX11_shared_1 : decode cX11_shared 1 = .ok (.iload_n 1, 1) := by decide +kernel
theorem dX11_shared_2 : decode cX11_shared 2 = .ok (.invokevirtual 142, 3) := by decide +kernel
theorem dX11_shared_5 : decode cX11_shared 5 = .ok (.ifCond .eq 11, 3) := by decide +kernel
theorem dX11_shared_8 : decode cX11_shared 8 = .ok (.aload_n 0, 1) := by decide +kernel
theorem dX11_shared_9 : decode cX11_shared 9 = .ok (.iload_n 2, 1) := by decide +kernel
theorem dX11_shared_10 : decode cX11_shared 10 = .ok (.invokevirtual 142, 3) := by decide +kernel
theorem dX11_shared_13 : decode cX11_shared 13 = .ok (.ifCond .ne 5, 3) := by decide +kernel
theorem dX11_shared_16 : decode cX11_shared 16 = .ok (.iconst (-1), 1) := by decide +kernel
theorem dX11_shared_17 : decode cX11_shared 17 = .ok (.ireturn, 1) := by decide +kernel
theorem dX11_shared_18 : decode cX11_shared 18 = .ok (.aload_n 0, 1) := by decide +kernel
theorem dX11_shared_19 : decode cX11_shared 19 = .ok (.getfield 46, 3) := by decide +kernel
theorem dX11_shared_22 : decode cX11_shared 22 = .ok (.aload_n 0, 1) := by decide +kernel
theorem dX11_shared_23 : decode cX11_shared 23 = .ok (.getfield 27, 3) := by decide +kernel
theorem dX11_shared_26 : decode cX11_shared 26 = .ok (.getfield 146, 3) := by decide +kernel
theorem dX11_shared_29 : decode cX11_shared 29 = .ok (.iload_n 1, 1) := by decide +kernel
theorem dX11_shared_30 : decode cX11_shared 30 = .ok (.iaload, 1) := by decide +kernel
theorem dX11_shared_31 : decode cX11_shared 31 = .ok (.aload_n 0, 1) := by decide +kernel
theorem dX11_shared_32 : decode cX11_shared 32 = .ok (.getfield 27, 3) := by decide +kernel
theorem dX11_shared_35 : decode cX11_shared 35 = .ok (.getfield 146, 3) := by decide +kernel
theorem dX11_shared_38 : decode cX11_shared 38 = .ok (.iload_n 2, 1) := by decide +kernel
theorem dX11_shared_39 : decode cX11_shared 39 = .ok (.iaload, 1) := by decide +kernel
theorem dX11_shared_40 : decode cX11_shared 40 = .ok (.invokevirtual 292, 3) := by decide +kernel
theorem dX11_shared_43 : decode cX11_shared 43 = .ok (.ireturn, 1) := by decide +kernel
theorem dX11_fades_0 : decode cX11_fades 0 = .ok (.aload_n 0, 1) := by decide +kernel
theorem dX11_fades_1 : decode cX11_fades 1 = .ok (.iload_n 1, 1) := by decide +kernel
theorem dX11_fades_2 : decode cX11_fades 2 = .ok (.invokevirtual 155, 3) := by decide +kernel
theorem dX11_fades_5 : decode cX11_fades 5 = .ok (.ifCond .eq 21, 3) := by decide +kernel
theorem dX11_fades_8 : decode cX11_fades 8 = .ok (.aload_n 0, 1) := by decide +kernel
theorem dX11_fades_9 : decode cX11_fades 9 = .ok (.getfield 78, 3) := by decide +kernel
theorem dX11_fades_12 : decode cX11_fades 12 = .ok (.aload_n 0, 1) := by decide +kernel
theorem dX11_fades_13 : decode cX11_fades 13 = .ok (.getfield 62, 3) := by decide +kernel
theorem dX11_fades_16 : decode cX11_fades 16 = .ok (.invokevirtual 158, 3) := by decide +kernel
theorem dX11_fades_19 : decode cX11_fades 19 = .ok (.iload_n 1, 1) := by decide +kernel
theorem dX11_fades_20 : decode cX11_fades 20 = .ok (.invokevirtual 295, 3) := by decide +kernel
theorem dX11_fades_23 : decode cX11_fades 23 = .ok (.goto 4, 3) := by decide +kernel
theorem dX11_fades_26 : decode cX11_fades 26 = .ok (.iconst (-1), 1) := by decide +kernel
theorem dX11_fades_27 : decode cX11_fades 27 = .ok (.ireturn, 1) := by decide +kernel
theorem dX11_twins_0 : decode cX11_twins 0 = .ok (.aload_n 0, 1) := by decide +kernel
theorem dX11_twins_1 : decode cX11_twins 1 = .ok (.getfield 71, 3) := by decide +kernel
theorem dX11_twins_4 : decode cX11_twins 4 = .ok (.invokevirtual 298, 3) := by decide +kernel
theorem dX11_twins_7 : decode cX11_twins 7 = .ok (.ireturn, 1) := by decide +kernel
theorem dX11_untouched_0 : decode cX11_untouched 0 = .ok (.aload_n 0, 1) := by decide +kernel
theorem dX11_untouched_1 : decode cX11_untouched 1 = .ok (.getfield 78, 3) := by decide +kernel
theorem dX11_untouched_4 : decode cX11_untouched 4 = .ok (.aload_n 0, 1) := by decide +kernel
theorem dX11_untouched_5 : decode cX11_untouched 5 = .ok (.getfield 62, 3) := by decide +kernel
theorem dX11_untouched_8 : decode cX11_untouched 8 = .ok (.invokevirtual 158, 3) := by decide +kernel
theorem dX11_untouched_11 : decode cX11_untouched 11 = .ok (.invokevirtual 301, 3) := by decide +kernel
theorem dX11_untouched_14 : decode cX11_untouched 14 = .ok (.ireturn, 1) := by decide +kernel
theorem dX11_tells_0 : decode cX11_tells 0 = .ok (.aload_n 0, 1) := by decide +kernel
theorem dX11_tells_1 : decode cX11_tells 1 = .ok (.getfield 78, 3) := by decide +kernel
theorem dX11_tells_4 : decode cX11_tells 4 = .ok (.aload_n 0, 1) := by decide +kernel
theorem dX11_tells_5 : decode cX11_tells 5 = .ok (.getfield 62, 3) := by decide +kernel
theorem dX11_tells_8 : decode cX11_tells 8 = .ok (.invokevirtual 158, 3) := by decide +kernel
theorem dX11_tells_11 : decode cX11_tells 11 = .ok (.invokevirtual 305, 3) := by decide +kernel
theorem dX11_tells_14 : decode cX11_tells 14 = .ok (.ireturn, 1) := by decide +kernel
theorem dX11_raid_0 : decode cX11_raid 0 = .ok (.aload_n 0, 1) := by decide +kernel
theorem dX11_raid_1 : decode cX11_raid 1 = .ok (.iconst 0, 1) := by decide +kernel
theorem dX11_raid_2 : decode cX11_raid 2 = .ok (.putfield 13, 3) := by decide +kernel
theorem dX11_raid_5 : decode cX11_raid 5 = .ok (.aload_n 0, 1) := by decide +kernel
theorem dX11_raid_6 : decode cX11_raid 6 = .ok (.iload_n 1, 1) := by decide +kernel
theorem dX11_raid_7 : decode cX11_raid 7 = .ok (.invokevirtual 142, 3) := by decide +kernel
theorem dX11_raid_10 : decode cX11_raid 10 = .ok (.ifCond .eq 26, 3) := by decide +kernel
theorem dX11_raid_13 : decode cX11_raid 13 = .ok (.aload_n 0, 1) := by decide +kernel
theorem dX11_raid_14 : decode cX11_raid 14 = .ok (.iload_n 2, 1) := by decide +kernel
theorem dX11_raid_15 : decode cX11_raid 15 = .ok (.invokevirtual 142, 3) := by decide +kernel
theorem dX11_raid_18 : decode cX11_raid 18 = .ok (.ifCond .eq 18, 3) := by decide +kernel
theorem dX11_raid_21 : decode cX11_raid 21 = .ok (.iload_n 1, 1) := by decide +kernel
theorem dX11_raid_22 : decode cX11_raid 22 = .ok (.iload_n 2, 1) := by decide +kernel
theorem dX11_raid_23 : decode cX11_raid 23 = .ok (.if_icmp .eq 13, 3) := by decide +kernel
theorem dX11_raid_26 : decode cX11_raid 26 = .ok (.aload_n 0, 1) := by decide +kernel
theorem dX11_raid_27 : decode cX11_raid 27 = .ok (.getfield 27, 3) := by decide +kernel
theorem dX11_raid_30 : decode cX11_raid 30 = .ok (.getfield 308, 3) := by decide +kernel
theorem dX11_raid_33 : decode cX11_raid 33 = .ok (.ifCond .ne 5, 3) := by decide +kernel
theorem dX11_raid_36 : decode cX11_raid 36 = .ok (.iconst (-1), 1) := by decide +kernel
theorem dX11_raid_37 : decode cX11_raid 37 = .ok (.ireturn, 1) := by decide +kernel
theorem dX11_raid_38 : decode cX11_raid 38 = .ok (.aload_n 0, 1) := by decide +kernel
theorem dX11_raid_39 : decode cX11_raid 39 = .ok (.getfield 78, 3) := by decide +kernel
theorem dX11_raid_42 : decode cX11_raid 42 = .ok (.aload_n 0, 1) := by decide +kernel
theorem dX11_raid_43 : decode cX11_raid 43 = .ok (.getfield 62, 3) := by decide +kernel
theorem dX11_raid_46 : decode cX11_raid 46 = .ok (.invokevirtual 158, 3) := by decide +kernel
theorem dX11_raid_49 : decode cX11_raid 49 = .ok (.iload_n 1, 1) := by decide +kernel
theorem dX11_raid_50 : decode cX11_raid 50 = .ok (.iload_n 2, 1) := by decide +kernel
theorem dX11_raid_51 : decode cX11_raid 51 = .ok (.aload_n 0, 1) := by decide +kernel
theorem dX11_raid_52 : decode cX11_raid 52 = .ok (.getfield 9, 3) := by decide +kernel
theorem dX11_raid_55 : decode cX11_raid 55 = .ok (.invokevirtual 310, 3) := by decide +kernel
theorem dX11_raid_58 : decode cX11_raid 58 = .ok (.istore_n 3, 1) := by decide +kernel
theorem dX11_raid_59 : decode cX11_raid 59 = .ok (.aload_n 0, 1) := by decide +kernel
theorem dX11_raid_60 : decode cX11_raid 60 = .ok (.iload_n 3, 1) := by decide +kernel
theorem dX11_raid_61 : decode cX11_raid 61 = .ok (.ifCond .le 7, 3) := by decide +kernel
theorem dX11_raid_64 : decode cX11_raid 64 = .ok (.iconst 2, 1) := by decide +kernel
theorem dX11_raid_65 : decode cX11_raid 65 = .ok (.goto 4, 3) := by decide +kernel
theorem dX11_raid_68 : decode cX11_raid 68 = .ok (.iconst 0, 1) := by decide +kernel
theorem dX11_raid_69 : decode cX11_raid 69 = .ok (.putfield 13, 3) := by decide +kernel
theorem dX11_raid_72 : decode cX11_raid 72 = .ok (.iload_n 3, 1) := by decide +kernel
theorem dX11_raid_73 : decode cX11_raid 73 = .ok (.ireturn, 1) := by decide +kernel
theorem dX11_closed_0 : decode cX11_closed 0 = .ok (.aload_n 0, 1) := by decide +kernel
theorem dX11_closed_1 : decode cX11_closed 1 = .ok (.getfield 71, 3) := by decide +kernel
theorem dX11_closed_4 : decode cX11_closed 4 = .ok (.invokevirtual 314, 3) := by decide +kernel
theorem dX11_closed_7 : decode cX11_closed 7 = .ok (.ifCond .eq 7, 3) := by decide +kernel
theorem dX11_closed_10 : decode cX11_closed 10 = .ok (.iconst 1, 1) := by decide +kernel
theorem dX11_closed_11 : decode cX11_closed 11 = .ok (.goto 4, 3) := by decide +kernel
theorem dX11_closed_14 : decode cX11_closed 14 = .ok (.iconst 0, 1) := by decide +kernel
theorem dX11_closed_15 : decode cX11_closed 15 = .ok (.ireturn, 1) := by decide +kernel
theorem dX11_faces_0 : decode cX11_faces 0 = .ok (.iload_n 1, 1) := by decide +kernel
theorem dX11_faces_1 : decode cX11_faces 1 = .ok (.invokestatic 193, 3) := by decide +kernel
theorem dX11_faces_4 : decode cX11_faces 4 = .ok (.ifCond .eq 14, 3) := by decide +kernel
theorem dX11_faces_7 : decode cX11_faces 7 = .ok (.aload_n 0, 1) := by decide +kernel
theorem dX11_faces_8 : decode cX11_faces 8 = .ok (.getfield 46, 3) := by decide +kernel
theorem dX11_faces_11 : decode cX11_faces 11 = .ok (.iload_n 1, 1) := by decide +kernel
theorem dX11_faces_12 : decode cX11_faces 12 = .ok (.invokevirtual 317, 3) := by decide +kernel
theorem dX11_faces_15 : decode cX11_faces 15 = .ok (.goto 4, 3) := by decide +kernel
theorem dX11_faces_18 : decode cX11_faces 18 = .ok (.iconst (-1), 1) := by decide +kernel
theorem dX11_faces_19 : decode cX11_faces 19 = .ok (.ireturn, 1) := by decide +kernel
theorem dX11_norm_0 : decode cX11_norm 0 = .ok (.iload_n 1, 1) := by decide +kernel
theorem dX11_norm_1 : decode cX11_norm 1 = .ok (.invokestatic 193, 3) := by decide +kernel
theorem dX11_norm_4 : decode cX11_norm 4 = .ok (.ifCond .eq 14, 3) := by decide +kernel
theorem dX11_norm_7 : decode cX11_norm 7 = .ok (.aload_n 0, 1) := by decide +kernel
theorem dX11_norm_8 : decode cX11_norm 8 = .ok (.getfield 46, 3) := by decide +kernel
theorem dX11_norm_11 : decode cX11_norm 11 = .ok (.iload_n 1, 1) := by decide +kernel
theorem dX11_norm_12 : decode cX11_norm 12 = .ok (.invokevirtual 320, 3) := by decide +kernel
theorem dX11_norm_15 : decode cX11_norm 15 = .ok (.goto 4, 3) := by decide +kernel
theorem dX11_norm_18 : decode cX11_norm 18 = .ok (.iconst (-1), 1) := by decide +kernel
theorem dX11_norm_19 : decode cX11_norm 19 = .ok (.ireturn, 1) := by decide +kernel
theorem dX11_strays_0 : decode cX11_strays 0 = .ok (.aload_n 0, 1) := by decide +kernel
theorem dX11_strays_1 : decode cX11_strays 1 = .ok (.getfield 78, 3) := by decide +kernel
theorem dX11_strays_4 : decode cX11_strays 4 = .ok (.aload_n 0, 1) := by decide +kernel
theorem dX11_strays_5 : decode cX11_strays 5 = .ok (.getfield 62, 3) := by decide +kernel
theorem dX11_strays_8 : decode cX11_strays 8 = .ok (.invokevirtual 158, 3) := by decide +kernel
theorem dX11_strays_11 : decode cX11_strays 11 = .ok (.invokevirtual 323, 3) := by decide +kernel
theorem dX11_strays_14 : decode cX11_strays 14 = .ok (.ireturn, 1) := by decide +kernel
theorem dX11_oldest_0 : decode cX11_oldest 0 = .ok (.aload_n 0, 1) := by decide +kernel
theorem dX11_oldest_1 : decode cX11_oldest 1 = .ok (.iload_n 1, 1) := by decide +kernel
theorem dX11_oldest_2 : decode cX11_oldest 2 = .ok (.invokevirtual 155, 3) := by decide +kernel
theorem dX11_oldest_5 : decode cX11_oldest 5 = .ok (.ifCond .eq 17, 3) := by decide +kernel
theorem dX11_oldest_8 : decode cX11_oldest 8 = .ok (.aload_n 0, 1) := by decide +kernel
theorem dX11_oldest_9 : decode cX11_oldest 9 = .ok (.getfield 62, 3) := by decide +kernel
theorem dX11_oldest_12 : decode cX11_oldest 12 = .ok (.invokevirtual 158, 3) := by decide +kernel
theorem dX11_oldest_15 : decode cX11_oldest 15 = .ok (.iload_n 1, 1) := by decide +kernel
theorem dX11_oldest_16 : decode cX11_oldest 16 = .ok (.invokevirtual 326, 3) := by decide +kernel
theorem dX11_oldest_19 : decode cX11_oldest 19 = .ok (.goto 4, 3) := by decide +kernel
theorem dX11_oldest_22 : decode cX11_oldest 22 = .ok (.iconst (-1), 1) := by decide +kernel
theorem dX11_oldest_23 : decode cX11_oldest 23 = .ok (.ireturn, 1) := by decide +kernel
theorem dX11_will_0 : decode cX11_will 0 = .ok (.iload_n 1, 1) := by decide +kernel
theorem dX11_will_1 : decode cX11_will 1 = .ok (.ifCond .lt 27, 3) := by decide +kernel
theorem dX11_will_4 : decode cX11_will 4 = .ok (.iload_n 1, 1) := by decide +kernel
theorem dX11_will_5 : decode cX11_will 5 = .ok (.bipush 60, 2) := by decide +kernel
theorem dX11_will_7 : decode cX11_will 7 = .ok (.if_icmp .gt 21, 3) := by decide +kernel
theorem dX11_will_10 : decode cX11_will 10 = .ok (.aload_n 0, 1) := by decide +kernel
theorem dX11_will_11 : decode cX11_will 11 = .ok (.getfield 78, 3) := by decide +kernel
theorem dX11_will_14 : decode cX11_will 14 = .ok (.aload_n 0, 1) := by decide +kernel
theorem dX11_will_15 : decode cX11_will 15 = .ok (.getfield 62, 3) := by decide +kernel
theorem dX11_will_18 : decode cX11_will 18 = .ok (.invokevirtual 158, 3) := by decide +kernel
theorem dX11_will_21 : decode cX11_will 21 = .ok (.iload_n 1, 1) := by decide +kernel
theorem dX11_will_22 : decode cX11_will 22 = .ok (.invokevirtual 329, 3) := by decide +kernel
theorem dX11_will_25 : decode cX11_will 25 = .ok (.goto 4, 3) := by decide +kernel
theorem dX11_will_28 : decode cX11_will 28 = .ok (.iconst (-1), 1) := by decide +kernel
theorem dX11_will_29 : decode cX11_will 29 = .ok (.ireturn, 1) := by decide +kernel
theorem dX11_law_0 : decode cX11_law 0 = .ok (.iload_n 1, 1) := by decide +kernel
theorem dX11_law_1 : decode cX11_law 1 = .ok (.ifCond .lt 27, 3) := by decide +kernel
theorem dX11_law_4 : decode cX11_law 4 = .ok (.iload_n 1, 1) := by decide +kernel
theorem dX11_law_5 : decode cX11_law 5 = .ok (.bipush 99, 2) := by decide +kernel
theorem dX11_law_7 : decode cX11_law 7 = .ok (.if_icmp .gt 21, 3) := by decide +kernel
theorem dX11_law_10 : decode cX11_law 10 = .ok (.aload_n 0, 1) := by decide +kernel
theorem dX11_law_11 : decode cX11_law 11 = .ok (.getfield 78, 3) := by decide +kernel
theorem dX11_law_14 : decode cX11_law 14 = .ok (.aload_n 0, 1) := by decide +kernel
theorem dX11_law_15 : decode cX11_law 15 = .ok (.getfield 62, 3) := by decide +kernel
theorem dX11_law_18 : decode cX11_law 18 = .ok (.invokevirtual 158, 3) := by decide +kernel
theorem dX11_law_21 : decode cX11_law 21 = .ok (.iload_n 1, 1) := by decide +kernel
theorem dX11_law_22 : decode cX11_law 22 = .ok (.invokevirtual 332, 3) := by decide +kernel
theorem dX11_law_25 : decode cX11_law 25 = .ok (.goto 4, 3) := by decide +kernel
theorem dX11_law_28 : decode cX11_law 28 = .ok (.iconst (-1), 1) := by decide +kernel
theorem dX11_law_29 : decode cX11_law 29 = .ok (.ireturn, 1) := by decide +kernel
theorem dX11_odds_0 : decode cX11_odds 0 = .ok (.iload_n 1, 1) := by decide +kernel
theorem dX11_odds_1 : decode cX11_odds 1 = .ok (.ifCond .lt 15, 3) := by decide +kernel
theorem dX11_odds_4 : decode cX11_odds 4 = .ok (.iload_n 1, 1) := by decide +kernel
theorem dX11_odds_5 : decode cX11_odds 5 = .ok (.iconst 4, 1) := by decide +kernel
theorem dX11_odds_6 : decode cX11_odds 6 = .ok (.if_icmp .gt 10, 3) := by decide +kernel
theorem dX11_odds_9 : decode cX11_odds 9 = .ok (.iload_n 2, 1) := by decide +kernel
theorem dX11_odds_10 : decode cX11_odds 10 = .ok (.invokestatic 271, 3) := by decide +kernel
theorem dX11_odds_13 : decode cX11_odds 13 = .ok (.ifCond .ne 5, 3) := by decide +kernel
theorem dX11_odds_16 : decode cX11_odds 16 = .ok (.iconst (-1), 1) := by decide +kernel
theorem dX11_odds_17 : decode cX11_odds 17 = .ok (.ireturn, 1) := by decide +kernel
theorem dX11_odds_18 : decode cX11_odds 18 = .ok (.bipush 100, 2) := by decide +kernel
theorem dX11_odds_20 : decode cX11_odds 20 = .ok (.aload_n 0, 1) := by decide +kernel
theorem dX11_odds_21 : decode cX11_odds 21 = .ok (.getfield 27, 3) := by decide +kernel
theorem dX11_odds_24 : decode cX11_odds 24 = .ok (.getfield 335, 3) := by decide +kernel
theorem dX11_odds_27 : decode cX11_odds 27 = .ok (.isub, 1) := by decide +kernel
theorem dX11_odds_28 : decode cX11_odds 28 = .ok (.istore_n 3, 1) := by decide +kernel
theorem dX11_odds_29 : decode cX11_odds 29 = .ok (.iload_n 2, 1) := by decide +kernel
theorem dX11_odds_30 : decode cX11_odds 30 = .ok (.ifCond .ne 7, 3) := by decide +kernel
theorem dX11_odds_33 : decode cX11_odds 33 = .ok (.iload_n 3, 1) := by decide +kernel
theorem dX11_odds_34 : decode cX11_odds 34 = .ok (.goto 5, 3) := by decide +kernel
theorem dX11_odds_37 : decode cX11_odds 37 = .ok (.bipush 100, 2) := by decide +kernel
theorem dX11_odds_39 : decode cX11_odds 39 = .ok (.iload_n 3, 1) := by decide +kernel
theorem dX11_odds_40 : decode cX11_odds 40 = .ok (.invokestatic 338, 3) := by decide +kernel
theorem dX11_odds_43 : decode cX11_odds 43 = .ok (.istore 4, 2) := by decide +kernel
theorem dX11_odds_45 : decode cX11_odds 45 = .ok (.iconst 1, 1) := by decide +kernel
theorem dX11_odds_46 : decode cX11_odds 46 = .ok (.istore 5, 2) := by decide +kernel
theorem dX11_odds_48 : decode cX11_odds 48 = .ok (.iconst 0, 1) := by decide +kernel
theorem dX11_odds_49 : decode cX11_odds 49 = .ok (.istore 6, 2) := by decide +kernel
theorem dX11_odds_51 : decode cX11_odds 51 = .ok (.iload 6, 2) := by decide +kernel
theorem dX11_odds_53 : decode cX11_odds 53 = .ok (.iload_n 1, 1) := by decide +kernel
theorem dX11_odds_54 : decode cX11_odds 54 = .ok (.if_icmp .ge 16, 3) := by decide +kernel
theorem dX11_odds_57 : decode cX11_odds 57 = .ok (.iload 5, 2) := by decide +kernel
theorem dX11_odds_59 : decode cX11_odds 59 = .ok (.iload 4, 2) := by decide +kernel
theorem dX11_odds_61 : decode cX11_odds 61 = .ok (.imul, 1) := by decide +kernel
theorem dX11_odds_62 : decode cX11_odds 62 = .ok (.istore 5, 2) := by decide +kernel
theorem dX11_odds_64 : decode cX11_odds 64 = .ok (.iinc 6 1, 3) := by decide +kernel
theorem dX11_odds_67 : decode cX11_odds 67 = .ok (.goto (-16), 3) := by decide +kernel
theorem dX11_odds_70 : decode cX11_odds 70 = .ok (.iload 5, 2) := by decide +kernel
theorem dX11_odds_72 : decode cX11_odds 72 = .ok (.ireturn, 1) := by decide +kernel
theorem dX11_lies_0 : decode cX11_lies 0 = .ok (.iload_n 1, 1) := by decide +kernel
theorem dX11_lies_1 : decode cX11_lies 1 = .ok (.ifCond .lt 20, 3) := by decide +kernel
theorem dX11_lies_4 : decode cX11_lies 4 = .ok (.iload_n 1, 1) := by decide +kernel
theorem dX11_lies_5 : decode cX11_lies 5 = .ok (.aload_n 0, 1) := by decide +kernel
theorem dX11_lies_6 : decode cX11_lies 6 = .ok (.getfield 13, 3) := by decide +kernel
theorem dX11_lies_9 : decode cX11_lies 9 = .ok (.if_icmp .ge 12, 3) := by decide +kernel
theorem dX11_lies_12 : decode cX11_lies 12 = .ok (.aload_n 0, 1) := by decide +kernel
theorem dX11_lies_13 : decode cX11_lies 13 = .ok (.getfield 9, 3) := by decide +kernel
theorem dX11_lies_16 : decode cX11_lies 16 = .ok (.iload_n 1, 1) := by decide +kernel
theorem dX11_lies_17 : decode cX11_lies 17 = .ok (.iaload, 1) := by decide +kernel
theorem dX11_lies_18 : decode cX11_lies 18 = .ok (.goto 4, 3) := by decide +kernel
theorem dX11_lies_21 : decode cX11_lies 21 = .ok (.iconst (-1), 1) := by decide +kernel
theorem dX11_lies_22 : decode cX11_lies 22 = .ok (.ireturn, 1) := by decide +kernel
theorem dX11_seen_0 : decode cX11_seen 0 = .ok (.iload_n 1, 1) := by decide +kernel
theorem dX11_seen_1 : decode cX11_seen 1 = .ok (.invokestatic 341, 3) := by decide +kernel
theorem dX11_seen_4 : decode cX11_seen 4 = .ok (.ifCond .eq 20, 3) := by decide +kernel
theorem dX11_seen_7 : decode cX11_seen 7 = .ok (.iload_n 2, 1) := by decide +kernel
theorem dX11_seen_8 : decode cX11_seen 8 = .ok (.invokestatic 186, 3) := by decide +kernel
theorem dX11_seen_11 : decode cX11_seen 11 = .ok (.ifCond .eq 13, 3) := by decide +kernel
theorem dX11_seen_14 : decode cX11_seen 14 = .ok (.aload_n 0, 1) := by decide +kernel
theorem dX11_seen_15 : decode cX11_seen 15 = .ok (.getfield 27, 3) := by decide +kernel
theorem dX11_seen_18 : decode cX11_seen 18 = .ok (.getfield 308, 3) := by decide +kernel
theorem dX11_seen_21 : decode cX11_seen 21 = .ok (.ifCond .ne 5, 3) := by decide +kernel
theorem dX11_seen_24 : decode cX11_seen 24 = .ok (.iconst (-1), 1) := by decide +kernel
theorem dX11_seen_25 : decode cX11_seen 25 = .ok (.ireturn, 1) := by decide +kernel
theorem dX11_seen_26 : decode cX11_seen 26 = .ok (.aload_n 0, 1) := by decide +kernel
theorem dX11_seen_27 : decode cX11_seen 27 = .ok (.getfield 87, 3) := by decide +kernel
theorem dX11_seen_30 : decode cX11_seen 30 = .ok (.iload_n 1, 1) := by decide +kernel
theorem dX11_seen_31 : decode cX11_seen 31 = .ok (.iload_n 2, 1) := by decide +kernel
theorem dX11_seen_32 : decode cX11_seen 32 = .ok (.iload_n 3, 1) := by decide +kernel
theorem dX11_seen_33 : decode cX11_seen 33 = .ok (.invokevirtual 344, 3) := by decide +kernel
theorem dX11_seen_36 : decode cX11_seen 36 = .ok (.ireturn, 1) := by decide +kernel
theorem dX11_untell_0 : decode cX11_untell 0 = .ok (.aload_n 0, 1) := by decide +kernel
theorem dX11_untell_1 : decode cX11_untell 1 = .ok (.getfield 87, 3) := by decide +kernel
theorem dX11_untell_4 : decode cX11_untell 4 = .ok (.iload_n 1, 1) := by decide +kernel
theorem dX11_untell_5 : decode cX11_untell 5 = .ok (.invokevirtual 348, 3) := by decide +kernel
theorem dX11_untell_8 : decode cX11_untell 8 = .ok (.ireturn, 1) := by decide +kernel
theorem dX11_later_0 : decode cX11_later 0 = .ok (.iload_n 1, 1) := by decide +kernel
theorem dX11_later_1 : decode cX11_later 1 = .ok (.ifCond .lt 21, 3) := by decide +kernel
theorem dX11_later_4 : decode cX11_later 4 = .ok (.iload_n 1, 1) := by decide +kernel
theorem dX11_later_5 : decode cX11_later 5 = .ok (.sipush 1000, 3) := by decide +kernel
theorem dX11_later_8 : decode cX11_later 8 = .ok (.if_icmp .gt 14, 3) := by decide +kernel
theorem dX11_later_11 : decode cX11_later 11 = .ok (.aload_n 0, 1) := by decide +kernel
theorem dX11_later_12 : decode cX11_later 12 = .ok (.getfield 87, 3) := by decide +kernel
theorem dX11_later_15 : decode cX11_later 15 = .ok (.iload_n 1, 1) := by decide +kernel
theorem dX11_later_16 : decode cX11_later 16 = .ok (.invokevirtual 351, 3) := by decide +kernel
theorem dX11_later_19 : decode cX11_later 19 = .ok (.goto 4, 3) := by decide +kernel
theorem dX11_later_22 : decode cX11_later 22 = .ok (.iconst (-1), 1) := by decide +kernel
theorem dX11_later_23 : decode cX11_later 23 = .ok (.ireturn, 1) := by decide +kernel
theorem dX11_rows_0 : decode cX11_rows 0 = .ok (.aload_n 0, 1) := by decide +kernel
theorem dX11_rows_1 : decode cX11_rows 1 = .ok (.getfield 87, 3) := by decide +kernel
theorem dX11_rows_4 : decode cX11_rows 4 = .ok (.iload_n 1, 1) := by decide +kernel
theorem dX11_rows_5 : decode cX11_rows 5 = .ok (.invokevirtual 354, 3) := by decide +kernel
theorem dX11_rows_8 : decode cX11_rows 8 = .ok (.ireturn, 1) := by decide +kernel
theorem dX11_sure_0 : decode cX11_sure 0 = .ok (.iload_n 1, 1) := by decide +kernel
theorem dX11_sure_1 : decode cX11_sure 1 = .ok (.invokestatic 341, 3) := by decide +kernel
theorem dX11_sure_4 : decode cX11_sure 4 = .ok (.ifCond .eq 15, 3) := by decide +kernel
theorem dX11_sure_7 : decode cX11_sure 7 = .ok (.aload_n 0, 1) := by decide +kernel
theorem dX11_sure_8 : decode cX11_sure 8 = .ok (.getfield 87, 3) := by decide +kernel
theorem dX11_sure_11 : decode cX11_sure 11 = .ok (.iload_n 1, 1) := by decide +kernel
theorem dX11_sure_12 : decode cX11_sure 12 = .ok (.iload_n 2, 1) := by decide +kernel
theorem dX11_sure_13 : decode cX11_sure 13 = .ok (.invokevirtual 357, 3) := by decide +kernel
theorem dX11_sure_16 : decode cX11_sure 16 = .ok (.goto 4, 3) := by decide +kernel
theorem dX11_sure_19 : decode cX11_sure 19 = .ok (.iconst (-1), 1) := by decide +kernel
theorem dX11_sure_20 : decode cX11_sure 20 = .ok (.ireturn, 1) := by decide +kernel
theorem dX11_ask_0 : decode cX11_ask 0 = .ok (.iload_n 1, 1) := by decide +kernel
theorem dX11_ask_1 : decode cX11_ask 1 = .ok (.invokestatic 271, 3) := by decide +kernel
theorem dX11_ask_4 : decode cX11_ask 4 = .ok (.ifCond .eq 14, 3) := by decide +kernel
theorem dX11_ask_7 : decode cX11_ask 7 = .ok (.aload_n 0, 1) := by decide +kernel
theorem dX11_ask_8 : decode cX11_ask 8 = .ok (.getfield 87, 3) := by decide +kernel
theorem dX11_ask_11 : decode cX11_ask 11 = .ok (.iload_n 2, 1) := by decide +kernel
theorem dX11_ask_12 : decode cX11_ask 12 = .ok (.invokevirtual 354, 3) := by decide +kernel
theorem dX11_ask_15 : decode cX11_ask 15 = .ok (.ifCond .ne 5, 3) := by decide +kernel
theorem dX11_ask_18 : decode cX11_ask 18 = .ok (.iconst (-1), 1) := by decide +kernel
theorem dX11_ask_19 : decode cX11_ask 19 = .ok (.ireturn, 1) := by decide +kernel
theorem dX11_ask_20 : decode cX11_ask 20 = .ok (.aload_n 0, 1) := by decide +kernel
theorem dX11_ask_21 : decode cX11_ask 21 = .ok (.getfield 87, 3) := by decide +kernel
theorem dX11_ask_24 : decode cX11_ask 24 = .ok (.iconst 1, 1) := by decide +kernel
theorem dX11_ask_25 : decode cX11_ask 25 = .ok (.invokevirtual 360, 3) := by decide +kernel
theorem dX11_ask_28 : decode cX11_ask 28 = .ok (.istore_n 3, 1) := by decide +kernel
theorem dX11_ask_29 : decode cX11_ask 29 = .ok (.aload_n 0, 1) := by decide +kernel
theorem dX11_ask_30 : decode cX11_ask 30 = .ok (.getfield 87, 3) := by decide +kernel
theorem dX11_ask_33 : decode cX11_ask 33 = .ok (.iconst 2, 1) := by decide +kernel
theorem dX11_ask_34 : decode cX11_ask 34 = .ok (.invokevirtual 360, 3) := by decide +kernel
theorem dX11_ask_37 : decode cX11_ask 37 = .ok (.istore 4, 2) := by decide +kernel
theorem dX11_ask_39 : decode cX11_ask 39 = .ok (.iload_n 1, 1) := by decide +kernel
theorem dX11_ask_40 : decode cX11_ask 40 = .ok (.iconst 1, 1) := by decide +kernel
theorem dX11_ask_41 : decode cX11_ask 41 = .ok (.if_icmp .ne 10, 3) := by decide +kernel
theorem dX11_ask_44 : decode cX11_ask 44 = .ok (.iload_n 3, 1) := by decide +kernel
theorem dX11_ask_45 : decode cX11_ask 45 = .ok (.iload 4, 2) := by decide +kernel
theorem dX11_ask_47 : decode cX11_ask 47 = .ok (.invokestatic 363, 3) := by decide +kernel
theorem dX11_ask_50 : decode cX11_ask 50 = .ok (.ireturn, 1) := by decide +kernel
theorem dX11_ask_51 : decode cX11_ask 51 = .ok (.iload 4, 2) := by decide +kernel
theorem dX11_ask_53 : decode cX11_ask 53 = .ok (.iload_n 3, 1) := by decide +kernel
theorem dX11_ask_54 : decode cX11_ask 54 = .ok (.if_icmp .ge 7, 3) := by decide +kernel
theorem dX11_ask_57 : decode cX11_ask 57 = .ok (.iconst 2, 1) := by decide +kernel
theorem dX11_ask_58 : decode cX11_ask 58 = .ok (.goto 4, 3) := by decide +kernel
theorem dX11_ask_61 : decode cX11_ask 61 = .ok (.iconst 1, 1) := by decide +kernel
theorem dX11_ask_62 : decode cX11_ask 62 = .ok (.ireturn, 1) := by decide +kernel
theorem dX11_image_0 : decode cX11_image 0 = .ok (.iload_n 1, 1) := by decide +kernel
theorem dX11_image_1 : decode cX11_image 1 = .ok (.invokestatic 368, 3) := by decide +kernel
theorem dX11_image_4 : decode cX11_image 4 = .ok (.ifCond .eq 14, 3) := by decide +kernel
theorem dX11_image_7 : decode cX11_image 7 = .ok (.aload_n 0, 1) := by decide +kernel
theorem dX11_image_8 : decode cX11_image 8 = .ok (.getfield 62, 3) := by decide +kernel
theorem dX11_image_11 : decode cX11_image 11 = .ok (.iload_n 1, 1) := by decide +kernel
theorem dX11_image_12 : decode cX11_image 12 = .ok (.invokevirtual 371, 3) := by decide +kernel
theorem dX11_image_15 : decode cX11_image 15 = .ok (.goto 4, 3) := by decide +kernel
theorem dX11_image_18 : decode cX11_image 18 = .ok (.iconst (-1), 1) := by decide +kernel
theorem dX11_image_19 : decode cX11_image 19 = .ok (.ireturn, 1) := by decide +kernel
theorem dX11_back_0 : decode cX11_back 0 = .ok (.iload_n 1, 1) := by decide +kernel
theorem dX11_back_1 : decode cX11_back 1 = .ok (.invokestatic 368, 3) := by decide +kernel
theorem dX11_back_4 : decode cX11_back 4 = .ok (.ifCond .eq 14, 3) := by decide +kernel
theorem dX11_back_7 : decode cX11_back 7 = .ok (.aload_n 0, 1) := by decide +kernel
theorem dX11_back_8 : decode cX11_back 8 = .ok (.getfield 62, 3) := by decide +kernel
theorem dX11_back_11 : decode cX11_back 11 = .ok (.iload_n 1, 1) := by decide +kernel
theorem dX11_back_12 : decode cX11_back 12 = .ok (.invokevirtual 374, 3) := by decide +kernel
theorem dX11_back_15 : decode cX11_back 15 = .ok (.goto 4, 3) := by decide +kernel
theorem dX11_back_18 : decode cX11_back 18 = .ok (.iconst (-1), 1) := by decide +kernel
theorem dX11_back_19 : decode cX11_back 19 = .ok (.ireturn, 1) := by decide +kernel
theorem dX11_about_0 : decode cX11_about 0 = .ok (.iload_n 1, 1) := by decide +kernel
theorem dX11_about_1 : decode cX11_about 1 = .ok (.tableswitch 201 0 14 #[75, 83, 91, 99, 107, 118, 129, 137, 145, 153, 161, 169, 180, 185, 193], 75) := by decide +kernel
theorem dX11_about_76 : decode cX11_about 76 = .ok (.aload_n 0, 1) := by decide +kernel
theorem dX11_about_77 : decode cX11_about 77 = .ok (.getfield 27, 3) := by decide +kernel
theorem dX11_about_80 : decode cX11_about 80 = .ok (.getfield 133, 3) := by decide +kernel
theorem dX11_about_83 : decode cX11_about 83 = .ok (.ireturn, 1) := by decide +kernel
theorem dX11_about_84 : decode cX11_about 84 = .ok (.aload_n 0, 1) := by decide +kernel
theorem dX11_about_85 : decode cX11_about 85 = .ok (.getfield 27, 3) := by decide +kernel
theorem dX11_about_88 : decode cX11_about 88 = .ok (.getfield 377, 3) := by decide +kernel
theorem dX11_about_91 : decode cX11_about 91 = .ok (.ireturn, 1) := by decide +kernel
theorem dX11_about_92 : decode cX11_about 92 = .ok (.aload_n 0, 1) := by decide +kernel
theorem dX11_about_93 : decode cX11_about 93 = .ok (.getfield 27, 3) := by decide +kernel
theorem dX11_about_96 : decode cX11_about 96 = .ok (.getfield 308, 3) := by decide +kernel
theorem dX11_about_99 : decode cX11_about 99 = .ok (.ireturn, 1) := by decide +kernel
theorem dX11_about_100 : decode cX11_about 100 = .ok (.aload_n 0, 1) := by decide +kernel
theorem dX11_about_101 : decode cX11_about 101 = .ok (.getfield 46, 3) := by decide +kernel
theorem dX11_about_104 : decode cX11_about 104 = .ok (.invokevirtual 380, 3) := by decide +kernel
theorem dX11_about_107 : decode cX11_about 107 = .ok (.ireturn, 1) := by decide +kernel
theorem dX11_about_108 : decode cX11_about 108 = .ok (.aload_n 0, 1) := by decide +kernel
theorem dX11_about_109 : decode cX11_about 109 = .ok (.getfield 62, 3) := by decide +kernel
theorem dX11_about_112 : decode cX11_about 112 = .ok (.invokevirtual 158, 3) := by decide +kernel
theorem dX11_about_115 : decode cX11_about 115 = .ok (.getfield 206, 3) := by decide +kernel
theorem dX11_about_118 : decode cX11_about 118 = .ok (.ireturn, 1) := by decide +kernel
theorem dX11_about_119 : decode cX11_about 119 = .ok (.aload_n 0, 1) := by decide +kernel
theorem dX11_about_120 : decode cX11_about 120 = .ok (.getfield 62, 3) := by decide +kernel
theorem dX11_about_123 : decode cX11_about 123 = .ok (.invokevirtual 158, 3) := by decide +kernel
theorem dX11_about_126 : decode cX11_about 126 = .ok (.getfield 383, 3) := by decide +kernel
theorem dX11_about_129 : decode cX11_about 129 = .ok (.ireturn, 1) := by decide +kernel
theorem dX11_about_130 : decode cX11_about 130 = .ok (.aload_n 0, 1) := by decide +kernel
theorem dX11_about_131 : decode cX11_about 131 = .ok (.getfield 62, 3) := by decide +kernel
theorem dX11_about_134 : decode cX11_about 134 = .ok (.invokevirtual 386, 3) := by decide +kernel
theorem dX11_about_137 : decode cX11_about 137 = .ok (.ireturn, 1) := by decide +kernel
theorem dX11_about_138 : decode cX11_about 138 = .ok (.aload_n 0, 1) := by decide +kernel
theorem dX11_about_139 : decode cX11_about 139 = .ok (.getfield 62, 3) := by decide +kernel
theorem dX11_about_142 : decode cX11_about 142 = .ok (.invokevirtual 389, 3) := by decide +kernel
theorem dX11_about_145 : decode cX11_about 145 = .ok (.ireturn, 1) := by decide +kernel
theorem dX11_about_146 : decode cX11_about 146 = .ok (.aload_n 0, 1) := by decide +kernel
theorem dX11_about_147 : decode cX11_about 147 = .ok (.getfield 87, 3) := by decide +kernel
theorem dX11_about_150 : decode cX11_about 150 = .ok (.invokevirtual 392, 3) := by decide +kernel
theorem dX11_about_153 : decode cX11_about 153 = .ok (.ireturn, 1) := by decide +kernel
theorem dX11_about_154 : decode cX11_about 154 = .ok (.aload_n 0, 1) := by decide +kernel
theorem dX11_about_155 : decode cX11_about 155 = .ok (.getfield 87, 3) := by decide +kernel
theorem dX11_about_158 : decode cX11_about 158 = .ok (.invokevirtual 395, 3) := by decide +kernel
theorem dX11_about_161 : decode cX11_about 161 = .ok (.ireturn, 1) := by decide +kernel
theorem dX11_about_162 : decode cX11_about 162 = .ok (.aload_n 0, 1) := by decide +kernel
theorem dX11_about_163 : decode cX11_about 163 = .ok (.getfield 20, 3) := by decide +kernel
theorem dX11_about_166 : decode cX11_about 166 = .ok (.invokevirtual 91, 3) := by decide +kernel
theorem dX11_about_169 : decode cX11_about 169 = .ok (.ireturn, 1) := by decide +kernel
theorem dX11_about_170 : decode cX11_about 170 = .ok (.aload_n 0, 1) := by decide +kernel
theorem dX11_about_171 : decode cX11_about 171 = .ok (.getfield 27, 3) := by decide +kernel
theorem dX11_about_174 : decode cX11_about 174 = .ok (.getfield 398, 3) := by decide +kernel
theorem dX11_about_177 : decode cX11_about 177 = .ok (.invokevirtual 402, 3) := by decide +kernel
theorem dX11_about_180 : decode cX11_about 180 = .ok (.ireturn, 1) := by decide +kernel
theorem dX11_about_181 : decode cX11_about 181 = .ok (.aload_n 0, 1) := by decide +kernel
theorem dX11_about_182 : decode cX11_about 182 = .ok (.getfield 13, 3) := by decide +kernel
theorem dX11_about_185 : decode cX11_about 185 = .ok (.ireturn, 1) := by decide +kernel
theorem dX11_about_186 : decode cX11_about 186 = .ok (.aload_n 0, 1) := by decide +kernel
theorem dX11_about_187 : decode cX11_about 187 = .ok (.getfield 27, 3) := by decide +kernel
theorem dX11_about_190 : decode cX11_about 190 = .ok (.getfield 335, 3) := by decide +kernel
theorem dX11_about_193 : decode cX11_about 193 = .ok (.ireturn, 1) := by decide +kernel
theorem dX11_about_194 : decode cX11_about 194 = .ok (.aload_n 0, 1) := by decide +kernel
theorem dX11_about_195 : decode cX11_about 195 = .ok (.getfield 27, 3) := by decide +kernel
theorem dX11_about_198 : decode cX11_about 198 = .ok (.getfield 110, 3) := by decide +kernel
theorem dX11_about_201 : decode cX11_about 201 = .ok (.ireturn, 1) := by decide +kernel
theorem dX11_about_202 : decode cX11_about 202 = .ok (.iconst (-1), 1) := by decide +kernel
theorem dX11_about_203 : decode cX11_about 203 = .ok (.ireturn, 1) := by decide +kernel
theorem dX11_isHerd_0 : decode cX11_isHerd 0 = .ok (.iload_n 1, 1) := by decide +kernel
theorem dX11_isHerd_1 : decode cX11_isHerd 1 = .ok (.ifCond .lt 18, 3) := by decide +kernel
theorem dX11_isHerd_4 : decode cX11_isHerd 4 = .ok (.iload_n 1, 1) := by decide +kernel
theorem dX11_isHerd_5 : decode cX11_isHerd 5 = .ok (.aload_n 0, 1) := by decide +kernel
theorem dX11_isHerd_6 : decode cX11_isHerd 6 = .ok (.getfield 27, 3) := by decide +kernel
theorem dX11_isHerd_9 : decode cX11_isHerd 9 = .ok (.getfield 133, 3) := by decide +kernel
theorem dX11_isHerd_12 : decode cX11_isHerd 12 = .ok (.if_icmp .ge 7, 3) := by decide +kernel
theorem dX11_isHerd_15 : decode cX11_isHerd 15 = .ok (.iconst 1, 1) := by decide +kernel
theorem dX11_isHerd_16 : decode cX11_isHerd 16 = .ok (.goto 4, 3) := by decide +kernel
theorem dX11_isHerd_19 : decode cX11_isHerd 19 = .ok (.iconst 0, 1) := by decide +kernel
theorem dX11_isHerd_20 : decode cX11_isHerd 20 = .ok (.ireturn, 1) := by decide +kernel
theorem dX11_isIron_0 : decode cX11_isIron 0 = .ok (.iload_n 1, 1) := by decide +kernel
theorem dX11_isIron_1 : decode cX11_isIron 1 = .ok (.ifCond .lt 18, 3) := by decide +kernel
theorem dX11_isIron_4 : decode cX11_isIron 4 = .ok (.iload_n 1, 1) := by decide +kernel
theorem dX11_isIron_5 : decode cX11_isIron 5 = .ok (.aload_n 0, 1) := by decide +kernel
theorem dX11_isIron_6 : decode cX11_isIron 6 = .ok (.getfield 27, 3) := by decide +kernel
theorem dX11_isIron_9 : decode cX11_isIron 9 = .ok (.getfield 377, 3) := by decide +kernel
theorem dX11_isIron_12 : decode cX11_isIron 12 = .ok (.if_icmp .ge 7, 3) := by decide +kernel
theorem dX11_isIron_15 : decode cX11_isIron 15 = .ok (.iconst 1, 1) := by decide +kernel
theorem dX11_isIron_16 : decode cX11_isIron 16 = .ok (.goto 4, 3) := by decide +kernel
theorem dX11_isIron_19 : decode cX11_isIron 19 = .ok (.iconst 0, 1) := by decide +kernel
theorem dX11_isIron_20 : decode cX11_isIron 20 = .ok (.ireturn, 1) := by decide +kernel
theorem dX11_isBeast_0 : decode cX11_isBeast 0 = .ok (.iload_n 1, 1) := by decide +kernel
theorem dX11_isBeast_1 : decode cX11_isBeast 1 = .ok (.ifCond .lt 18, 3) := by decide +kernel
theorem dX11_isBeast_4 : decode cX11_isBeast 4 = .ok (.iload_n 1, 1) := by decide +kernel
theorem dX11_isBeast_5 : decode cX11_isBeast 5 = .ok (.aload_n 0, 1) := by decide +kernel
theorem dX11_isBeast_6 : decode cX11_isBeast 6 = .ok (.getfield 27, 3) := by decide +kernel
theorem dX11_isBeast_9 : decode cX11_isBeast 9 = .ok (.getfield 308, 3) := by decide +kernel
theorem dX11_isBeast_12 : decode cX11_isBeast 12 = .ok (.if_icmp .ge 7, 3) := by decide +kernel
theorem dX11_isBeast_15 : decode cX11_isBeast 15 = .ok (.iconst 1, 1) := by decide +kernel
theorem dX11_isBeast_16 : decode cX11_isBeast 16 = .ok (.goto 4, 3) := by decide +kernel
theorem dX11_isBeast_19 : decode cX11_isBeast 19 = .ok (.iconst 0, 1) := by decide +kernel
theorem dX11_isBeast_20 : decode cX11_isBeast 20 = .ok (.ireturn, 1) := by decide +kernel
theorem dX11_isPlacement_0 : decode cX11_isPlacement 0 = .ok (.iload_n 1, 1) := by decide +kernel
theorem dX11_isPlacement_1 : decode cX11_isPlacement 1 = .ok (.ifCond .lt 18, 3) := by decide +kernel
theorem dX11_isPlacement_4 : decode cX11_isPlacement 4 = .ok (.iload_n 1, 1) := by decide +kernel
theorem dX11_isPlacement_5 : decode cX11_isPlacement 5 = .ok (.aload_n 0, 1) := by decide +kernel
theorem dX11_isPlacement_6 : decode cX11_isPlacement 6 = .ok (.getfield 46, 3) := by decide +kernel
theorem dX11_isPlacement_9 : decode cX11_isPlacement 9 = .ok (.invokevirtual 380, 3) := by decide +kernel
theorem dX11_isPlacement_12 : decode cX11_isPlacement 12 = .ok (.if_icmp .ge 7, 3) := by decide +kernel
theorem dX11_isPlacement_15 : decode cX11_isPlacement 15 = .ok (.iconst 1, 1) := by decide +kernel
theorem dX11_isPlacement_16 : decode cX11_isPlacement 16 = .ok (.goto 4, 3) := by decide +kernel
theorem dX11_isPlacement_19 : decode cX11_isPlacement 19 = .ok (.iconst 0, 1) := by decide +kernel
theorem dX11_isPlacement_20 : decode cX11_isPlacement 20 = .ok (.ireturn, 1) := by decide +kernel
theorem dX11_isStroke_0 : decode cX11_isStroke 0 = .ok (.iload_n 0, 1) := by decide +kernel
