theorem dX12_power_9 : decode cX12_power 9 = .ok (.iload_n 2, 1) := by decide +kernel
theorem dX12_power_10 : decode cX12_power 10 = .ok (.iload_n 0, 1) := by decide +kernel
theorem dX12_power_11 : decode cX12_power 11 = .ok (.imul, 1) := by decide +kernel
theorem dX12_power_12 : decode cX12_power 12 = .ok (.istore_n 2, 1) := by decide +kernel
theorem dX12_power_13 : decode cX12_power 13 = .ok (.iinc 3 1, 3) := by decide +kernel
theorem dX12_power_16 : decode cX12_power 16 = .ok (.goto (-12), 3) := by decide +kernel
theorem dX12_power_19 : decode cX12_power 19 = .ok (.iload_n 2, 1) := by decide +kernel
theorem dX12_power_20 : decode cX12_power 20 = .ok (.ireturn, 1) := by decide +kernel
theorem dX12_isMark_0 : decode cX12_isMark 0 = .ok (.iload_n 0, 1) := by decide +kernel
theorem dX12_isMark_1 : decode cX12_isMark 1 = .ok (.ifCond .lt 14, 3) := by decide +kernel
theorem dX12_isMark_4 : decode cX12_isMark 4 = .ok (.iload_n 0, 1) := by decide +kernel
theorem dX12_isMark_5 : decode cX12_isMark 5 = .ok (.sipush 4096, 3) := by decide +kernel
theorem dX12_isMark_8 : decode cX12_isMark 8 = .ok (.if_icmp .ge 7, 3) := by decide +kernel
theorem dX12_isMark_11 : decode cX12_isMark 11 = .ok (.iconst 1, 1) := by decide +kernel
theorem dX12_isMark_12 : decode cX12_isMark 12 = .ok (.goto 4, 3) := by decide +kernel
theorem dX12_isMark_15 : decode cX12_isMark 15 = .ok (.iconst 0, 1) := by decide +kernel
theorem dX12_isMark_16 : decode cX12_isMark 16 = .ok (.ireturn, 1) := by decide +kernel
theorem dX12_turned_0 : decode cX12_turned 0 = .ok (.iload_n 0, 1) := by decide +kernel
theorem dX12_turned_1 : decode cX12_turned 1 = .ok (.bipush 6, 2) := by decide +kernel
theorem dX12_turned_3 : decode cX12_turned 3 = .ok (.if_icmp .ge 18, 3) := by decide +kernel
theorem dX12_turned_6 : decode cX12_turned 6 = .ok (.bipush 6, 2) := by decide +kernel
theorem dX12_turned_8 : decode cX12_turned 8 = .ok (.iconst 3, 1) := by decide +kernel
theorem dX12_turned_9 : decode cX12_turned 9 = .ok (.iload_n 0, 1) := by decide +kernel
theorem dX12_turned_10 : decode cX12_turned 10 = .ok (.iconst 2, 1) := by decide +kernel
theorem dX12_turned_11 : decode cX12_turned 11 = .ok (.irem, 1) := by decide +kernel
theorem dX12_turned_12 : decode cX12_turned 12 = .ok (.imul, 1) := by decide +kernel
theorem dX12_turned_13 : decode cX12_turned 13 = .ok (.iadd, 1) := by decide +kernel
theorem dX12_turned_14 : decode cX12_turned 14 = .ok (.iconst 2, 1) := by decide +kernel
theorem dX12_turned_15 : decode cX12_turned 15 = .ok (.iadd, 1) := by decide +kernel
theorem dX12_turned_16 : decode cX12_turned 16 = .ok (.iload_n 0, 1) := by decide +kernel
theorem dX12_turned_17 : decode cX12_turned 17 = .ok (.iconst 2, 1) := by decide +kernel
theorem dX12_turned_18 : decode cX12_turned 18 = .ok (.idiv, 1) := by decide +kernel
theorem dX12_turned_19 : decode cX12_turned 19 = .ok (.isub, 1) := by decide +kernel
theorem dX12_turned_20 : decode cX12_turned 20 = .ok (.ireturn, 1) := by decide +kernel
theorem dX12_turned_21 : decode cX12_turned 21 = .ok (.iconst 2, 1) := by decide +kernel
theorem dX12_turned_22 : decode cX12_turned 22 = .ok (.iload_n 0, 1) := by decide +kernel
theorem dX12_turned_23 : decode cX12_turned 23 = .ok (.bipush 6, 2) := by decide +kernel
theorem dX12_turned_25 : decode cX12_turned 25 = .ok (.isub, 1) := by decide +kernel
theorem dX12_turned_26 : decode cX12_turned 26 = .ok (.iconst 3, 1) := by decide +kernel
theorem dX12_turned_27 : decode cX12_turned 27 = .ok (.irem, 1) := by decide +kernel
theorem dX12_turned_28 : decode cX12_turned 28 = .ok (.imul, 1) := by decide +kernel
theorem dX12_turned_29 : decode cX12_turned 29 = .ok (.iconst 1, 1) := by decide +kernel
theorem dX12_turned_30 : decode cX12_turned 30 = .ok (.iadd, 1) := by decide +kernel
theorem dX12_turned_31 : decode cX12_turned 31 = .ok (.iload_n 0, 1) := by decide +kernel
theorem dX12_turned_32 : decode cX12_turned 32 = .ok (.bipush 6, 2) := by decide +kernel
theorem dX12_turned_34 : decode cX12_turned 34 = .ok (.isub, 1) := by decide +kernel
theorem dX12_turned_35 : decode cX12_turned 35 = .ok (.iconst 3, 1) := by decide +kernel
theorem dX12_turned_36 : decode cX12_turned 36 = .ok (.idiv, 1) := by decide +kernel
theorem dX12_turned_37 : decode cX12_turned 37 = .ok (.isub, 1) := by decide +kernel
theorem dX12_turned_38 : decode cX12_turned 38 = .ok (.ireturn, 1) := by decide +kernel
theorem dX12_mirrored_0 : decode cX12_mirrored 0 = .ok (.iload_n 0, 1) := by decide +kernel
theorem dX12_mirrored_1 : decode cX12_mirrored 1 = .ok (.bipush 6, 2) := by decide +kernel
theorem dX12_mirrored_3 : decode cX12_mirrored 3 = .ok (.if_icmp .ge 15, 3) := by decide +kernel
theorem dX12_mirrored_6 : decode cX12_mirrored 6 = .ok (.iload_n 0, 1) := by decide +kernel
theorem dX12_mirrored_7 : decode cX12_mirrored 7 = .ok (.iconst 2, 1) := by decide +kernel
theorem dX12_mirrored_8 : decode cX12_mirrored 8 = .ok (.idiv, 1) := by decide +kernel
theorem dX12_mirrored_9 : decode cX12_mirrored 9 = .ok (.iconst 2, 1) := by decide +kernel
theorem dX12_mirrored_10 : decode cX12_mirrored 10 = .ok (.imul, 1) := by decide +kernel
theorem dX12_mirrored_11 : decode cX12_mirrored 11 = .ok (.iconst 1, 1) := by decide +kernel
theorem dX12_mirrored_12 : decode cX12_mirrored 12 = .ok (.iadd, 1) := by decide +kernel
theorem dX12_mirrored_13 : decode cX12_mirrored 13 = .ok (.iload_n 0, 1) := by decide +kernel
theorem dX12_mirrored_14 : decode cX12_mirrored 14 = .ok (.iconst 2, 1) := by decide +kernel
theorem dX12_mirrored_15 : decode cX12_mirrored 15 = .ok (.irem, 1) := by decide +kernel
theorem dX12_mirrored_16 : decode cX12_mirrored 16 = .ok (.isub, 1) := by decide +kernel
theorem dX12_mirrored_17 : decode cX12_mirrored 17 = .ok (.ireturn, 1) := by decide +kernel
theorem dX12_mirrored_18 : decode cX12_mirrored 18 = .ok (.bipush 6, 2) := by decide +kernel
theorem dX12_mirrored_20 : decode cX12_mirrored 20 = .ok (.iload_n 0, 1) := by decide +kernel
theorem dX12_mirrored_21 : decode cX12_mirrored 21 = .ok (.bipush 6, 2) := by decide +kernel
theorem dX12_mirrored_23 : decode cX12_mirrored 23 = .ok (.isub, 1) := by decide +kernel
theorem dX12_mirrored_24 : decode cX12_mirrored 24 = .ok (.iconst 3, 1) := by decide +kernel
theorem dX12_mirrored_25 : decode cX12_mirrored 25 = .ok (.idiv, 1) := by decide +kernel
theorem dX12_mirrored_26 : decode cX12_mirrored 26 = .ok (.iconst 3, 1) := by decide +kernel
theorem dX12_mirrored_27 : decode cX12_mirrored 27 = .ok (.imul, 1) := by decide +kernel
theorem dX12_mirrored_28 : decode cX12_mirrored 28 = .ok (.iadd, 1) := by decide +kernel
theorem dX12_mirrored_29 : decode cX12_mirrored 29 = .ok (.iconst 2, 1) := by decide +kernel
theorem dX12_mirrored_30 : decode cX12_mirrored 30 = .ok (.iadd, 1) := by decide +kernel
theorem dX12_mirrored_31 : decode cX12_mirrored 31 = .ok (.iload_n 0, 1) := by decide +kernel
theorem dX12_mirrored_32 : decode cX12_mirrored 32 = .ok (.bipush 6, 2) := by decide +kernel
theorem dX12_mirrored_34 : decode cX12_mirrored 34 = .ok (.isub, 1) := by decide +kernel
theorem dX12_mirrored_35 : decode cX12_mirrored 35 = .ok (.iconst 3, 1) := by decide +kernel
theorem dX12_mirrored_36 : decode cX12_mirrored 36 = .ok (.irem, 1) := by decide +kernel
theorem dX12_mirrored_37 : decode cX12_mirrored 37 = .ok (.isub, 1) := by decide +kernel
theorem dX12_mirrored_38 : decode cX12_mirrored 38 = .ok (.ireturn, 1) := by decide +kernel
theorem dX12_turnedMark_0 : decode cX12_turnedMark 0 = .ok (.iconst 0, 1) := by decide +kernel
theorem dX12_turnedMark_1 : decode cX12_turnedMark 1 = .ok (.istore_n 1, 1) := by decide +kernel
theorem dX12_turnedMark_2 : decode cX12_turnedMark 2 = .ok (.iconst 0, 1) := by decide +kernel
theorem dX12_turnedMark_3 : decode cX12_turnedMark 3 = .ok (.istore_n 2, 1) := by decide +kernel
theorem dX12_turnedMark_4 : decode cX12_turnedMark 4 = .ok (.iload_n 2, 1) := by decide +kernel
theorem dX12_turnedMark_5 : decode cX12_turnedMark 5 = .ok (.bipush 12, 2) := by decide +kernel
theorem dX12_turnedMark_7 : decode cX12_turnedMark 7 = .ok (.if_icmp .ge 26, 3) := by decide +kernel
theorem dX12_turnedMark_10 : decode cX12_turnedMark 10 = .ok (.iload_n 0, 1) := by decide +kernel
theorem dX12_turnedMark_11 : decode cX12_turnedMark 11 = .ok (.iload_n 2, 1) := by decide +kernel
theorem dX12_turnedMark_12 : decode cX12_turnedMark 12 = .ok (.invokestatic 256, 3) := by decide +kernel
theorem dX12_turnedMark_15 : decode cX12_turnedMark 15 = .ok (.ifCond .eq 12, 3) := by decide +kernel
theorem dX12_turnedMark_18 : decode cX12_turnedMark 18 = .ok (.iload_n 1, 1) := by decide +kernel
theorem dX12_turnedMark_19 : decode cX12_turnedMark 19 = .ok (.iconst 1, 1) := by decide +kernel
theorem dX12_turnedMark_20 : decode cX12_turnedMark 20 = .ok (.iload_n 2, 1) := by decide +kernel
theorem dX12_turnedMark_21 : decode cX12_turnedMark 21 = .ok (.invokestatic 346, 3) := by decide +kernel
theorem dX12_turnedMark_24 : decode cX12_turnedMark 24 = .ok (.ishl, 1) := by decide +kernel
theorem dX12_turnedMark_25 : decode cX12_turnedMark 25 = .ok (.ior, 1) := by decide +kernel
theorem dX12_turnedMark_26 : decode cX12_turnedMark 26 = .ok (.istore_n 1, 1) := by decide +kernel
theorem dX12_turnedMark_27 : decode cX12_turnedMark 27 = .ok (.iinc 2 1, 3) := by decide +kernel
theorem dX12_turnedMark_30 : decode cX12_turnedMark 30 = .ok (.goto (-26), 3) := by decide +kernel
theorem dX12_turnedMark_33 : decode cX12_turnedMark 33 = .ok (.iload_n 1, 1) := by decide +kernel
theorem dX12_turnedMark_34 : decode cX12_turnedMark 34 = .ok (.ireturn, 1) := by decide +kernel
theorem dX12_mirroredMark_0 : decode cX12_mirroredMark 0 = .ok (.iconst 0, 1) := by decide +kernel
theorem dX12_mirroredMark_1 : decode cX12_mirroredMark 1 = .ok (.istore_n 1, 1) := by decide +kernel
theorem dX12_mirroredMark_2 : decode cX12_mirroredMark 2 = .ok (.iconst 0, 1) := by decide +kernel
theorem dX12_mirroredMark_3 : decode cX12_mirroredMark 3 = .ok (.istore_n 2, 1) := by decide +kernel
theorem dX12_mirroredMark_4 : decode cX12_mirroredMark 4 = .ok (.iload_n 2, 1) := by decide +kernel
theorem dX12_mirroredMark_5 : decode cX12_mirroredMark 5 = .ok (.bipush 12, 2) := by decide +kernel
theorem dX12_mirroredMark_7 : decode cX12_mirroredMark 7 = .ok (.if_icmp .ge 26, 3) := by decide +kernel
theorem dX12_mirroredMark_10 : decode cX12_mirroredMark 10 = .ok (.iload_n 0, 1) := by decide +kernel
theorem dX12_mirroredMark_11 : decode cX12_mirroredMark 11 = .ok (.iload_n 2, 1) := by decide +kernel
theorem dX12_mirroredMark_12 : decode cX12_mirroredMark 12 = .ok (.invokestatic 256, 3) := by decide +kernel
theorem dX12_mirroredMark_15 : decode cX12_mirroredMark 15 = .ok (.ifCond .eq 12, 3) := by decide +kernel
theorem dX12_mirroredMark_18 : decode cX12_mirroredMark 18 = .ok (.iload_n 1, 1) := by decide +kernel
theorem dX12_mirroredMark_19 : decode cX12_mirroredMark 19 = .ok (.iconst 1, 1) := by decide +kernel
theorem dX12_mirroredMark_20 : decode cX12_mirroredMark 20 = .ok (.iload_n 2, 1) := by decide +kernel
theorem dX12_mirroredMark_21 : decode cX12_mirroredMark 21 = .ok (.invokestatic 349, 3) := by decide +kernel
theorem dX12_mirroredMark_24 : decode cX12_mirroredMark 24 = .ok (.ishl, 1) := by decide +kernel
theorem dX12_mirroredMark_25 : decode cX12_mirroredMark 25 = .ok (.ior, 1) := by decide +kernel
theorem dX12_mirroredMark_26 : decode cX12_mirroredMark 26 = .ok (.istore_n 1, 1) := by decide +kernel
theorem dX12_mirroredMark_27 : decode cX12_mirroredMark 27 = .ok (.iinc 2 1, 3) := by decide +kernel
theorem dX12_mirroredMark_30 : decode cX12_mirroredMark 30 = .ok (.goto (-26), 3) := by decide +kernel
theorem dX12_mirroredMark_33 : decode cX12_mirroredMark 33 = .ok (.iload_n 1, 1) := by decide +kernel
theorem dX12_mirroredMark_34 : decode cX12_mirroredMark 34 = .ok (.ireturn, 1) := by decide +kernel
theorem dX12_placements_0 : decode cX12_placements 0 = .ok (.aload_n 0, 1) := by decide +kernel
theorem dX12_placements_1 : decode cX12_placements 1 = .ok (.getfield 42, 3) := by decide +kernel
theorem dX12_placements_4 : decode cX12_placements 4 = .ok (.aload_n 0, 1) := by decide +kernel
theorem dX12_placements_5 : decode cX12_placements 5 = .ok (.getfield 250, 3) := by decide +kernel
theorem dX12_placements_8 : decode cX12_placements 8 = .ok (.iaload, 1) := by decide +kernel
theorem dX12_placements_9 : decode cX12_placements 9 = .ok (.iconst 2, 1) := by decide +kernel
theorem dX12_placements_10 : decode cX12_placements 10 = .ok (.invokestatic 256, 3) := by decide +kernel
theorem dX12_placements_13 : decode cX12_placements 13 = .ok (.ifCond .eq 17, 3) := by decide +kernel
theorem dX12_placements_16 : decode cX12_placements 16 = .ok (.iconst 2, 1) := by decide +kernel
theorem dX12_placements_17 : decode cX12_placements 17 = .ok (.aload_n 0, 1) := by decide +kernel
theorem dX12_placements_18 : decode cX12_placements 18 = .ok (.getfield 20, 3) := by decide +kernel
theorem dX12_placements_21 : decode cX12_placements 21 = .ok (.aload_n 0, 1) := by decide +kernel
theorem dX12_placements_22 : decode cX12_placements 22 = .ok (.getfield 250, 3) := by decide +kernel
theorem dX12_placements_25 : decode cX12_placements 25 = .ok (.iaload, 1) := by decide +kernel
theorem dX12_placements_26 : decode cX12_placements 26 = .ok (.imul, 1) := by decide +kernel
theorem dX12_placements_27 : decode cX12_placements 27 = .ok (.goto 12, 3) := by decide +kernel
theorem dX12_placements_30 : decode cX12_placements 30 = .ok (.aload_n 0, 1) := by decide +kernel
theorem dX12_placements_31 : decode cX12_placements 31 = .ok (.getfield 20, 3) := by decide +kernel
theorem dX12_placements_34 : decode cX12_placements 34 = .ok (.aload_n 0, 1) := by decide +kernel
theorem dX12_placements_35 : decode cX12_placements 35 = .ok (.getfield 250, 3) := by decide +kernel
theorem dX12_placements_38 : decode cX12_placements 38 = .ok (.iaload, 1) := by decide +kernel
theorem dX12_placements_39 : decode cX12_placements 39 = .ok (.ireturn, 1) := by decide +kernel
theorem dX12_placedBy_0 : decode cX12_placedBy 0 = .ok (.iload_n 2, 1) := by decide +kernel
theorem dX12_placedBy_1 : decode cX12_placedBy 1 = .ok (.aload_n 0, 1) := by decide +kernel
theorem dX12_placedBy_2 : decode cX12_placedBy 2 = .ok (.getfield 20, 3) := by decide +kernel
theorem dX12_placedBy_5 : decode cX12_placedBy 5 = .ok (.aload_n 0, 1) := by decide +kernel
theorem dX12_placedBy_6 : decode cX12_placedBy 6 = .ok (.getfield 250, 3) := by decide +kernel
theorem dX12_placedBy_9 : decode cX12_placedBy 9 = .ok (.iaload, 1) := by decide +kernel
theorem dX12_placedBy_10 : decode cX12_placedBy 10 = .ok (.if_icmp .lt 10, 3) := by decide +kernel
theorem dX12_placedBy_13 : decode cX12_placedBy 13 = .ok (.iload_n 1, 1) := by decide +kernel
theorem dX12_placedBy_14 : decode cX12_placedBy 14 = .ok (.invokestatic 352, 3) := by decide +kernel
theorem dX12_placedBy_17 : decode cX12_placedBy 17 = .ok (.goto 4, 3) := by decide +kernel
theorem dX12_placedBy_20 : decode cX12_placedBy 20 = .ok (.iload_n 1, 1) := by decide +kernel
theorem dX12_placedBy_21 : decode cX12_placedBy 21 = .ok (.istore_n 3, 1) := by decide +kernel
theorem dX12_placedBy_22 : decode cX12_placedBy 22 = .ok (.iload_n 2, 1) := by decide +kernel
theorem dX12_placedBy_23 : decode cX12_placedBy 23 = .ok (.aload_n 0, 1) := by decide +kernel
theorem dX12_placedBy_24 : decode cX12_placedBy 24 = .ok (.getfield 20, 3) := by decide +kernel
theorem dX12_placedBy_27 : decode cX12_placedBy 27 = .ok (.aload_n 0, 1) := by decide +kernel
theorem dX12_placedBy_28 : decode cX12_placedBy 28 = .ok (.getfield 250, 3) := by decide +kernel
theorem dX12_placedBy_31 : decode cX12_placedBy 31 = .ok (.iaload, 1) := by decide +kernel
theorem dX12_placedBy_32 : decode cX12_placedBy 32 = .ok (.irem, 1) := by decide +kernel
theorem dX12_placedBy_33 : decode cX12_placedBy 33 = .ok (.iconst 4, 1) := by decide +kernel
theorem dX12_placedBy_34 : decode cX12_placedBy 34 = .ok (.aload_n 0, 1) := by decide +kernel
theorem dX12_placedBy_35 : decode cX12_placedBy 35 = .ok (.getfield 20, 3) := by decide +kernel
theorem dX12_placedBy_38 : decode cX12_placedBy 38 = .ok (.aload_n 0, 1) := by decide +kernel
theorem dX12_placedBy_39 : decode cX12_placedBy 39 = .ok (.getfield 250, 3) := by decide +kernel
theorem dX12_placedBy_42 : decode cX12_placedBy 42 = .ok (.iaload, 1) := by decide +kernel
theorem dX12_placedBy_43 : decode cX12_placedBy 43 = .ok (.idiv, 1) := by decide +kernel
theorem dX12_placedBy_44 : decode cX12_placedBy 44 = .ok (.imul, 1) := by decide +kernel
theorem dX12_placedBy_45 : decode cX12_placedBy 45 = .ok (.istore 4, 2) := by decide +kernel
theorem dX12_placedBy_47 : decode cX12_placedBy 47 = .ok (.iconst 0, 1) := by decide +kernel
theorem dX12_placedBy_48 : decode cX12_placedBy 48 = .ok (.istore 5, 2) := by decide +kernel
theorem dX12_placedBy_50 : decode cX12_placedBy 50 = .ok (.iload 5, 2) := by decide +kernel
theorem dX12_placedBy_52 : decode cX12_placedBy 52 = .ok (.iload 4, 2) := by decide +kernel
theorem dX12_placedBy_54 : decode cX12_placedBy 54 = .ok (.if_icmp .ge 14, 3) := by decide +kernel
theorem dX12_placedBy_57 : decode cX12_placedBy 57 = .ok (.iload_n 3, 1) := by decide +kernel
theorem dX12_placedBy_58 : decode cX12_placedBy 58 = .ok (.invokestatic 355, 3) := by decide +kernel
theorem dX12_placedBy_61 : decode cX12_placedBy 61 = .ok (.istore_n 3, 1) := by decide +kernel
theorem dX12_placedBy_62 : decode cX12_placedBy 62 = .ok (.iinc 5 1, 3) := by decide +kernel
theorem dX12_placedBy_65 : decode cX12_placedBy 65 = .ok (.goto (-15), 3) := by decide +kernel
theorem dX12_placedBy_68 : decode cX12_placedBy 68 = .ok (.iload_n 3, 1) := by decide +kernel
theorem dX12_placedBy_69 : decode cX12_placedBy 69 = .ok (.ireturn, 1) := by decide +kernel
theorem dX12_isUnder_0 : decode cX12_isUnder 0 = .ok (.iconst 0, 1) := by decide +kernel
theorem dX12_isUnder_1 : decode cX12_isUnder 1 = .ok (.istore_n 3, 1) := by decide +kernel
theorem dX12_isUnder_2 : decode cX12_isUnder 2 = .ok (.iload_n 3, 1) := by decide +kernel
theorem dX12_isUnder_3 : decode cX12_isUnder 3 = .ok (.aload_n 0, 1) := by decide +kernel
theorem dX12_isUnder_4 : decode cX12_isUnder 4 = .ok (.invokevirtual 358, 3) := by decide +kernel
theorem dX12_isUnder_7 : decode cX12_isUnder 7 = .ok (.if_icmp .ge 24, 3) := by decide +kernel
theorem dX12_isUnder_10 : decode cX12_isUnder 10 = .ok (.aload_n 0, 1) := by decide +kernel
theorem dX12_isUnder_11 : decode cX12_isUnder 11 = .ok (.iload_n 1, 1) := by decide +kernel
theorem dX12_isUnder_12 : decode cX12_isUnder 12 = .ok (.iload_n 3, 1) := by decide +kernel
theorem dX12_isUnder_13 : decode cX12_isUnder 13 = .ok (.invokevirtual 361, 3) := by decide +kernel
theorem dX12_isUnder_16 : decode cX12_isUnder 16 = .ok (.iload_n 2, 1) := by decide +kernel
theorem dX12_isUnder_17 : decode cX12_isUnder 17 = .ok (.iconst (-1), 1) := by decide +kernel
theorem dX12_isUnder_18 : decode cX12_isUnder 18 = .ok (.ixor, 1) := by decide +kernel
theorem dX12_isUnder_19 : decode cX12_isUnder 19 = .ok (.iand, 1) := by decide +kernel
theorem dX12_isUnder_20 : decode cX12_isUnder 20 = .ok (.ifCond .ne 5, 3) := by decide +kernel
theorem dX12_isUnder_23 : decode cX12_isUnder 23 = .ok (.iconst 1, 1) := by decide +kernel
theorem dX12_isUnder_24 : decode cX12_isUnder 24 = .ok (.ireturn, 1) := by decide +kernel
theorem dX12_isUnder_25 : decode cX12_isUnder 25 = .ok (.iinc 3 1, 3) := by decide +kernel
theorem dX12_isUnder_28 : decode cX12_isUnder 28 = .ok (.goto (-26), 3) := by decide +kernel
theorem dX12_isUnder_31 : decode cX12_isUnder 31 = .ok (.iconst 0, 1) := by decide +kernel
theorem dX12_isUnder_32 : decode cX12_isUnder 32 = .ok (.ireturn, 1) := by decide +kernel
theorem dX12_normOf_0 : decode cX12_normOf 0 = .ok (.iload_n 1, 1) := by decide +kernel
theorem dX12_normOf_1 : decode cX12_normOf 1 = .ok (.istore_n 2, 1) := by decide +kernel
theorem dX12_normOf_2 : decode cX12_normOf 2 = .ok (.iconst 1, 1) := by decide +kernel
theorem dX12_normOf_3 : decode cX12_normOf 3 = .ok (.istore_n 3, 1) := by decide +kernel
theorem dX12_normOf_4 : decode cX12_normOf 4 = .ok (.iload_n 3, 1) := by decide +kernel
theorem dX12_normOf_5 : decode cX12_normOf 5 = .ok (.aload_n 0, 1) := by decide +kernel
theorem dX12_normOf_6 : decode cX12_normOf 6 = .ok (.invokevirtual 358, 3) := by decide +kernel
theorem dX12_normOf_9 : decode cX12_normOf 9 = .ok (.if_icmp .ge 26, 3) := by decide +kernel
theorem dX12_normOf_12 : decode cX12_normOf 12 = .ok (.aload_n 0, 1) := by decide +kernel
theorem dX12_normOf_13 : decode cX12_normOf 13 = .ok (.iload_n 1, 1) := by decide +kernel
theorem dX12_normOf_14 : decode cX12_normOf 14 = .ok (.iload_n 3, 1) := by decide +kernel
theorem dX12_normOf_15 : decode cX12_normOf 15 = .ok (.invokevirtual 361, 3) := by decide +kernel
theorem dX12_normOf_18 : decode cX12_normOf 18 = .ok (.istore 4, 2) := by decide +kernel
theorem dX12_normOf_20 : decode cX12_normOf 20 = .ok (.iload 4, 2) := by decide +kernel
theorem dX12_normOf_22 : decode cX12_normOf 22 = .ok (.iload_n 2, 1) := by decide +kernel
theorem dX12_normOf_23 : decode cX12_normOf 23 = .ok (.if_icmp .ge 6, 3) := by decide +kernel
theorem dX12_normOf_26 : decode cX12_normOf 26 = .ok (.iload 4, 2) := by decide +kernel
theorem dX12_normOf_28 : decode cX12_normOf 28 = .ok (.istore_n 2, 1) := by decide +kernel
theorem dX12_normOf_29 : decode cX12_normOf 29 = .ok (.iinc 3 1, 3) := by decide +kernel
theorem dX12_normOf_32 : decode cX12_normOf 32 = .ok (.goto (-28), 3) := by decide +kernel
theorem dX12_normOf_35 : decode cX12_normOf 35 = .ok (.iload_n 2, 1) := by decide +kernel
theorem dX12_normOf_36 : decode cX12_normOf 36 = .ok (.ireturn, 1) := by decide +kernel
theorem dX12_areOne_0 : decode cX12_areOne 0 = .ok (.aload_n 0, 1) := by decide +kernel
theorem dX12_areOne_1 : decode cX12_areOne 1 = .ok (.iload_n 1, 1) := by decide +kernel
theorem dX12_areOne_2 : decode cX12_areOne 2 = .ok (.invokevirtual 364, 3) := by decide +kernel
theorem dX12_areOne_5 : decode cX12_areOne 5 = .ok (.aload_n 0, 1) := by decide +kernel
theorem dX12_areOne_6 : decode cX12_areOne 6 = .ok (.iload_n 2, 1) := by decide +kernel
theorem dX12_areOne_7 : decode cX12_areOne 7 = .ok (.invokevirtual 364, 3) := by decide +kernel
theorem dX12_areOne_10 : decode cX12_areOne 10 = .ok (.if_icmp .ne 7, 3) := by decide +kernel
theorem dX12_areOne_13 : decode cX12_areOne 13 = .ok (.iconst 1, 1) := by decide +kernel
theorem dX12_areOne_14 : decode cX12_areOne 14 = .ok (.goto 4, 3) := by decide +kernel
theorem dX12_areOne_17 : decode cX12_areOne 17 = .ok (.iconst 0, 1) := by decide +kernel
theorem dX12_areOne_18 : decode cX12_areOne 18 = .ok (.ireturn, 1) := by decide +kernel
theorem dX12_stocks_0 : decode cX12_stocks 0 = .ok (.aload_n 0, 1) := by decide +kernel
theorem dX12_stocks_1 : decode cX12_stocks 1 = .ok (.getfield 24, 3) := by decide +kernel
theorem dX12_stocks_4 : decode cX12_stocks 4 = .ok (.aload_n 0, 1) := by decide +kernel
theorem dX12_stocks_5 : decode cX12_stocks 5 = .ok (.getfield 250, 3) := by decide +kernel
theorem dX12_stocks_8 : decode cX12_stocks 8 = .ok (.iaload, 1) := by decide +kernel
theorem dX12_stocks_9 : decode cX12_stocks 9 = .ok (.ireturn, 1) := by decide +kernel
theorem dX12_tools_0 : decode cX12_tools 0 = .ok (.aload_n 0, 1) := by decide +kernel
theorem dX12_tools_1 : decode cX12_tools 1 = .ok (.getfield 27, 3) := by decide +kernel
theorem dX12_tools_4 : decode cX12_tools 4 = .ok (.aload_n 0, 1) := by decide +kernel
theorem dX12_tools_5 : decode cX12_tools 5 = .ok (.getfield 250, 3) := by decide +kernel
theorem dX12_tools_8 : decode cX12_tools 8 = .ok (.iaload, 1) := by decide +kernel
theorem dX12_tools_9 : decode cX12_tools 9 = .ok (.ireturn, 1) := by decide +kernel
theorem dX12_cattle_0 : decode cX12_cattle 0 = .ok (.aload_n 0, 1) := by decide +kernel
theorem dX12_cattle_1 : decode cX12_cattle 1 = .ok (.getfield 30, 3) := by decide +kernel
theorem dX12_cattle_4 : decode cX12_cattle 4 = .ok (.aload_n 0, 1) := by decide +kernel
theorem dX12_cattle_5 : decode cX12_cattle 5 = .ok (.getfield 250, 3) := by decide +kernel
theorem dX12_cattle_8 : decode cX12_cattle 8 = .ok (.iaload, 1) := by decide +kernel
theorem dX12_cattle_9 : decode cX12_cattle 9 = .ok (.ireturn, 1) := by decide +kernel
theorem dX12_isHerd_0 : decode cX12_isHerd 0 = .ok (.iload_n 1, 1) := by decide +kernel
theorem dX12_isHerd_1 : decode cX12_isHerd 1 = .ok (.iconst 0, 1) := by decide +kernel
theorem dX12_isHerd_2 : decode cX12_isHerd 2 = .ok (.aload_n 0, 1) := by decide +kernel
theorem dX12_isHerd_3 : decode cX12_isHerd 3 = .ok (.invokevirtual 367, 3) := by decide +kernel
theorem dX12_isHerd_6 : decode cX12_isHerd 6 = .ok (.iconst 1, 1) := by decide +kernel
theorem dX12_isHerd_7 : decode cX12_isHerd 7 = .ok (.isub, 1) := by decide +kernel
theorem dX12_isHerd_8 : decode cX12_isHerd 8 = .ok (.invokestatic 370, 3) := by decide +kernel
theorem dX12_isHerd_11 : decode cX12_isHerd 11 = .ok (.ireturn, 1) := by decide +kernel
theorem dX12_isIron_0 : decode cX12_isIron 0 = .ok (.iload_n 1, 1) := by decide +kernel
theorem dX12_isIron_1 : decode cX12_isIron 1 = .ok (.iconst 0, 1) := by decide +kernel
theorem dX12_isIron_2 : decode cX12_isIron 2 = .ok (.aload_n 0, 1) := by decide +kernel
theorem dX12_isIron_3 : decode cX12_isIron 3 = .ok (.invokevirtual 374, 3) := by decide +kernel
theorem dX12_isIron_6 : decode cX12_isIron 6 = .ok (.iconst 1, 1) := by decide +kernel
theorem dX12_isIron_7 : decode cX12_isIron 7 = .ok (.isub, 1) := by decide +kernel
theorem dX12_isIron_8 : decode cX12_isIron 8 = .ok (.invokestatic 370, 3) := by decide +kernel
theorem dX12_isIron_11 : decode cX12_isIron 11 = .ok (.ireturn, 1) := by decide +kernel
theorem dX12_isBeast_0 : decode cX12_isBeast 0 = .ok (.iload_n 1, 1) := by decide +kernel
theorem dX12_isBeast_1 : decode cX12_isBeast 1 = .ok (.iconst 0, 1) := by decide +kernel
theorem dX12_isBeast_2 : decode cX12_isBeast 2 = .ok (.aload_n 0, 1) := by decide +kernel
theorem dX12_isBeast_3 : decode cX12_isBeast 3 = .ok (.invokevirtual 377, 3) := by decide +kernel
theorem dX12_isBeast_6 : decode cX12_isBeast 6 = .ok (.iconst 1, 1) := by decide +kernel
theorem dX12_isBeast_7 : decode cX12_isBeast 7 = .ok (.isub, 1) := by decide +kernel
theorem dX12_isBeast_8 : decode cX12_isBeast 8 = .ok (.invokestatic 370, 3) := by decide +kernel
theorem dX12_isBeast_11 : decode cX12_isBeast 11 = .ok (.ireturn, 1) := by decide +kernel
theorem dX12_brandOf_0 : decode cX12_brandOf 0 = .ok (.aload_n 0, 1) := by decide +kernel
theorem dX12_brandOf_1 : decode cX12_brandOf 1 = .ok (.getfield 45, 3) := by decide +kernel
theorem dX12_brandOf_4 : decode cX12_brandOf 4 = .ok (.bipush 8, 2) := by decide +kernel
theorem dX12_brandOf_6 : decode cX12_brandOf 6 = .ok (.aload_n 0, 1) := by decide +kernel
theorem dX12_brandOf_7 : decode cX12_brandOf 7 = .ok (.getfield 250, 3) := by decide +kernel
theorem dX12_brandOf_10 : decode cX12_brandOf 10 = .ok (.imul, 1) := by decide +kernel
theorem dX12_brandOf_11 : decode cX12_brandOf 11 = .ok (.iload_n 1, 1) := by decide +kernel
theorem dX12_brandOf_12 : decode cX12_brandOf 12 = .ok (.iadd, 1) := by decide +kernel
theorem dX12_brandOf_13 : decode cX12_brandOf 13 = .ok (.iaload, 1) := by decide +kernel
theorem dX12_brandOf_14 : decode cX12_brandOf 14 = .ok (.ireturn, 1) := by decide +kernel
theorem dX12_ironOf_0 : decode cX12_ironOf 0 = .ok (.aload_n 0, 1) := by decide +kernel
theorem dX12_ironOf_1 : decode cX12_ironOf 1 = .ok (.getfield 48, 3) := by decide +kernel
theorem dX12_ironOf_4 : decode cX12_ironOf 4 = .ok (.bipush 6, 2) := by decide +kernel
theorem dX12_ironOf_6 : decode cX12_ironOf 6 = .ok (.aload_n 0, 1) := by decide +kernel
theorem dX12_ironOf_7 : decode cX12_ironOf 7 = .ok (.getfield 250, 3) := by decide +kernel
theorem dX12_ironOf_10 : decode cX12_ironOf 10 = .ok (.imul, 1) := by decide +kernel
theorem dX12_ironOf_11 : decode cX12_ironOf 11 = .ok (.iload_n 1, 1) := by decide +kernel
theorem dX12_ironOf_12 : decode cX12_ironOf 12 = .ok (.iadd, 1) := by decide +kernel
theorem dX12_ironOf_13 : decode cX12_ironOf 13 = .ok (.iaload, 1) := by decide +kernel
theorem dX12_ironOf_14 : decode cX12_ironOf 14 = .ok (.ireturn, 1) := by decide +kernel
theorem dX12_firstHerd_0 : decode cX12_firstHerd 0 = .ok (.aload_n 0, 1) := by decide +kernel
theorem dX12_firstHerd_1 : decode cX12_firstHerd 1 = .ok (.getfield 51, 3) := by decide +kernel
theorem dX12_firstHerd_4 : decode cX12_firstHerd 4 = .ok (.bipush 8, 2) := by decide +kernel
theorem dX12_firstHerd_6 : decode cX12_firstHerd 6 = .ok (.aload_n 0, 1) := by decide +kernel
theorem dX12_firstHerd_7 : decode cX12_firstHerd 7 = .ok (.getfield 250, 3) := by decide +kernel
theorem dX12_firstHerd_10 : decode cX12_firstHerd 10 = .ok (.imul, 1) := by decide +kernel
theorem dX12_firstHerd_11 : decode cX12_firstHerd 11 = .ok (.iload_n 1, 1) := by decide +kernel
theorem dX12_firstHerd_12 : decode cX12_firstHerd 12 = .ok (.iadd, 1) := by decide +kernel
theorem dX12_firstHerd_13 : decode cX12_firstHerd 13 = .ok (.iaload, 1) := by decide +kernel
theorem dX12_firstHerd_14 : decode cX12_firstHerd 14 = .ok (.ireturn, 1) := by decide +kernel
theorem dX12_slot_0 : decode cX12_slot 0 = .ok (.bipush 16, 2) := by decide +kernel
theorem dX12_slot_2 : decode cX12_slot 2 = .ok (.bipush 12, 2) := by decide +kernel
theorem dX12_slot_4 : decode cX12_slot 4 = .ok (.iload_n 1, 1) := by decide +kernel
theorem dX12_slot_5 : decode cX12_slot 5 = .ok (.imul, 1) := by decide +kernel
theorem dX12_slot_6 : decode cX12_slot 6 = .ok (.iadd, 1) := by decide +kernel
theorem dX12_slot_7 : decode cX12_slot 7 = .ok (.iload_n 2, 1) := by decide +kernel
theorem dX12_slot_8 : decode cX12_slot 8 = .ok (.iadd, 1) := by decide +kernel
theorem dX12_slot_9 : decode cX12_slot 9 = .ok (.ireturn, 1) := by decide +kernel
theorem dX12_startAnew_0 : decode cX12_startAnew 0 = .ok (.iconst 0, 1) := by decide +kernel
theorem dX12_startAnew_1 : decode cX12_startAnew 1 = .ok (.istore_n 1, 1) := by decide +kernel
theorem dX12_startAnew_2 : decode cX12_startAnew 2 = .ok (.iload_n 1, 1) := by decide +kernel
theorem dX12_startAnew_3 : decode cX12_startAnew 3 = .ok (.bipush 114, 2) := by decide +kernel
theorem dX12_startAnew_5 : decode cX12_startAnew 5 = .ok (.if_icmp .ge 16, 3) := by decide +kernel
theorem dX12_startAnew_8 : decode cX12_startAnew 8 = .ok (.aload_n 0, 1) := by decide +kernel
theorem dX12_startAnew_9 : decode cX12_startAnew 9 = .ok (.getfield 88, 3) := by decide +kernel
theorem dX12_startAnew_12 : decode cX12_startAnew 12 = .ok (.iload_n 1, 1) := by decide +kernel
theorem dX12_startAnew_13 : decode cX12_startAnew 13 = .ok (.iconst 0, 1) := by decide +kernel
theorem dX12_startAnew_14 : decode cX12_startAnew 14 = .ok (.iastore, 1) := by decide +kernel
theorem dX12_startAnew_15 : decode cX12_startAnew 15 = .ok (.iinc 1 1, 3) := by decide +kernel
theorem dX12_startAnew_18 : decode cX12_startAnew 18 = .ok (.goto (-16), 3) := by decide +kernel
theorem dX12_startAnew_21 : decode cX12_startAnew 21 = .ok (.iconst 0, 1) := by decide +kernel
theorem dX12_startAnew_22 : decode cX12_startAnew 22 = .ok (.istore_n 1, 1) := by decide +kernel
theorem dX12_startAnew_23 : decode cX12_startAnew 23 = .ok (.iload_n 1, 1) := by decide +kernel
theorem dX12_startAnew_24 : decode cX12_startAnew 24 = .ok (.aload_n 0, 1) := by decide +kernel
theorem dX12_startAnew_25 : decode cX12_startAnew 25 = .ok (.invokevirtual 377, 3) := by decide +kernel
theorem dX12_startAnew_28 : decode cX12_startAnew 28 = .ok (.if_icmp .ge 98, 3) := by decide +kernel
theorem dX12_startAnew_31 : decode cX12_startAnew 31 = .ok (.aload_n 0, 1) := by decide +kernel
theorem dX12_startAnew_32 : decode cX12_startAnew 32 = .ok (.getfield 88, 3) := by decide +kernel
theorem dX12_startAnew_35 : decode cX12_startAnew 35 = .ok (.iconst 0, 1) := by decide +kernel
theorem dX12_startAnew_36 : decode cX12_startAnew 36 = .ok (.iload_n 1, 1) := by decide +kernel
theorem dX12_startAnew_37 : decode cX12_startAnew 37 = .ok (.iadd, 1) := by decide +kernel
theorem dX12_startAnew_38 : decode cX12_startAnew 38 = .ok (.aload_n 0, 1) := by decide +kernel
theorem dX12_startAnew_39 : decode cX12_startAnew 39 = .ok (.aload_n 0, 1) := by decide +kernel
theorem dX12_startAnew_40 : decode cX12_startAnew 40 = .ok (.iload_n 1, 1) := by decide +kernel
theorem dX12_startAnew_41 : decode cX12_startAnew 41 = .ok (.invokevirtual 380, 3) := by decide +kernel
theorem dX12_startAnew_44 : decode cX12_startAnew 44 = .ok (.invokevirtual 383, 3) := by decide +kernel
theorem dX12_startAnew_47 : decode cX12_startAnew 47 = .ok (.iastore, 1) := by decide +kernel
theorem dX12_startAnew_48 : decode cX12_startAnew 48 = .ok (.aload_n 0, 1) := by decide +kernel
theorem dX12_startAnew_49 : decode cX12_startAnew 49 = .ok (.getfield 88, 3) := by decide +kernel
theorem dX12_startAnew_52 : decode cX12_startAnew 52 = .ok (.bipush 8, 2) := by decide +kernel
theorem dX12_startAnew_54 : decode cX12_startAnew 54 = .ok (.iload_n 1, 1) := by decide +kernel
theorem dX12_startAnew_55 : decode cX12_startAnew 55 = .ok (.iadd, 1) := by decide +kernel
theorem dX12_startAnew_56 : decode cX12_startAnew 56 = .ok (.aload_n 0, 1) := by decide +kernel
theorem dX12_startAnew_57 : decode cX12_startAnew 57 = .ok (.iload_n 1, 1) := by decide +kernel
theorem dX12_startAnew_58 : decode cX12_startAnew 58 = .ok (.invokevirtual 380, 3) := by decide +kernel
theorem dX12_startAnew_61 : decode cX12_startAnew 61 = .ok (.iastore, 1) := by decide +kernel
theorem dX12_startAnew_62 : decode cX12_startAnew 62 = .ok (.iconst 0, 1) := by decide +kernel
theorem dX12_startAnew_63 : decode cX12_startAnew 63 = .ok (.istore_n 2, 1) := by decide +kernel
theorem dX12_startAnew_64 : decode cX12_startAnew 64 = .ok (.iload_n 2, 1) := by decide +kernel
theorem dX12_startAnew_65 : decode cX12_startAnew 65 = .ok (.bipush 12, 2) := by decide +kernel
theorem dX12_startAnew_67 : decode cX12_startAnew 67 = .ok (.if_icmp .ge 53, 3) := by decide +kernel
theorem dX12_startAnew_70 : decode cX12_startAnew 70 = .ok (.aload_n 0, 1) := by decide +kernel
theorem dX12_startAnew_71 : decode cX12_startAnew 71 = .ok (.getfield 88, 3) := by decide +kernel
theorem dX12_startAnew_74 : decode cX12_startAnew 74 = .ok (.aload_n 0, 1) := by decide +kernel
theorem dX12_startAnew_75 : decode cX12_startAnew 75 = .ok (.iload_n 1, 1) := by decide +kernel
theorem dX12_startAnew_76 : decode cX12_startAnew 76 = .ok (.iload_n 2, 1) := by decide +kernel
theorem dX12_startAnew_77 : decode cX12_startAnew 77 = .ok (.invokevirtual 386, 3) := by decide +kernel
theorem dX12_startAnew_80 : decode cX12_startAnew 80 = .ok (.aload_n 0, 1) := by decide +kernel
theorem dX12_startAnew_81 : decode cX12_startAnew 81 = .ok (.getfield 88, 3) := by decide +kernel
theorem dX12_startAnew_84 : decode cX12_startAnew 84 = .ok (.iconst 0, 1) := by decide +kernel
theorem dX12_startAnew_85 : decode cX12_startAnew 85 = .ok (.iload_n 1, 1) := by decide +kernel
theorem dX12_startAnew_86 : decode cX12_startAnew 86 = .ok (.iadd, 1) := by decide +kernel
theorem dX12_startAnew_87 : decode cX12_startAnew 87 = .ok (.iaload, 1) := by decide +kernel
theorem dX12_startAnew_88 : decode cX12_startAnew 88 = .ok (.iload_n 2, 1) := by decide +kernel
theorem dX12_startAnew_89 : decode cX12_startAnew 89 = .ok (.invokestatic 256, 3) := by decide +kernel
theorem dX12_startAnew_92 : decode cX12_startAnew 92 = .ok (.ifCond .eq 20, 3) := by decide +kernel
theorem dX12_startAnew_95 : decode cX12_startAnew 95 = .ok (.aload_n 0, 1) := by decide +kernel
theorem dX12_startAnew_96 : decode cX12_startAnew 96 = .ok (.getfield 54, 3) := by decide +kernel
theorem dX12_startAnew_99 : decode cX12_startAnew 99 = .ok (.bipush 8, 2) := by decide +kernel
theorem dX12_startAnew_101 : decode cX12_startAnew 101 = .ok (.aload_n 0, 1) := by decide +kernel
theorem dX12_startAnew_102 : decode cX12_startAnew 102 = .ok (.getfield 250, 3) := by decide +kernel
theorem dX12_startAnew_105 : decode cX12_startAnew 105 = .ok (.imul, 1) := by decide +kernel
theorem dX12_startAnew_106 : decode cX12_startAnew 106 = .ok (.iload_n 1, 1) := by decide +kernel
theorem dX12_startAnew_107 : decode cX12_startAnew 107 = .ok (.iadd, 1) := by decide +kernel
theorem dX12_startAnew_108 : decode cX12_startAnew 108 = .ok (.iaload, 1) := by decide +kernel
theorem dX12_startAnew_109 : decode cX12_startAnew 109 = .ok (.goto 4, 3) := by decide +kernel
theorem dX12_startAnew_112 : decode cX12_startAnew 112 = .ok (.iconst 0, 1) := by decide +kernel
theorem dX12_startAnew_113 : decode cX12_startAnew 113 = .ok (.iastore, 1) := by decide +kernel
theorem dX12_startAnew_114 : decode cX12_startAnew 114 = .ok (.iinc 2 1, 3) := by decide +kernel
theorem dX12_startAnew_117 : decode cX12_startAnew 117 = .ok (.goto (-53), 3) := by decide +kernel
theorem dX12_startAnew_120 : decode cX12_startAnew 120 = .ok (.iinc 1 1, 3) := by decide +kernel
theorem dX12_startAnew_123 : decode cX12_startAnew 123 = .ok (.goto (-100), 3) := by decide +kernel
theorem dX12_startAnew_126 : decode cX12_startAnew 126 = .ok (.aload_n 0, 1) := by decide +kernel
theorem dX12_startAnew_127 : decode cX12_startAnew 127 = .ok (.getfield 88, 3) := by decide +kernel
theorem dX12_startAnew_130 : decode cX12_startAnew 130 = .ok (.bipush 113, 2) := by decide +kernel
theorem dX12_startAnew_132 : decode cX12_startAnew 132 = .ok (.aload_n 0, 1) := by decide +kernel
theorem dX12_startAnew_133 : decode cX12_startAnew 133 = .ok (.getfield 39, 3) := by decide +kernel
theorem dX12_startAnew_136 : decode cX12_startAnew 136 = .ok (.aload_n 0, 1) := by decide +kernel
theorem dX12_startAnew_137 : decode cX12_startAnew 137 = .ok (.getfield 250, 3) := by decide +kernel
theorem dX12_startAnew_140 : decode cX12_startAnew 140 = .ok (.iaload, 1) := by decide +kernel
theorem dX12_startAnew_141 : decode cX12_startAnew 141 = .ok (.iastore, 1) := by decide +kernel
theorem dX12_startAnew_142 : decode cX12_startAnew 142 = .ok (.aload_n 0, 1) := by decide +kernel
theorem dX12_startAnew_143 : decode cX12_startAnew 143 = .ok (.invokevirtual 389, 3) := by decide +kernel
theorem dX12_startAnew_146 : decode cX12_startAnew 146 = .ok (.aload_n 0, 1) := by decide +kernel
theorem dX12_startAnew_147 : decode cX12_startAnew 147 = .ok (.iconst 0, 1) := by decide +kernel
theorem dX12_startAnew_148 : decode cX12_startAnew 148 = .ok (.putfield 392, 3) := by decide +kernel
theorem dX12_startAnew_151 : decode cX12_startAnew 151 = .ok (.aload_n 0, 1) := by decide +kernel
theorem dX12_startAnew_152 : decode cX12_startAnew 152 = .ok (.iconst 0, 1) := by decide +kernel
theorem dX12_startAnew_153 : decode cX12_startAnew 153 = .ok (.putfield 395, 3) := by decide +kernel
theorem dX12_startAnew_156 : decode cX12_startAnew 156 = .ok (.aload_n 0, 1) := by decide +kernel
theorem dX12_startAnew_157 : decode cX12_startAnew 157 = .ok (.iconst 0, 1) := by decide +kernel
theorem dX12_startAnew_158 : decode cX12_startAnew 158 = .ok (.putfield 398, 3) := by decide +kernel
theorem dX12_startAnew_161 : decode cX12_startAnew 161 = .ok (.aload_n 0, 1) := by decide +kernel
theorem dX12_startAnew_162 : decode cX12_startAnew 162 = .ok (.iconst 0, 1) := by decide +kernel
theorem dX12_startAnew_163 : decode cX12_startAnew 163 = .ok (.putfield 401, 3) := by decide +kernel
theorem dX12_startAnew_166 : decode cX12_startAnew 166 = .ok (.iconst 0, 1) := by decide +kernel
theorem dX12_startAnew_167 : decode cX12_startAnew 167 = .ok (.istore_n 1, 1) := by decide +kernel
theorem dX12_startAnew_168 : decode cX12_startAnew 168 = .ok (.iload_n 1, 1) := by decide +kernel
theorem dX12_startAnew_169 : decode cX12_startAnew 169 = .ok (.iconst 3, 1) := by decide +kernel
theorem dX12_startAnew_170 : decode cX12_startAnew 170 = .ok (.if_icmp .ge 16, 3) := by decide +kernel
theorem dX12_startAnew_173 : decode cX12_startAnew 173 = .ok (.aload_n 0, 1) := by decide +kernel
theorem dX12_startAnew_174 : decode cX12_startAnew 174 = .ok (.getfield 130, 3) := by decide +kernel
theorem dX12_startAnew_177 : decode cX12_startAnew 177 = .ok (.iload_n 1, 1) := by decide +kernel
theorem dX12_startAnew_178 : decode cX12_startAnew 178 = .ok (.iconst 0, 1) := by decide +kernel
theorem dX12_startAnew_179 : decode cX12_startAnew 179 = .ok (.bastore, 1) := by decide +kernel
theorem dX12_startAnew_180 : decode cX12_startAnew 180 = .ok (.iinc 1 1, 3) := by decide +kernel
theorem dX12_startAnew_183 : decode cX12_startAnew 183 = .ok (.goto (-15), 3) := by decide +kernel
theorem dX12_startAnew_186 : decode cX12_startAnew 186 = .ok (.return_, 1) := by decide +kernel
theorem dX12_layPlaced_0 : decode cX12_layPlaced 0 = .ok (.iconst 0, 1) := by decide +kernel
theorem dX12_layPlaced_1 : decode cX12_layPlaced 1 = .ok (.istore_n 1, 1) := by decide +kernel
theorem dX12_layPlaced_2 : decode cX12_layPlaced 2 = .ok (.iload_n 1, 1) := by decide +kernel
theorem dX12_layPlaced_3 : decode cX12_layPlaced 3 = .ok (.aload_n 0, 1) := by decide +kernel
theorem dX12_layPlaced_4 : decode cX12_layPlaced 4 = .ok (.invokevirtual 374, 3) := by decide +kernel
theorem dX12_layPlaced_7 : decode cX12_layPlaced 7 = .ok (.aload_n 0, 1) := by decide +kernel
theorem dX12_layPlaced_8 : decode cX12_layPlaced 8 = .ok (.invokevirtual 358, 3) := by decide +kernel
theorem dX12_layPlaced_11 : decode cX12_layPlaced 11 = .ok (.imul, 1) := by decide +kernel
theorem dX12_layPlaced_12 : decode cX12_layPlaced 12 = .ok (.if_icmp .ge 35, 3) := by decide +kernel
theorem dX12_layPlaced_15 : decode cX12_layPlaced 15 = .ok (.aload_n 0, 1) := by decide +kernel
theorem dX12_layPlaced_16 : decode cX12_layPlaced 16 = .ok (.getfield 91, 3) := by decide +kernel
theorem dX12_layPlaced_19 : decode cX12_layPlaced 19 = .ok (.iload_n 1, 1) := by decide +kernel
theorem dX12_layPlaced_20 : decode cX12_layPlaced 20 = .ok (.aload_n 0, 1) := by decide +kernel
theorem dX12_layPlaced_21 : decode cX12_layPlaced 21 = .ok (.aload_n 0, 1) := by decide +kernel
theorem dX12_layPlaced_22 : decode cX12_layPlaced 22 = .ok (.iload_n 1, 1) := by decide +kernel
theorem dX12_layPlaced_23 : decode cX12_layPlaced 23 = .ok (.aload_n 0, 1) := by decide +kernel
theorem dX12_layPlaced_24 : decode cX12_layPlaced 24 = .ok (.invokevirtual 358, 3) := by decide +kernel
theorem dX12_layPlaced_27 : decode cX12_layPlaced 27 = .ok (.idiv, 1) := by decide +kernel
theorem dX12_layPlaced_28 : decode cX12_layPlaced 28 = .ok (.invokevirtual 404, 3) := by decide +kernel
theorem dX12_layPlaced_31 : decode cX12_layPlaced 31 = .ok (.iload_n 1, 1) := by decide +kernel
theorem dX12_layPlaced_32 : decode cX12_layPlaced 32 = .ok (.aload_n 0, 1) := by decide +kernel
theorem dX12_layPlaced_33 : decode cX12_layPlaced 33 = .ok (.invokevirtual 358, 3) := by decide +kernel
theorem dX12_layPlaced_36 : decode cX12_layPlaced 36 = .ok (.irem, 1) := by decide +kernel
theorem dX12_layPlaced_37 : decode cX12_layPlaced 37 = .ok (.invokevirtual 361, 3) := by decide +kernel
theorem dX12_layPlaced_40 : decode cX12_layPlaced 40 = .ok (.iastore, 1) := by decide +kernel
theorem dX12_layPlaced_41 : decode cX12_layPlaced 41 = .ok (.iinc 1 1, 3) := by decide +kernel
theorem dX12_layPlaced_44 : decode cX12_layPlaced 44 = .ok (.goto (-42), 3) := by decide +kernel
theorem dX12_layPlaced_47 : decode cX12_layPlaced 47 = .ok (.return_, 1) := by decide +kernel
theorem dX12_doesShow_0 : decode cX12_doesShow 0 = .ok (.aload_n 0, 1) := by decide +kernel
theorem dX12_doesShow_1 : decode cX12_doesShow 1 = .ok (.iload_n 1, 1) := by decide +kernel
theorem dX12_doesShow_2 : decode cX12_doesShow 2 = .ok (.putfield 327, 3) := by decide +kernel
theorem dX12_doesShow_5 : decode cX12_doesShow 5 = .ok (.aload_n 0, 1) := by decide +kernel
theorem dX12_doesShow_6 : decode cX12_doesShow 6 = .ok (.iload_n 2, 1) := by decide +kernel
theorem dX12_doesShow_7 : decode cX12_doesShow 7 = .ok (.putfield 333, 3) := by decide +kernel
theorem dX12_doesShow_10 : decode cX12_doesShow 10 = .ok (.aload_n 0, 1) := by decide +kernel
theorem dX12_doesShow_11 : decode cX12_doesShow 11 = .ok (.iload_n 3, 1) := by decide +kernel
theorem dX12_doesShow_12 : decode cX12_doesShow 12 = .ok (.putfield 324, 3) := by decide +kernel
theorem dX12_doesShow_15 : decode cX12_doesShow 15 = .ok (.aload_n 0, 1) := by decide +kernel
theorem dX12_doesShow_16 : decode cX12_doesShow 16 = .ok (.iload 4, 2) := by decide +kernel
theorem dX12_doesShow_18 : decode cX12_doesShow 18 = .ok (.putfield 336, 3) := by decide +kernel
theorem dX12_doesShow_21 : decode cX12_doesShow 21 = .ok (.aload_n 0, 1) := by decide +kernel
theorem dX12_doesShow_22 : decode cX12_doesShow 22 = .ok (.getfield 42, 3) := by decide +kernel
theorem dX12_doesShow_25 : decode cX12_doesShow 25 = .ok (.aload_n 0, 1) := by decide +kernel
theorem dX12_doesShow_26 : decode cX12_doesShow 26 = .ok (.getfield 250, 3) := by decide +kernel
theorem dX12_doesShow_29 : decode cX12_doesShow 29 = .ok (.iaload, 1) := by decide +kernel
theorem dX12_doesShow_30 : decode cX12_doesShow 30 = .ok (.iconst 0, 1) := by decide +kernel
theorem dX12_doesShow_31 : decode cX12_doesShow 31 = .ok (.invokestatic 256, 3) := by decide +kernel
theorem dX12_doesShow_34 : decode cX12_doesShow 34 = .ok (.ifCond .eq 10, 3) := by decide +kernel
theorem dX12_doesShow_37 : decode cX12_doesShow 37 = .ok (.aload_n 0, 1) := by decide +kernel
theorem dX12_doesShow_38 : decode cX12_doesShow 38 = .ok (.invokevirtual 407, 3) := by decide +kernel
theorem dX12_doesShow_41 : decode cX12_doesShow 41 = .ok (.ifCond .eq 7, 3) := by decide +kernel
theorem dX12_doesShow_44 : decode cX12_doesShow 44 = .ok (.iconst 1, 1) := by decide +kernel
theorem dX12_doesShow_45 : decode cX12_doesShow 45 = .ok (.goto 4, 3) := by decide +kernel
theorem dX12_doesShow_48 : decode cX12_doesShow 48 = .ok (.iconst 0, 1) := by decide +kernel
theorem dX12_doesShow_49 : decode cX12_doesShow 49 = .ok (.ireturn, 1) := by decide +kernel
theorem dX12_shownOf_0 : decode cX12_shownOf 0 = .ok (.iconst 0, 1) := by decide +kernel
theorem dX12_shownOf_1 : decode cX12_shownOf 1 = .ok (.istore_n 2, 1) := by decide +kernel
theorem dX12_shownOf_2 : decode cX12_shownOf 2 = .ok (.iconst 0, 1) := by decide +kernel
theorem dX12_shownOf_3 : decode cX12_shownOf 3 = .ok (.istore_n 3, 1) := by decide +kernel
theorem dX12_shownOf_4 : decode cX12_shownOf 4 = .ok (.iload_n 3, 1) := by decide +kernel
theorem dX12_shownOf_5 : decode cX12_shownOf 5 = .ok (.bipush 12, 2) := by decide +kernel
theorem dX12_shownOf_7 : decode cX12_shownOf 7 = .ok (.if_icmp .ge 57, 3) := by decide +kernel
theorem dX12_shownOf_10 : decode cX12_shownOf 10 = .ok (.aload_n 0, 1) := by decide +kernel
theorem dX12_shownOf_11 : decode cX12_shownOf 11 = .ok (.getfield 88, 3) := by decide +kernel
theorem dX12_shownOf_14 : decode cX12_shownOf 14 = .ok (.iconst 0, 1) := by decide +kernel
theorem dX12_shownOf_15 : decode cX12_shownOf 15 = .ok (.iload_n 1, 1) := by decide +kernel
theorem dX12_shownOf_16 : decode cX12_shownOf 16 = .ok (.iadd, 1) := by decide +kernel
theorem dX12_shownOf_17 : decode cX12_shownOf 17 = .ok (.iaload, 1) := by decide +kernel
theorem dX12_shownOf_18 : decode cX12_shownOf 18 = .ok (.iload_n 3, 1) := by decide +kernel
theorem dX12_shownOf_19 : decode cX12_shownOf 19 = .ok (.invokestatic 256, 3) := by decide +kernel
theorem dX12_shownOf_22 : decode cX12_shownOf 22 = .ok (.ifCond .eq 36, 3) := by decide +kernel
theorem dX12_shownOf_25 : decode cX12_shownOf 25 = .ok (.aload_n 0, 1) := by decide +kernel
theorem dX12_shownOf_26 : decode cX12_shownOf 26 = .ok (.iload_n 1, 1) := by decide +kernel
theorem dX12_shownOf_27 : decode cX12_shownOf 27 = .ok (.iload_n 3, 1) := by decide +kernel
theorem dX12_shownOf_28 : decode cX12_shownOf 28 = .ok (.aload_n 0, 1) := by decide +kernel
theorem dX12_shownOf_29 : decode cX12_shownOf 29 = .ok (.getfield 88, 3) := by decide +kernel
theorem dX12_shownOf_32 : decode cX12_shownOf 32 = .ok (.aload_n 0, 1) := by decide +kernel
theorem dX12_shownOf_33 : decode cX12_shownOf 33 = .ok (.iload_n 1, 1) := by decide +kernel
theorem dX12_shownOf_34 : decode cX12_shownOf 34 = .ok (.iload_n 3, 1) := by decide +kernel
theorem dX12_shownOf_35 : decode cX12_shownOf 35 = .ok (.invokevirtual 386, 3) := by decide +kernel
theorem dX12_shownOf_38 : decode cX12_shownOf 38 = .ok (.iaload, 1) := by decide +kernel
theorem dX12_shownOf_39 : decode cX12_shownOf 39 = .ok (.aload_n 0, 1) := by decide +kernel
theorem dX12_shownOf_40 : decode cX12_shownOf 40 = .ok (.getfield 88, 3) := by decide +kernel
theorem dX12_shownOf_43 : decode cX12_shownOf 43 = .ok (.bipush 112, 2) := by decide +kernel
theorem dX12_shownOf_45 : decode cX12_shownOf 45 = .ok (.iaload, 1) := by decide +kernel
theorem dX12_shownOf_46 : decode cX12_shownOf 46 = .ok (.invokevirtual 410, 3) := by decide +kernel
theorem dX12_shownOf_49 : decode cX12_shownOf 49 = .ok (.ifCond .eq 9, 3) := by decide +kernel
theorem dX12_shownOf_52 : decode cX12_shownOf 52 = .ok (.iload_n 2, 1) := by decide +kernel
theorem dX12_shownOf_53 : decode cX12_shownOf 53 = .ok (.iconst 1, 1) := by decide +kernel
theorem dX12_shownOf_54 : decode cX12_shownOf 54 = .ok (.iload_n 3, 1) := by decide +kernel
theorem dX12_shownOf_55 : decode cX12_shownOf 55 = .ok (.ishl, 1) := by decide +kernel
theorem dX12_shownOf_56 : decode cX12_shownOf 56 = .ok (.ior, 1) := by decide +kernel
theorem dX12_shownOf_57 : decode cX12_shownOf 57 = .ok (.istore_n 2, 1) := by decide +kernel
theorem dX12_shownOf_58 : decode cX12_shownOf 58 = .ok (.iinc 3 1, 3) := by decide +kernel
theorem dX12_shownOf_61 : decode cX12_shownOf 61 = .ok (.goto (-57), 3) := by decide +kernel
theorem dX12_shownOf_64 : decode cX12_shownOf 64 = .ok (.iload_n 2, 1) := by decide +kernel
theorem dX12_shownOf_65 : decode cX12_shownOf 65 = .ok (.ireturn, 1) := by decide +kernel
theorem dX12_brand_0 : decode cX12_brand 0 = .ok (.aload_n 0, 1) := by decide +kernel
theorem dX12_brand_1 : decode cX12_brand 1 = .ok (.iload_n 1, 1) := by decide +kernel
theorem dX12_brand_2 : decode cX12_brand 2 = .ok (.invokevirtual 414, 3) := by decide +kernel
theorem dX12_brand_5 : decode cX12_brand 5 = .ok (.ifCond .eq 11, 3) := by decide +kernel
theorem dX12_brand_8 : decode cX12_brand 8 = .ok (.aload_n 0, 1) := by decide +kernel
theorem dX12_brand_9 : decode cX12_brand 9 = .ok (.iload_n 1, 1) := by decide +kernel
theorem dX12_brand_10 : decode cX12_brand 10 = .ok (.invokevirtual 383, 3) := by decide +kernel
theorem dX12_brand_13 : decode cX12_brand 13 = .ok (.goto 4, 3) := by decide +kernel
theorem dX12_brand_16 : decode cX12_brand 16 = .ok (.iconst (-1), 1) := by decide +kernel
theorem dX12_brand_17 : decode cX12_brand 17 = .ok (.ireturn, 1) := by decide +kernel
theorem dX12_iron_0 : decode cX12_iron 0 = .ok (.aload_n 0, 1) := by decide +kernel
theorem dX12_iron_1 : decode cX12_iron 1 = .ok (.iload_n 1, 1) := by decide +kernel
theorem dX12_iron_2 : decode cX12_iron 2 = .ok (.invokevirtual 417, 3) := by decide +kernel
theorem dX12_iron_5 : decode cX12_iron 5 = .ok (.ifCond .eq 11, 3) := by decide +kernel
theorem dX12_iron_8 : decode cX12_iron 8 = .ok (.aload_n 0, 1) := by decide +kernel
theorem dX12_iron_9 : decode cX12_iron 9 = .ok (.iload_n 1, 1) := by decide +kernel
theorem dX12_iron_10 : decode cX12_iron 10 = .ok (.invokevirtual 404, 3) := by decide +kernel
theorem dX12_iron_13 : decode cX12_iron 13 = .ok (.goto 4, 3) := by decide +kernel
theorem dX12_iron_16 : decode cX12_iron 16 = .ok (.iconst (-1), 1) := by decide +kernel
theorem dX12_iron_17 : decode cX12_iron 17 = .ok (.ireturn, 1) := by decide +kernel
theorem dX12_beast_0 : decode cX12_beast 0 = .ok (.aload_n 0, 1) := by decide +kernel
theorem dX12_beast_1 : decode cX12_beast 1 = .ok (.iload_n 1, 1) := by decide +kernel
theorem dX12_beast_2 : decode cX12_beast 2 = .ok (.invokevirtual 420, 3) := by decide +kernel
theorem dX12_beast_5 : decode cX12_beast 5 = .ok (.ifCond .ne 5, 3) := by decide +kernel
theorem dX12_beast_8 : decode cX12_beast 8 = .ok (.iconst (-1), 1) := by decide +kernel
theorem dX12_beast_9 : decode cX12_beast 9 = .ok (.ireturn, 1) := by decide +kernel
theorem dX12_beast_10 : decode cX12_beast 10 = .ok (.iload_n 2, 1) := by decide +kernel
theorem dX12_beast_11 : decode cX12_beast 11 = .ok (.tableswitch 95 0 5 #[37, 46, 52, 62, 68, 83], 37) := by decide +kernel
theorem dX12_beast_48 : decode cX12_beast 48 = .ok (.aload_n 0, 1) := by decide +kernel
theorem dX12_beast_49 : decode cX12_beast 49 = .ok (.getfield 88, 3) := by decide +kernel
theorem dX12_beast_52 : decode cX12_beast 52 = .ok (.iconst 0, 1) := by decide +kernel
theorem dX12_beast_53 : decode cX12_beast 53 = .ok (.iload_n 1, 1) := by decide +kernel
theorem dX12_beast_54 : decode cX12_beast 54 = .ok (.iadd, 1) := by decide +kernel
theorem dX12_beast_55 : decode cX12_beast 55 = .ok (.iaload, 1) := by decide +kernel
theorem dX12_beast_56 : decode cX12_beast 56 = .ok (.ireturn, 1) := by decide +kernel
theorem dX12_beast_57 : decode cX12_beast 57 = .ok (.aload_n 0, 1) := by decide +kernel
theorem dX12_beast_58 : decode cX12_beast 58 = .ok (.iload_n 1, 1) := by decide +kernel
theorem dX12_beast_59 : decode cX12_beast 59 = .ok (.invokevirtual 423, 3) := by decide +kernel
theorem dX12_beast_62 : decode cX12_beast 62 = .ok (.ireturn, 1) := by decide +kernel
theorem dX12_beast_63 : decode cX12_beast 63 = .ok (.aload_n 0, 1) := by decide +kernel
theorem dX12_beast_64 : decode cX12_beast 64 = .ok (.getfield 88, 3) := by decide +kernel
theorem dX12_beast_67 : decode cX12_beast 67 = .ok (.bipush 8, 2) := by decide +kernel
theorem dX12_beast_69 : decode cX12_beast 69 = .ok (.iload_n 1, 1) := by decide +kernel
theorem dX12_beast_70 : decode cX12_beast 70 = .ok (.iadd, 1) := by decide +kernel
theorem dX12_beast_71 : decode cX12_beast 71 = .ok (.iaload, 1) := by decide +kernel
theorem dX12_beast_72 : decode cX12_beast 72 = .ok (.ireturn, 1) := by decide +kernel
theorem dX12_beast_73 : decode cX12_beast 73 = .ok (.aload_n 0, 1) := by decide +kernel
theorem dX12_beast_74 : decode cX12_beast 74 = .ok (.iload_n 1, 1) := by decide +kernel
theorem dX12_beast_75 : decode cX12_beast 75 = .ok (.invokevirtual 380, 3) := by decide +kernel
theorem dX12_beast_78 : decode cX12_beast 78 = .ok (.ireturn, 1) := by decide +kernel
theorem dX12_beast_79 : decode cX12_beast 79 = .ok (.aload_n 0, 1) := by decide +kernel
theorem dX12_beast_80 : decode cX12_beast 80 = .ok (.getfield 54, 3) := by decide +kernel
theorem dX12_beast_83 : decode cX12_beast 83 = .ok (.bipush 8, 2) := by decide +kernel
theorem dX12_beast_85 : decode cX12_beast 85 = .ok (.aload_n 0, 1) := by decide +kernel
theorem dX12_beast_86 : decode cX12_beast 86 = .ok (.getfield 250, 3) := by decide +kernel
theorem dX12_beast_89 : decode cX12_beast 89 = .ok (.imul, 1) := by decide +kernel
theorem dX12_beast_90 : decode cX12_beast 90 = .ok (.iload_n 1, 1) := by decide +kernel
theorem dX12_beast_91 : decode cX12_beast 91 = .ok (.iadd, 1) := by decide +kernel
theorem dX12_beast_92 : decode cX12_beast 92 = .ok (.iaload, 1) := by decide +kernel
theorem dX12_beast_93 : decode cX12_beast 93 = .ok (.ireturn, 1) := by decide +kernel
theorem dX12_beast_94 : decode cX12_beast 94 = .ok (.aload_n 0, 1) := by decide +kernel
theorem dX12_beast_95 : decode cX12_beast 95 = .ok (.getfield 88, 3) := by decide +kernel
theorem dX12_beast_98 : decode cX12_beast 98 = .ok (.iconst 0, 1) := by decide +kernel
theorem dX12_beast_99 : decode cX12_beast 99 = .ok (.iload_n 1, 1) := by decide +kernel
theorem dX12_beast_100 : decode cX12_beast 100 = .ok (.iadd, 1) := by decide +kernel
theorem dX12_beast_101 : decode cX12_beast 101 = .ok (.iaload, 1) := by decide +kernel
theorem dX12_beast_102 : decode cX12_beast 102 = .ok (.invokestatic 330, 3) := by decide +kernel
theorem dX12_beast_105 : decode cX12_beast 105 = .ok (.ireturn, 1) := by decide +kernel
theorem dX12_beast_106 : decode cX12_beast 106 = .ok (.iconst (-1), 1) := by decide +kernel
theorem dX12_beast_107 : decode cX12_beast 107 = .ok (.ireturn, 1) := by decide +kernel
theorem dX12_age_0 : decode cX12_age 0 = .ok (.aload_n 0, 1) := by decide +kernel
theorem dX12_age_1 : decode cX12_age 1 = .ok (.iload_n 1, 1) := by decide +kernel
theorem dX12_age_2 : decode cX12_age 2 = .ok (.invokevirtual 420, 3) := by decide +kernel
theorem dX12_age_5 : decode cX12_age 5 = .ok (.ifCond .eq 42, 3) := by decide +kernel
theorem dX12_age_8 : decode cX12_age 8 = .ok (.iload_n 2, 1) := by decide +kernel
theorem dX12_age_9 : decode cX12_age 9 = .ok (.iconst 0, 1) := by decide +kernel
theorem dX12_age_10 : decode cX12_age 10 = .ok (.bipush 11, 2) := by decide +kernel
theorem dX12_age_12 : decode cX12_age 12 = .ok (.invokestatic 370, 3) := by decide +kernel
theorem dX12_age_15 : decode cX12_age 15 = .ok (.ifCond .eq 32, 3) := by decide +kernel
theorem dX12_age_18 : decode cX12_age 18 = .ok (.aload_n 0, 1) := by decide +kernel
theorem dX12_age_19 : decode cX12_age 19 = .ok (.getfield 88, 3) := by decide +kernel
theorem dX12_age_22 : decode cX12_age 22 = .ok (.iconst 0, 1) := by decide +kernel
theorem dX12_age_23 : decode cX12_age 23 = .ok (.iload_n 1, 1) := by decide +kernel
theorem dX12_age_24 : decode cX12_age 24 = .ok (.iadd, 1) := by decide +kernel
theorem dX12_age_25 : decode cX12_age 25 = .ok (.iaload, 1) := by decide +kernel
theorem dX12_age_26 : decode cX12_age 26 = .ok (.iload_n 2, 1) := by decide +kernel
theorem dX12_age_27 : decode cX12_age 27 = .ok (.invokestatic 256, 3) := by decide +kernel
theorem dX12_age_30 : decode cX12_age 30 = .ok (.ifCond .eq 17, 3) := by decide +kernel
theorem dX12_age_33 : decode cX12_age 33 = .ok (.aload_n 0, 1) := by decide +kernel
theorem dX12_age_34 : decode cX12_age 34 = .ok (.getfield 88, 3) := by decide +kernel
theorem dX12_age_37 : decode cX12_age 37 = .ok (.aload_n 0, 1) := by decide +kernel
theorem dX12_age_38 : decode cX12_age 38 = .ok (.iload_n 1, 1) := by decide +kernel
theorem dX12_age_39 : decode cX12_age 39 = .ok (.iload_n 2, 1) := by decide +kernel
theorem dX12_age_40 : decode cX12_age 40 = .ok (.invokevirtual 386, 3) := by decide +kernel
theorem dX12_age_43 : decode cX12_age 43 = .ok (.iaload, 1) := by decide +kernel
theorem dX12_age_44 : decode cX12_age 44 = .ok (.goto 4, 3) := by decide +kernel
theorem dX12_age_47 : decode cX12_age 47 = .ok (.iconst (-1), 1) := by decide +kernel
theorem dX12_age_48 : decode cX12_age 48 = .ok (.ireturn, 1) := by decide +kernel
theorem dX12_placed_0 : decode cX12_placed 0 = .ok (.iload_n 1, 1) := by decide +kernel
theorem dX12_placed_1 : decode cX12_placed 1 = .ok (.invokestatic 426, 3) := by decide +kernel
theorem dX12_placed_4 : decode cX12_placed 4 = .ok (.ifCond .eq 26, 3) := by decide +kernel
theorem dX12_placed_7 : decode cX12_placed 7 = .ok (.iload_n 2, 1) := by decide +kernel
theorem dX12_placed_8 : decode cX12_placed 8 = .ok (.iconst 0, 1) := by decide +kernel
theorem dX12_placed_9 : decode cX12_placed 9 = .ok (.aload_n 0, 1) := by decide +kernel
theorem dX12_placed_10 : decode cX12_placed 10 = .ok (.invokevirtual 358, 3) := by decide +kernel
theorem dX12_placed_13 : decode cX12_placed 13 = .ok (.iconst 1, 1) := by decide +kernel
theorem dX12_placed_14 : decode cX12_placed 14 = .ok (.isub, 1) := by decide +kernel
theorem dX12_placed_15 : decode cX12_placed 15 = .ok (.invokestatic 370, 3) := by decide +kernel
theorem dX12_placed_18 : decode cX12_placed 18 = .ok (.ifCond .eq 12, 3) := by decide +kernel
theorem dX12_placed_21 : decode cX12_placed 21 = .ok (.aload_n 0, 1) := by decide +kernel
theorem dX12_placed_22 : decode cX12_placed 22 = .ok (.iload_n 1, 1) := by decide +kernel
theorem dX12_placed_23 : decode cX12_placed 23 = .ok (.iload_n 2, 1) := by decide +kernel
theorem dX12_placed_24 : decode cX12_placed 24 = .ok (.invokevirtual 361, 3) := by decide +kernel
theorem dX12_placed_27 : decode cX12_placed 27 = .ok (.goto 4, 3) := by decide +kernel
theorem dX12_placed_30 : decode cX12_placed 30 = .ok (.iconst (-1), 1) := by decide +kernel
theorem dX12_placed_31 : decode cX12_placed 31 = .ok (.ireturn, 1) := by decide +kernel
theorem dX12_under_0 : decode cX12_under 0 = .ok (.iload_n 1, 1) := by decide +kernel
theorem dX12_under_1 : decode cX12_under 1 = .ok (.invokestatic 426, 3) := by decide +kernel
theorem dX12_under_4 : decode cX12_under 4 = .ok (.ifCond .eq 10, 3) := by decide +kernel
theorem dX12_under_7 : decode cX12_under 7 = .ok (.iload_n 2, 1) := by decide +kernel
theorem dX12_under_8 : decode cX12_under 8 = .ok (.invokestatic 426, 3) := by decide +kernel
theorem dX12_under_11 : decode cX12_under 11 = .ok (.ifCond .ne 5, 3) := by decide +kernel
theorem dX12_under_14 : decode cX12_under 14 = .ok (.iconst (-1), 1) := by decide +kernel
theorem dX12_under_15 : decode cX12_under 15 = .ok (.ireturn, 1) := by decide +kernel
theorem dX12_under_16 : decode cX12_under 16 = .ok (.aload_n 0, 1) := by decide +kernel
theorem dX12_under_17 : decode cX12_under 17 = .ok (.iload_n 1, 1) := by decide +kernel
theorem dX12_under_18 : decode cX12_under 18 = .ok (.iload_n 2, 1) := by decide +kernel
theorem dX12_under_19 : decode cX12_under 19 = .ok (.invokevirtual 429, 3) := by decide +kernel
theorem dX12_under_22 : decode cX12_under 22 = .ok (.ifCond .eq 7, 3) := by decide +kernel
theorem dX12_under_25 : decode cX12_under 25 = .ok (.iconst 1, 1) := by decide +kernel
theorem dX12_under_26 : decode cX12_under 26 = .ok (.goto 4, 3) := by decide +kernel
theorem dX12_under_29 : decode cX12_under 29 = .ok (.iconst 0, 1) := by decide +kernel
theorem dX12_under_30 : decode cX12_under 30 = .ok (.ireturn, 1) := by decide +kernel
theorem dX12_norm_0 : decode cX12_norm 0 = .ok (.iload_n 1, 1) := by decide +kernel
theorem dX12_norm_1 : decode cX12_norm 1 = .ok (.invokestatic 426, 3) := by decide +kernel
theorem dX12_norm_4 : decode cX12_norm 4 = .ok (.ifCond .eq 11, 3) := by decide +kernel
theorem dX12_norm_7 : decode cX12_norm 7 = .ok (.aload_n 0, 1) := by decide +kernel
theorem dX12_norm_8 : decode cX12_norm 8 = .ok (.iload_n 1, 1) := by decide +kernel
theorem dX12_norm_9 : decode cX12_norm 9 = .ok (.invokevirtual 364, 3) := by decide +kernel
theorem dX12_norm_12 : decode cX12_norm 12 = .ok (.goto 4, 3) := by decide +kernel
theorem dX12_norm_15 : decode cX12_norm 15 = .ok (.iconst (-1), 1) := by decide +kernel
theorem dX12_norm_16 : decode cX12_norm 16 = .ok (.ireturn, 1) := by decide +kernel
theorem dX12_faces_0 : decode cX12_faces 0 = .ok (.iload_n 1, 1) := by decide +kernel
theorem dX12_faces_1 : decode cX12_faces 1 = .ok (.invokestatic 426, 3) := by decide +kernel
theorem dX12_faces_4 : decode cX12_faces 4 = .ok (.ifCond .ne 5, 3) := by decide +kernel
theorem dX12_faces_7 : decode cX12_faces 7 = .ok (.iconst (-1), 1) := by decide +kernel
theorem dX12_faces_8 : decode cX12_faces 8 = .ok (.ireturn, 1) := by decide +kernel
theorem dX12_faces_9 : decode cX12_faces 9 = .ok (.iconst 0, 1) := by decide +kernel
theorem dX12_faces_10 : decode cX12_faces 10 = .ok (.istore_n 2, 1) := by decide +kernel
theorem dX12_faces_11 : decode cX12_faces 11 = .ok (.iconst 0, 1) := by decide +kernel
theorem dX12_faces_12 : decode cX12_faces 12 = .ok (.istore_n 3, 1) := by decide +kernel
theorem dX12_faces_13 : decode cX12_faces 13 = .ok (.iload_n 3, 1) := by decide +kernel
theorem dX12_faces_14 : decode cX12_faces 14 = .ok (.aload_n 0, 1) := by decide +kernel
theorem dX12_faces_15 : decode cX12_faces 15 = .ok (.invokevirtual 358, 3) := by decide +kernel
theorem dX12_faces_18 : decode cX12_faces 18 = .ok (.if_icmp .ge 63, 3) := by decide +kernel
theorem dX12_faces_21 : decode cX12_faces 21 = .ok (.iconst 1, 1) := by decide +kernel
theorem dX12_faces_22 : decode cX12_faces 22 = .ok (.istore 4, 2) := by decide +kernel
theorem dX12_faces_24 : decode cX12_faces 24 = .ok (.iconst 0, 1) := by decide +kernel
theorem dX12_faces_25 : decode cX12_faces 25 = .ok (.istore 5, 2) := by decide +kernel
theorem dX12_faces_27 : decode cX12_faces 27 = .ok (.iload 5, 2) := by decide +kernel
theorem dX12_faces_29 : decode cX12_faces 29 = .ok (.iload_n 3, 1) := by decide +kernel
theorem dX12_faces_30 : decode cX12_faces 30 = .ok (.if_icmp .ge 37, 3) := by decide +kernel
theorem dX12_faces_33 : decode cX12_faces 33 = .ok (.iload 4, 2) := by decide +kernel
theorem dX12_faces_35 : decode cX12_faces 35 = .ok (.ifCond .eq 23, 3) := by decide +kernel
theorem dX12_faces_38 : decode cX12_faces 38 = .ok (.aload_n 0, 1) := by decide +kernel
theorem dX12_faces_39 : decode cX12_faces 39 = .ok (.iload_n 1, 1) := by decide +kernel
theorem dX12_faces_40 : decode cX12_faces 40 = .ok (.iload 5, 2) := by decide +kernel
theorem dX12_faces_42 : decode cX12_faces 42 = .ok (.invokevirtual 361, 3) := by decide +kernel
theorem dX12_faces_45 : decode cX12_faces 45 = .ok (.aload_n 0, 1) := by decide +kernel
theorem dX12_faces_46 : decode cX12_faces 46 = .ok (.iload_n 1, 1) := by decide +kernel
