theorem dX12_clearBank_8 : decode cX12_clearBank 8 = .ok (.iconst 1, 1) := by decide +kernel
theorem dX12_clearBank_9 : decode cX12_clearBank 9 = .ok (.iastore, 1) := by decide +kernel
theorem dX12_clearBank_10 : decode cX12_clearBank 10 = .ok (.aload_n 0, 1) := by decide +kernel
theorem dX12_clearBank_11 : decode cX12_clearBank 11 = .ok (.getfield 24, 3) := by decide +kernel
theorem dX12_clearBank_14 : decode cX12_clearBank 14 = .ok (.aload_n 0, 1) := by decide +kernel
theorem dX12_clearBank_15 : decode cX12_clearBank 15 = .ok (.getfield 241, 3) := by decide +kernel
theorem dX12_clearBank_18 : decode cX12_clearBank 18 = .ok (.iconst 0, 1) := by decide +kernel
theorem dX12_clearBank_19 : decode cX12_clearBank 19 = .ok (.iastore, 1) := by decide +kernel
theorem dX12_clearBank_20 : decode cX12_clearBank 20 = .ok (.aload_n 0, 1) := by decide +kernel
theorem dX12_clearBank_21 : decode cX12_clearBank 21 = .ok (.getfield 27, 3) := by decide +kernel
theorem dX12_clearBank_24 : decode cX12_clearBank 24 = .ok (.aload_n 0, 1) := by decide +kernel
theorem dX12_clearBank_25 : decode cX12_clearBank 25 = .ok (.getfield 241, 3) := by decide +kernel
theorem dX12_clearBank_28 : decode cX12_clearBank 28 = .ok (.iconst 0, 1) := by decide +kernel
theorem dX12_clearBank_29 : decode cX12_clearBank 29 = .ok (.iastore, 1) := by decide +kernel
theorem dX12_clearBank_30 : decode cX12_clearBank 30 = .ok (.aload_n 0, 1) := by decide +kernel
theorem dX12_clearBank_31 : decode cX12_clearBank 31 = .ok (.getfield 30, 3) := by decide +kernel
theorem dX12_clearBank_34 : decode cX12_clearBank 34 = .ok (.aload_n 0, 1) := by decide +kernel
theorem dX12_clearBank_35 : decode cX12_clearBank 35 = .ok (.getfield 241, 3) := by decide +kernel
theorem dX12_clearBank_38 : decode cX12_clearBank 38 = .ok (.iconst 0, 1) := by decide +kernel
theorem dX12_clearBank_39 : decode cX12_clearBank 39 = .ok (.iastore, 1) := by decide +kernel
theorem dX12_clearBank_40 : decode cX12_clearBank 40 = .ok (.aload_n 0, 1) := by decide +kernel
theorem dX12_clearBank_41 : decode cX12_clearBank 41 = .ok (.getfield 33, 3) := by decide +kernel
theorem dX12_clearBank_44 : decode cX12_clearBank 44 = .ok (.aload_n 0, 1) := by decide +kernel
theorem dX12_clearBank_45 : decode cX12_clearBank 45 = .ok (.getfield 241, 3) := by decide +kernel
theorem dX12_clearBank_48 : decode cX12_clearBank 48 = .ok (.iconst 0, 1) := by decide +kernel
theorem dX12_clearBank_49 : decode cX12_clearBank 49 = .ok (.iastore, 1) := by decide +kernel
theorem dX12_clearBank_50 : decode cX12_clearBank 50 = .ok (.aload_n 0, 1) := by decide +kernel
theorem dX12_clearBank_51 : decode cX12_clearBank 51 = .ok (.getfield 36, 3) := by decide +kernel
theorem dX12_clearBank_54 : decode cX12_clearBank 54 = .ok (.aload_n 0, 1) := by decide +kernel
theorem dX12_clearBank_55 : decode cX12_clearBank 55 = .ok (.getfield 241, 3) := by decide +kernel
theorem dX12_clearBank_58 : decode cX12_clearBank 58 = .ok (.iconst 0, 1) := by decide +kernel
theorem dX12_clearBank_59 : decode cX12_clearBank 59 = .ok (.iastore, 1) := by decide +kernel
theorem dX12_clearBank_60 : decode cX12_clearBank 60 = .ok (.aload_n 0, 1) := by decide +kernel
theorem dX12_clearBank_61 : decode cX12_clearBank 61 = .ok (.getfield 39, 3) := by decide +kernel
theorem dX12_clearBank_64 : decode cX12_clearBank 64 = .ok (.aload_n 0, 1) := by decide +kernel
theorem dX12_clearBank_65 : decode cX12_clearBank 65 = .ok (.getfield 241, 3) := by decide +kernel
theorem dX12_clearBank_68 : decode cX12_clearBank 68 = .ok (.iconst 0, 1) := by decide +kernel
theorem dX12_clearBank_69 : decode cX12_clearBank 69 = .ok (.iastore, 1) := by decide +kernel
theorem dX12_clearBank_70 : decode cX12_clearBank 70 = .ok (.aload_n 0, 1) := by decide +kernel
theorem dX12_clearBank_71 : decode cX12_clearBank 71 = .ok (.getfield 42, 3) := by decide +kernel
theorem dX12_clearBank_74 : decode cX12_clearBank 74 = .ok (.aload_n 0, 1) := by decide +kernel
theorem dX12_clearBank_75 : decode cX12_clearBank 75 = .ok (.getfield 241, 3) := by decide +kernel
theorem dX12_clearBank_78 : decode cX12_clearBank 78 = .ok (.iconst 0, 1) := by decide +kernel
theorem dX12_clearBank_79 : decode cX12_clearBank 79 = .ok (.iastore, 1) := by decide +kernel
theorem dX12_clearBank_80 : decode cX12_clearBank 80 = .ok (.aload_n 0, 1) := by decide +kernel
theorem dX12_clearBank_81 : decode cX12_clearBank 81 = .ok (.sipush 560, 3) := by decide +kernel
theorem dX12_clearBank_84 : decode cX12_clearBank 84 = .ok (.aload_n 0, 1) := by decide +kernel
theorem dX12_clearBank_85 : decode cX12_clearBank 85 = .ok (.getfield 241, 3) := by decide +kernel
theorem dX12_clearBank_88 : decode cX12_clearBank 88 = .ok (.imul, 1) := by decide +kernel
theorem dX12_clearBank_89 : decode cX12_clearBank 89 = .ok (.putfield 244, 3) := by decide +kernel
theorem dX12_clearBank_92 : decode cX12_clearBank 92 = .ok (.return_, 1) := by decide +kernel
theorem dX12_valley_0 : decode cX12_valley 0 = .ok (.aload_n 0, 1) := by decide +kernel
theorem dX12_valley_1 : decode cX12_valley 1 = .ok (.iconst 0, 1) := by decide +kernel
theorem dX12_valley_2 : decode cX12_valley 2 = .ok (.putfield 143, 3) := by decide +kernel
theorem dX12_valley_5 : decode cX12_valley 5 = .ok (.aload_n 0, 1) := by decide +kernel
theorem dX12_valley_6 : decode cX12_valley 6 = .ok (.iconst (-1), 1) := by decide +kernel
theorem dX12_valley_7 : decode cX12_valley 7 = .ok (.putfield 16, 3) := by decide +kernel
theorem dX12_valley_10 : decode cX12_valley 10 = .ok (.aload_n 0, 1) := by decide +kernel
theorem dX12_valley_11 : decode cX12_valley 11 = .ok (.aload_n 0, 1) := by decide +kernel
theorem dX12_valley_12 : decode cX12_valley 12 = .ok (.getfield 247, 3) := by decide +kernel
theorem dX12_valley_15 : decode cX12_valley 15 = .ok (.putfield 140, 3) := by decide +kernel
theorem dX12_valley_18 : decode cX12_valley 18 = .ok (.iconst 0, 1) := by decide +kernel
theorem dX12_valley_19 : decode cX12_valley 19 = .ok (.istore_n 1, 1) := by decide +kernel
theorem dX12_valley_20 : decode cX12_valley 20 = .ok (.iload_n 1, 1) := by decide +kernel
theorem dX12_valley_21 : decode cX12_valley 21 = .ok (.aload_n 0, 1) := by decide +kernel
theorem dX12_valley_22 : decode cX12_valley 22 = .ok (.getfield 140, 3) := by decide +kernel
theorem dX12_valley_25 : decode cX12_valley 25 = .ok (.if_icmp .ge 21, 3) := by decide +kernel
theorem dX12_valley_28 : decode cX12_valley 28 = .ok (.aload_n 0, 1) := by decide +kernel
theorem dX12_valley_29 : decode cX12_valley 29 = .ok (.getfield 13, 3) := by decide +kernel
theorem dX12_valley_32 : decode cX12_valley 32 = .ok (.iload_n 1, 1) := by decide +kernel
theorem dX12_valley_33 : decode cX12_valley 33 = .ok (.aload_n 0, 1) := by decide +kernel
theorem dX12_valley_34 : decode cX12_valley 34 = .ok (.getfield 7, 3) := by decide +kernel
theorem dX12_valley_37 : decode cX12_valley 37 = .ok (.iload_n 1, 1) := by decide +kernel
theorem dX12_valley_38 : decode cX12_valley 38 = .ok (.baload, 1) := by decide +kernel
theorem dX12_valley_39 : decode cX12_valley 39 = .ok (.bastore, 1) := by decide +kernel
theorem dX12_valley_40 : decode cX12_valley 40 = .ok (.iinc 1 1, 3) := by decide +kernel
theorem dX12_valley_43 : decode cX12_valley 43 = .ok (.goto (-23), 3) := by decide +kernel
theorem dX12_valley_46 : decode cX12_valley 46 = .ok (.aload_n 0, 1) := by decide +kernel
theorem dX12_valley_47 : decode cX12_valley 47 = .ok (.iconst 0, 1) := by decide +kernel
theorem dX12_valley_48 : decode cX12_valley 48 = .ok (.putfield 247, 3) := by decide +kernel
theorem dX12_valley_51 : decode cX12_valley 51 = .ok (.aload_n 0, 1) := by decide +kernel
theorem dX12_valley_52 : decode cX12_valley 52 = .ok (.iconst 0, 1) := by decide +kernel
theorem dX12_valley_53 : decode cX12_valley 53 = .ok (.putfield 182, 3) := by decide +kernel
theorem dX12_valley_56 : decode cX12_valley 56 = .ok (.aload_n 0, 1) := by decide +kernel
theorem dX12_valley_57 : decode cX12_valley 57 = .ok (.iconst 1, 1) := by decide +kernel
theorem dX12_valley_58 : decode cX12_valley 58 = .ok (.aload_n 0, 1) := by decide +kernel
theorem dX12_valley_59 : decode cX12_valley 59 = .ok (.getfield 250, 3) := by decide +kernel
theorem dX12_valley_62 : decode cX12_valley 62 = .ok (.isub, 1) := by decide +kernel
theorem dX12_valley_63 : decode cX12_valley 63 = .ok (.putfield 241, 3) := by decide +kernel
theorem dX12_valley_66 : decode cX12_valley 66 = .ok (.aload_n 0, 1) := by decide +kernel
theorem dX12_valley_67 : decode cX12_valley 67 = .ok (.invokevirtual 134, 3) := by decide +kernel
theorem dX12_valley_70 : decode cX12_valley 70 = .ok (.aload_n 0, 1) := by decide +kernel
theorem dX12_valley_71 : decode cX12_valley 71 = .ok (.invokevirtual 224, 3) := by decide +kernel
theorem dX12_valley_74 : decode cX12_valley 74 = .ok (.aload_n 0, 1) := by decide +kernel
theorem dX12_valley_75 : decode cX12_valley 75 = .ok (.invokevirtual 220, 3) := by decide +kernel
theorem dX12_valley_78 : decode cX12_valley 78 = .ok (.ifCond .eq 17, 3) := by decide +kernel
theorem dX12_valley_81 : decode cX12_valley 81 = .ok (.aload_n 0, 1) := by decide +kernel
theorem dX12_valley_82 : decode cX12_valley 82 = .ok (.getfield 192, 3) := by decide +kernel
theorem dX12_valley_85 : decode cX12_valley 85 = .ok (.ifCond .eq 10, 3) := by decide +kernel
theorem dX12_valley_88 : decode cX12_valley 88 = .ok (.aload_n 0, 1) := by decide +kernel
theorem dX12_valley_89 : decode cX12_valley 89 = .ok (.invokevirtual 253, 3) := by decide +kernel
theorem dX12_valley_92 : decode cX12_valley 92 = .ok (.goto (-18), 3) := by decide +kernel
theorem dX12_valley_95 : decode cX12_valley 95 = .ok (.aload_n 0, 1) := by decide +kernel
theorem dX12_valley_96 : decode cX12_valley 96 = .ok (.invokevirtual 220, 3) := by decide +kernel
theorem dX12_valley_99 : decode cX12_valley 99 = .ok (.ifCond .ne 5, 3) := by decide +kernel
theorem dX12_valley_102 : decode cX12_valley 102 = .ok (.iconst (-1), 1) := by decide +kernel
theorem dX12_valley_103 : decode cX12_valley 103 = .ok (.ireturn, 1) := by decide +kernel
theorem dX12_valley_104 : decode cX12_valley 104 = .ok (.aload_n 0, 1) := by decide +kernel
theorem dX12_valley_105 : decode cX12_valley 105 = .ok (.aload_n 0, 1) := by decide +kernel
theorem dX12_valley_106 : decode cX12_valley 106 = .ok (.getfield 241, 3) := by decide +kernel
theorem dX12_valley_109 : decode cX12_valley 109 = .ok (.putfield 250, 3) := by decide +kernel
theorem dX12_valley_112 : decode cX12_valley 112 = .ok (.aload_n 0, 1) := by decide +kernel
theorem dX12_valley_113 : decode cX12_valley 113 = .ok (.invokevirtual 137, 3) := by decide +kernel
theorem dX12_valley_116 : decode cX12_valley 116 = .ok (.aload_n 0, 1) := by decide +kernel
theorem dX12_valley_117 : decode cX12_valley 117 = .ok (.getfield 24, 3) := by decide +kernel
theorem dX12_valley_120 : decode cX12_valley 120 = .ok (.aload_n 0, 1) := by decide +kernel
theorem dX12_valley_121 : decode cX12_valley 121 = .ok (.getfield 250, 3) := by decide +kernel
theorem dX12_valley_124 : decode cX12_valley 124 = .ok (.iaload, 1) := by decide +kernel
theorem dX12_valley_125 : decode cX12_valley 125 = .ok (.ireturn, 1) := by decide +kernel
theorem dX12_isFull_0 : decode cX12_isFull 0 = .ok (.aload_n 0, 1) := by decide +kernel
theorem dX12_isFull_1 : decode cX12_isFull 1 = .ok (.ldc2_w 146, 3) := by decide +kernel
theorem dX12_isFull_4 : decode cX12_isFull 4 = .ok (.invokevirtual 230, 3) := by decide +kernel
theorem dX12_isFull_7 : decode cX12_isFull 7 = .ok (.ifCond .eq 17, 3) := by decide +kernel
theorem dX12_isFull_10 : decode cX12_isFull 10 = .ok (.aload_n 0, 1) := by decide +kernel
theorem dX12_isFull_11 : decode cX12_isFull 11 = .ok (.getfield 42, 3) := by decide +kernel
theorem dX12_isFull_14 : decode cX12_isFull 14 = .ok (.aload_n 0, 1) := by decide +kernel
theorem dX12_isFull_15 : decode cX12_isFull 15 = .ok (.getfield 241, 3) := by decide +kernel
theorem dX12_isFull_18 : decode cX12_isFull 18 = .ok (.iaload, 1) := by decide +kernel
theorem dX12_isFull_19 : decode cX12_isFull 19 = .ok (.iconst 1, 1) := by decide +kernel
theorem dX12_isFull_20 : decode cX12_isFull 20 = .ok (.invokestatic 256, 3) := by decide +kernel
theorem dX12_isFull_23 : decode cX12_isFull 23 = .ok (.ireturn, 1) := by decide +kernel
theorem dX12_isFull_24 : decode cX12_isFull 24 = .ok (.aload_n 0, 1) := by decide +kernel
theorem dX12_isFull_25 : decode cX12_isFull 25 = .ok (.ldc2_w 148, 3) := by decide +kernel
theorem dX12_isFull_28 : decode cX12_isFull 28 = .ok (.invokevirtual 230, 3) := by decide +kernel
theorem dX12_isFull_31 : decode cX12_isFull 31 = .ok (.ifCond .eq 17, 3) := by decide +kernel
theorem dX12_isFull_34 : decode cX12_isFull 34 = .ok (.aload_n 0, 1) := by decide +kernel
theorem dX12_isFull_35 : decode cX12_isFull 35 = .ok (.getfield 42, 3) := by decide +kernel
theorem dX12_isFull_38 : decode cX12_isFull 38 = .ok (.aload_n 0, 1) := by decide +kernel
theorem dX12_isFull_39 : decode cX12_isFull 39 = .ok (.getfield 241, 3) := by decide +kernel
theorem dX12_isFull_42 : decode cX12_isFull 42 = .ok (.iaload, 1) := by decide +kernel
theorem dX12_isFull_43 : decode cX12_isFull 43 = .ok (.iconst 2, 1) := by decide +kernel
theorem dX12_isFull_44 : decode cX12_isFull 44 = .ok (.invokestatic 256, 3) := by decide +kernel
theorem dX12_isFull_47 : decode cX12_isFull 47 = .ok (.ireturn, 1) := by decide +kernel
theorem dX12_isFull_48 : decode cX12_isFull 48 = .ok (.aload_n 0, 1) := by decide +kernel
theorem dX12_isFull_49 : decode cX12_isFull 49 = .ok (.ldc2_w 150, 3) := by decide +kernel
theorem dX12_isFull_52 : decode cX12_isFull 52 = .ok (.invokevirtual 230, 3) := by decide +kernel
theorem dX12_isFull_55 : decode cX12_isFull 55 = .ok (.ifCond .eq 23, 3) := by decide +kernel
theorem dX12_isFull_58 : decode cX12_isFull 58 = .ok (.aload_n 0, 1) := by decide +kernel
theorem dX12_isFull_59 : decode cX12_isFull 59 = .ok (.getfield 24, 3) := by decide +kernel
theorem dX12_isFull_62 : decode cX12_isFull 62 = .ok (.aload_n 0, 1) := by decide +kernel
theorem dX12_isFull_63 : decode cX12_isFull 63 = .ok (.getfield 241, 3) := by decide +kernel
theorem dX12_isFull_66 : decode cX12_isFull 66 = .ok (.iaload, 1) := by decide +kernel
theorem dX12_isFull_67 : decode cX12_isFull 67 = .ok (.bipush 8, 2) := by decide +kernel
theorem dX12_isFull_69 : decode cX12_isFull 69 = .ok (.if_icmp .ne 7, 3) := by decide +kernel
theorem dX12_isFull_72 : decode cX12_isFull 72 = .ok (.iconst 1, 1) := by decide +kernel
theorem dX12_isFull_73 : decode cX12_isFull 73 = .ok (.goto 4, 3) := by decide +kernel
theorem dX12_isFull_76 : decode cX12_isFull 76 = .ok (.iconst 0, 1) := by decide +kernel
theorem dX12_isFull_77 : decode cX12_isFull 77 = .ok (.ireturn, 1) := by decide +kernel
theorem dX12_isFull_78 : decode cX12_isFull 78 = .ok (.aload_n 0, 1) := by decide +kernel
theorem dX12_isFull_79 : decode cX12_isFull 79 = .ok (.ldc2_w 154, 3) := by decide +kernel
theorem dX12_isFull_82 : decode cX12_isFull 82 = .ok (.invokevirtual 230, 3) := by decide +kernel
theorem dX12_isFull_85 : decode cX12_isFull 85 = .ok (.ifCond .eq 23, 3) := by decide +kernel
theorem dX12_isFull_88 : decode cX12_isFull 88 = .ok (.aload_n 0, 1) := by decide +kernel
theorem dX12_isFull_89 : decode cX12_isFull 89 = .ok (.getfield 27, 3) := by decide +kernel
theorem dX12_isFull_92 : decode cX12_isFull 92 = .ok (.aload_n 0, 1) := by decide +kernel
theorem dX12_isFull_93 : decode cX12_isFull 93 = .ok (.getfield 241, 3) := by decide +kernel
theorem dX12_isFull_96 : decode cX12_isFull 96 = .ok (.iaload, 1) := by decide +kernel
theorem dX12_isFull_97 : decode cX12_isFull 97 = .ok (.bipush 6, 2) := by decide +kernel
theorem dX12_isFull_99 : decode cX12_isFull 99 = .ok (.if_icmp .ne 7, 3) := by decide +kernel
theorem dX12_isFull_102 : decode cX12_isFull 102 = .ok (.iconst 1, 1) := by decide +kernel
theorem dX12_isFull_103 : decode cX12_isFull 103 = .ok (.goto 4, 3) := by decide +kernel
theorem dX12_isFull_106 : decode cX12_isFull 106 = .ok (.iconst 0, 1) := by decide +kernel
theorem dX12_isFull_107 : decode cX12_isFull 107 = .ok (.ireturn, 1) := by decide +kernel
theorem dX12_isFull_108 : decode cX12_isFull 108 = .ok (.aload_n 0, 1) := by decide +kernel
theorem dX12_isFull_109 : decode cX12_isFull 109 = .ok (.ldc2_w 156, 3) := by decide +kernel
theorem dX12_isFull_112 : decode cX12_isFull 112 = .ok (.invokevirtual 230, 3) := by decide +kernel
theorem dX12_isFull_115 : decode cX12_isFull 115 = .ok (.ifCond .eq 23, 3) := by decide +kernel
theorem dX12_isFull_118 : decode cX12_isFull 118 = .ok (.aload_n 0, 1) := by decide +kernel
theorem dX12_isFull_119 : decode cX12_isFull 119 = .ok (.getfield 30, 3) := by decide +kernel
theorem dX12_isFull_122 : decode cX12_isFull 122 = .ok (.aload_n 0, 1) := by decide +kernel
theorem dX12_isFull_123 : decode cX12_isFull 123 = .ok (.getfield 241, 3) := by decide +kernel
theorem dX12_isFull_126 : decode cX12_isFull 126 = .ok (.iaload, 1) := by decide +kernel
theorem dX12_isFull_127 : decode cX12_isFull 127 = .ok (.bipush 8, 2) := by decide +kernel
theorem dX12_isFull_129 : decode cX12_isFull 129 = .ok (.if_icmp .ne 7, 3) := by decide +kernel
theorem dX12_isFull_132 : decode cX12_isFull 132 = .ok (.iconst 1, 1) := by decide +kernel
theorem dX12_isFull_133 : decode cX12_isFull 133 = .ok (.goto 4, 3) := by decide +kernel
theorem dX12_isFull_136 : decode cX12_isFull 136 = .ok (.iconst 0, 1) := by decide +kernel
theorem dX12_isFull_137 : decode cX12_isFull 137 = .ok (.ireturn, 1) := by decide +kernel
theorem dX12_isFull_138 : decode cX12_isFull 138 = .ok (.aload_n 0, 1) := by decide +kernel
theorem dX12_isFull_139 : decode cX12_isFull 139 = .ok (.ldc2_w 162, 3) := by decide +kernel
theorem dX12_isFull_142 : decode cX12_isFull 142 = .ok (.invokevirtual 230, 3) := by decide +kernel
theorem dX12_isFull_145 : decode cX12_isFull 145 = .ok (.ifCond .eq 17, 3) := by decide +kernel
theorem dX12_isFull_148 : decode cX12_isFull 148 = .ok (.aload_n 0, 1) := by decide +kernel
theorem dX12_isFull_149 : decode cX12_isFull 149 = .ok (.getfield 42, 3) := by decide +kernel
theorem dX12_isFull_152 : decode cX12_isFull 152 = .ok (.aload_n 0, 1) := by decide +kernel
theorem dX12_isFull_153 : decode cX12_isFull 153 = .ok (.getfield 241, 3) := by decide +kernel
theorem dX12_isFull_156 : decode cX12_isFull 156 = .ok (.iaload, 1) := by decide +kernel
theorem dX12_isFull_157 : decode cX12_isFull 157 = .ok (.iconst 0, 1) := by decide +kernel
theorem dX12_isFull_158 : decode cX12_isFull 158 = .ok (.invokestatic 256, 3) := by decide +kernel
theorem dX12_isFull_161 : decode cX12_isFull 161 = .ok (.ireturn, 1) := by decide +kernel
theorem dX12_isFull_162 : decode cX12_isFull 162 = .ok (.aload_n 0, 1) := by decide +kernel
theorem dX12_isFull_163 : decode cX12_isFull 163 = .ok (.ldc2_w 164, 3) := by decide +kernel
theorem dX12_isFull_166 : decode cX12_isFull 166 = .ok (.invokevirtual 230, 3) := by decide +kernel
theorem dX12_isFull_169 : decode cX12_isFull 169 = .ok (.ifCond .eq 17, 3) := by decide +kernel
theorem dX12_isFull_172 : decode cX12_isFull 172 = .ok (.aload_n 0, 1) := by decide +kernel
theorem dX12_isFull_173 : decode cX12_isFull 173 = .ok (.getfield 42, 3) := by decide +kernel
theorem dX12_isFull_176 : decode cX12_isFull 176 = .ok (.aload_n 0, 1) := by decide +kernel
theorem dX12_isFull_177 : decode cX12_isFull 177 = .ok (.getfield 241, 3) := by decide +kernel
theorem dX12_isFull_180 : decode cX12_isFull 180 = .ok (.iaload, 1) := by decide +kernel
theorem dX12_isFull_181 : decode cX12_isFull 181 = .ok (.iconst 3, 1) := by decide +kernel
theorem dX12_isFull_182 : decode cX12_isFull 182 = .ok (.invokestatic 256, 3) := by decide +kernel
theorem dX12_isFull_185 : decode cX12_isFull 185 = .ok (.ireturn, 1) := by decide +kernel
theorem dX12_isFull_186 : decode cX12_isFull 186 = .ok (.aload_n 0, 1) := by decide +kernel
theorem dX12_isFull_187 : decode cX12_isFull 187 = .ok (.ldc2_w 166, 3) := by decide +kernel
theorem dX12_isFull_190 : decode cX12_isFull 190 = .ok (.invokevirtual 230, 3) := by decide +kernel
theorem dX12_isFull_193 : decode cX12_isFull 193 = .ok (.ifCond .eq 19, 3) := by decide +kernel
theorem dX12_isFull_196 : decode cX12_isFull 196 = .ok (.aload_n 0, 1) := by decide +kernel
theorem dX12_isFull_197 : decode cX12_isFull 197 = .ok (.getfield 42, 3) := by decide +kernel
theorem dX12_isFull_200 : decode cX12_isFull 200 = .ok (.aload_n 0, 1) := by decide +kernel
theorem dX12_isFull_201 : decode cX12_isFull 201 = .ok (.getfield 241, 3) := by decide +kernel
theorem dX12_isFull_204 : decode cX12_isFull 204 = .ok (.iaload, 1) := by decide +kernel
theorem dX12_isFull_205 : decode cX12_isFull 205 = .ok (.iconst 4, 1) := by decide +kernel
theorem dX12_isFull_206 : decode cX12_isFull 206 = .ok (.invokestatic 256, 3) := by decide +kernel
theorem dX12_isFull_209 : decode cX12_isFull 209 = .ok (.ifCond .eq 7, 3) := by decide +kernel
theorem dX12_isFull_212 : decode cX12_isFull 212 = .ok (.iconst 1, 1) := by decide +kernel
theorem dX12_isFull_213 : decode cX12_isFull 213 = .ok (.goto 4, 3) := by decide +kernel
theorem dX12_isFull_216 : decode cX12_isFull 216 = .ok (.iconst 0, 1) := by decide +kernel
theorem dX12_isFull_217 : decode cX12_isFull 217 = .ok (.ireturn, 1) := by decide +kernel
theorem dX12_readLine_0 : decode cX12_readLine 0 = .ok (.aload_n 0, 1) := by decide +kernel
theorem dX12_readLine_1 : decode cX12_readLine 1 = .ok (.getfield 199, 3) := by decide +kernel
theorem dX12_readLine_4 : decode cX12_readLine 4 = .ok (.lstore_n 1, 1) := by decide +kernel
theorem dX12_readLine_5 : decode cX12_readLine 5 = .ok (.aload_n 0, 1) := by decide +kernel
theorem dX12_readLine_6 : decode cX12_readLine 6 = .ok (.getfield 192, 3) := by decide +kernel
theorem dX12_readLine_9 : decode cX12_readLine 9 = .ok (.iconst 3, 1) := by decide +kernel
theorem dX12_readLine_10 : decode cX12_readLine 10 = .ok (.if_icmp .ne 10, 3) := by decide +kernel
theorem dX12_readLine_13 : decode cX12_readLine 13 = .ok (.aload_n 0, 1) := by decide +kernel
theorem dX12_readLine_14 : decode cX12_readLine 14 = .ok (.invokevirtual 260, 3) := by decide +kernel
theorem dX12_readLine_17 : decode cX12_readLine 17 = .ok (.ifCond .eq 7, 3) := by decide +kernel
theorem dX12_readLine_20 : decode cX12_readLine 20 = .ok (.aload_n 0, 1) := by decide +kernel
theorem dX12_readLine_21 : decode cX12_readLine 21 = .ok (.invokevirtual 227, 3) := by decide +kernel
theorem dX12_readLine_24 : decode cX12_readLine 24 = .ok (.aload_n 0, 1) := by decide +kernel
theorem dX12_readLine_25 : decode cX12_readLine 25 = .ok (.invokevirtual 220, 3) := by decide +kernel
theorem dX12_readLine_28 : decode cX12_readLine 28 = .ok (.ifCond .ne 4, 3) := by decide +kernel
theorem dX12_readLine_31 : decode cX12_readLine 31 = .ok (.return_, 1) := by decide +kernel
theorem dX12_readLine_32 : decode cX12_readLine 32 = .ok (.aload_n 0, 1) := by decide +kernel
theorem dX12_readLine_33 : decode cX12_readLine 33 = .ok (.invokevirtual 224, 3) := by decide +kernel
theorem dX12_readLine_36 : decode cX12_readLine 36 = .ok (.lload_n 1, 1) := by decide +kernel
theorem dX12_readLine_37 : decode cX12_readLine 37 = .ok (.ldc2_w 146, 3) := by decide +kernel
theorem dX12_readLine_40 : decode cX12_readLine 40 = .ok (.lcmp, 1) := by decide +kernel
theorem dX12_readLine_41 : decode cX12_readLine 41 = .ok (.ifCond .ne 7, 3) := by decide +kernel
theorem dX12_readLine_44 : decode cX12_readLine 44 = .ok (.aload_n 0, 1) := by decide +kernel
theorem dX12_readLine_45 : decode cX12_readLine 45 = .ok (.invokevirtual 263, 3) := by decide +kernel
theorem dX12_readLine_48 : decode cX12_readLine 48 = .ok (.lload_n 1, 1) := by decide +kernel
theorem dX12_readLine_49 : decode cX12_readLine 49 = .ok (.ldc2_w 148, 3) := by decide +kernel
theorem dX12_readLine_52 : decode cX12_readLine 52 = .ok (.lcmp, 1) := by decide +kernel
theorem dX12_readLine_53 : decode cX12_readLine 53 = .ok (.ifCond .ne 16, 3) := by decide +kernel
theorem dX12_readLine_56 : decode cX12_readLine 56 = .ok (.aload_n 0, 1) := by decide +kernel
theorem dX12_readLine_57 : decode cX12_readLine 57 = .ok (.getfield 42, 3) := by decide +kernel
theorem dX12_readLine_60 : decode cX12_readLine 60 = .ok (.aload_n 0, 1) := by decide +kernel
theorem dX12_readLine_61 : decode cX12_readLine 61 = .ok (.getfield 241, 3) := by decide +kernel
theorem dX12_readLine_64 : decode cX12_readLine 64 = .ok (.dup2, 1) := by decide +kernel
theorem dX12_readLine_65 : decode cX12_readLine 65 = .ok (.iaload, 1) := by decide +kernel
theorem dX12_readLine_66 : decode cX12_readLine 66 = .ok (.iconst 4, 1) := by decide +kernel
theorem dX12_readLine_67 : decode cX12_readLine 67 = .ok (.ior, 1) := by decide +kernel
theorem dX12_readLine_68 : decode cX12_readLine 68 = .ok (.iastore, 1) := by decide +kernel
theorem dX12_readLine_69 : decode cX12_readLine 69 = .ok (.lload_n 1, 1) := by decide +kernel
theorem dX12_readLine_70 : decode cX12_readLine 70 = .ok (.ldc2_w 150, 3) := by decide +kernel
theorem dX12_readLine_73 : decode cX12_readLine 73 = .ok (.lcmp, 1) := by decide +kernel
theorem dX12_readLine_74 : decode cX12_readLine 74 = .ok (.ifCond .ne 92, 3) := by decide +kernel
theorem dX12_readLine_77 : decode cX12_readLine 77 = .ok (.aload_n 0, 1) := by decide +kernel
theorem dX12_readLine_78 : decode cX12_readLine 78 = .ok (.getfield 63, 3) := by decide +kernel
theorem dX12_readLine_81 : decode cX12_readLine 81 = .ok (.bipush 8, 2) := by decide +kernel
theorem dX12_readLine_83 : decode cX12_readLine 83 = .ok (.aload_n 0, 1) := by decide +kernel
theorem dX12_readLine_84 : decode cX12_readLine 84 = .ok (.getfield 241, 3) := by decide +kernel
theorem dX12_readLine_87 : decode cX12_readLine 87 = .ok (.imul, 1) := by decide +kernel
theorem dX12_readLine_88 : decode cX12_readLine 88 = .ok (.aload_n 0, 1) := by decide +kernel
theorem dX12_readLine_89 : decode cX12_readLine 89 = .ok (.getfield 24, 3) := by decide +kernel
theorem dX12_readLine_92 : decode cX12_readLine 92 = .ok (.aload_n 0, 1) := by decide +kernel
theorem dX12_readLine_93 : decode cX12_readLine 93 = .ok (.getfield 241, 3) := by decide +kernel
theorem dX12_readLine_96 : decode cX12_readLine 96 = .ok (.iaload, 1) := by decide +kernel
theorem dX12_readLine_97 : decode cX12_readLine 97 = .ok (.iadd, 1) := by decide +kernel
theorem dX12_readLine_98 : decode cX12_readLine 98 = .ok (.aload_n 0, 1) := by decide +kernel
theorem dX12_readLine_99 : decode cX12_readLine 99 = .ok (.aload_n 0, 1) := by decide +kernel
theorem dX12_readLine_100 : decode cX12_readLine 100 = .ok (.aload_n 0, 1) := by decide +kernel
theorem dX12_readLine_101 : decode cX12_readLine 101 = .ok (.getfield 63, 3) := by decide +kernel
theorem dX12_readLine_104 : decode cX12_readLine 104 = .ok (.bipush 8, 2) := by decide +kernel
theorem dX12_readLine_106 : decode cX12_readLine 106 = .ok (.aload_n 0, 1) := by decide +kernel
theorem dX12_readLine_107 : decode cX12_readLine 107 = .ok (.getfield 241, 3) := by decide +kernel
theorem dX12_readLine_110 : decode cX12_readLine 110 = .ok (.imul, 1) := by decide +kernel
theorem dX12_readLine_111 : decode cX12_readLine 111 = .ok (.aload_n 0, 1) := by decide +kernel
theorem dX12_readLine_112 : decode cX12_readLine 112 = .ok (.getfield 24, 3) := by decide +kernel
theorem dX12_readLine_115 : decode cX12_readLine 115 = .ok (.aload_n 0, 1) := by decide +kernel
theorem dX12_readLine_116 : decode cX12_readLine 116 = .ok (.getfield 241, 3) := by decide +kernel
theorem dX12_readLine_119 : decode cX12_readLine 119 = .ok (.iaload, 1) := by decide +kernel
theorem dX12_readLine_120 : decode cX12_readLine 120 = .ok (.invokevirtual 266, 3) := by decide +kernel
theorem dX12_readLine_123 : decode cX12_readLine 123 = .ok (.invokevirtual 270, 3) := by decide +kernel
theorem dX12_readLine_126 : decode cX12_readLine 126 = .ok (.lastore, 1) := by decide +kernel
theorem dX12_readLine_127 : decode cX12_readLine 127 = .ok (.aload_n 0, 1) := by decide +kernel
theorem dX12_readLine_128 : decode cX12_readLine 128 = .ok (.getfield 45, 3) := by decide +kernel
theorem dX12_readLine_131 : decode cX12_readLine 131 = .ok (.bipush 8, 2) := by decide +kernel
theorem dX12_readLine_133 : decode cX12_readLine 133 = .ok (.aload_n 0, 1) := by decide +kernel
theorem dX12_readLine_134 : decode cX12_readLine 134 = .ok (.getfield 241, 3) := by decide +kernel
theorem dX12_readLine_137 : decode cX12_readLine 137 = .ok (.imul, 1) := by decide +kernel
theorem dX12_readLine_138 : decode cX12_readLine 138 = .ok (.aload_n 0, 1) := by decide +kernel
theorem dX12_readLine_139 : decode cX12_readLine 139 = .ok (.getfield 24, 3) := by decide +kernel
theorem dX12_readLine_142 : decode cX12_readLine 142 = .ok (.aload_n 0, 1) := by decide +kernel
theorem dX12_readLine_143 : decode cX12_readLine 143 = .ok (.getfield 241, 3) := by decide +kernel
theorem dX12_readLine_146 : decode cX12_readLine 146 = .ok (.iaload, 1) := by decide +kernel
theorem dX12_readLine_147 : decode cX12_readLine 147 = .ok (.iadd, 1) := by decide +kernel
theorem dX12_readLine_148 : decode cX12_readLine 148 = .ok (.aload_n 0, 1) := by decide +kernel
theorem dX12_readLine_149 : decode cX12_readLine 149 = .ok (.invokevirtual 274, 3) := by decide +kernel
theorem dX12_readLine_152 : decode cX12_readLine 152 = .ok (.iastore, 1) := by decide +kernel
theorem dX12_readLine_153 : decode cX12_readLine 153 = .ok (.aload_n 0, 1) := by decide +kernel
theorem dX12_readLine_154 : decode cX12_readLine 154 = .ok (.getfield 24, 3) := by decide +kernel
theorem dX12_readLine_157 : decode cX12_readLine 157 = .ok (.aload_n 0, 1) := by decide +kernel
theorem dX12_readLine_158 : decode cX12_readLine 158 = .ok (.getfield 241, 3) := by decide +kernel
theorem dX12_readLine_161 : decode cX12_readLine 161 = .ok (.dup2, 1) := by decide +kernel
theorem dX12_readLine_162 : decode cX12_readLine 162 = .ok (.iaload, 1) := by decide +kernel
theorem dX12_readLine_163 : decode cX12_readLine 163 = .ok (.iconst 1, 1) := by decide +kernel
theorem dX12_readLine_164 : decode cX12_readLine 164 = .ok (.iadd, 1) := by decide +kernel
theorem dX12_readLine_165 : decode cX12_readLine 165 = .ok (.iastore, 1) := by decide +kernel
theorem dX12_readLine_166 : decode cX12_readLine 166 = .ok (.lload_n 1, 1) := by decide +kernel
theorem dX12_readLine_167 : decode cX12_readLine 167 = .ok (.ldc2_w 154, 3) := by decide +kernel
theorem dX12_readLine_170 : decode cX12_readLine 170 = .ok (.lcmp, 1) := by decide +kernel
theorem dX12_readLine_171 : decode cX12_readLine 171 = .ok (.ifCond .ne 92, 3) := by decide +kernel
theorem dX12_readLine_174 : decode cX12_readLine 174 = .ok (.aload_n 0, 1) := by decide +kernel
theorem dX12_readLine_175 : decode cX12_readLine 175 = .ok (.getfield 67, 3) := by decide +kernel
theorem dX12_readLine_178 : decode cX12_readLine 178 = .ok (.bipush 6, 2) := by decide +kernel
theorem dX12_readLine_180 : decode cX12_readLine 180 = .ok (.aload_n 0, 1) := by decide +kernel
theorem dX12_readLine_181 : decode cX12_readLine 181 = .ok (.getfield 241, 3) := by decide +kernel
theorem dX12_readLine_184 : decode cX12_readLine 184 = .ok (.imul, 1) := by decide +kernel
theorem dX12_readLine_185 : decode cX12_readLine 185 = .ok (.aload_n 0, 1) := by decide +kernel
theorem dX12_readLine_186 : decode cX12_readLine 186 = .ok (.getfield 27, 3) := by decide +kernel
theorem dX12_readLine_189 : decode cX12_readLine 189 = .ok (.aload_n 0, 1) := by decide +kernel
theorem dX12_readLine_190 : decode cX12_readLine 190 = .ok (.getfield 241, 3) := by decide +kernel
theorem dX12_readLine_193 : decode cX12_readLine 193 = .ok (.iaload, 1) := by decide +kernel
theorem dX12_readLine_194 : decode cX12_readLine 194 = .ok (.iadd, 1) := by decide +kernel
theorem dX12_readLine_195 : decode cX12_readLine 195 = .ok (.aload_n 0, 1) := by decide +kernel
theorem dX12_readLine_196 : decode cX12_readLine 196 = .ok (.aload_n 0, 1) := by decide +kernel
theorem dX12_readLine_197 : decode cX12_readLine 197 = .ok (.aload_n 0, 1) := by decide +kernel
theorem dX12_readLine_198 : decode cX12_readLine 198 = .ok (.getfield 67, 3) := by decide +kernel
theorem dX12_readLine_201 : decode cX12_readLine 201 = .ok (.bipush 6, 2) := by decide +kernel
theorem dX12_readLine_203 : decode cX12_readLine 203 = .ok (.aload_n 0, 1) := by decide +kernel
theorem dX12_readLine_204 : decode cX12_readLine 204 = .ok (.getfield 241, 3) := by decide +kernel
theorem dX12_readLine_207 : decode cX12_readLine 207 = .ok (.imul, 1) := by decide +kernel
theorem dX12_readLine_208 : decode cX12_readLine 208 = .ok (.aload_n 0, 1) := by decide +kernel
theorem dX12_readLine_209 : decode cX12_readLine 209 = .ok (.getfield 27, 3) := by decide +kernel
theorem dX12_readLine_212 : decode cX12_readLine 212 = .ok (.aload_n 0, 1) := by decide +kernel
theorem dX12_readLine_213 : decode cX12_readLine 213 = .ok (.getfield 241, 3) := by decide +kernel
theorem dX12_readLine_216 : decode cX12_readLine 216 = .ok (.iaload, 1) := by decide +kernel
theorem dX12_readLine_217 : decode cX12_readLine 217 = .ok (.invokevirtual 266, 3) := by decide +kernel
theorem dX12_readLine_220 : decode cX12_readLine 220 = .ok (.invokevirtual 270, 3) := by decide +kernel
theorem dX12_readLine_223 : decode cX12_readLine 223 = .ok (.lastore, 1) := by decide +kernel
theorem dX12_readLine_224 : decode cX12_readLine 224 = .ok (.aload_n 0, 1) := by decide +kernel
theorem dX12_readLine_225 : decode cX12_readLine 225 = .ok (.getfield 48, 3) := by decide +kernel
theorem dX12_readLine_228 : decode cX12_readLine 228 = .ok (.bipush 6, 2) := by decide +kernel
theorem dX12_readLine_230 : decode cX12_readLine 230 = .ok (.aload_n 0, 1) := by decide +kernel
theorem dX12_readLine_231 : decode cX12_readLine 231 = .ok (.getfield 241, 3) := by decide +kernel
theorem dX12_readLine_234 : decode cX12_readLine 234 = .ok (.imul, 1) := by decide +kernel
theorem dX12_readLine_235 : decode cX12_readLine 235 = .ok (.aload_n 0, 1) := by decide +kernel
theorem dX12_readLine_236 : decode cX12_readLine 236 = .ok (.getfield 27, 3) := by decide +kernel
theorem dX12_readLine_239 : decode cX12_readLine 239 = .ok (.aload_n 0, 1) := by decide +kernel
theorem dX12_readLine_240 : decode cX12_readLine 240 = .ok (.getfield 241, 3) := by decide +kernel
theorem dX12_readLine_243 : decode cX12_readLine 243 = .ok (.iaload, 1) := by decide +kernel
theorem dX12_readLine_244 : decode cX12_readLine 244 = .ok (.iadd, 1) := by decide +kernel
theorem dX12_readLine_245 : decode cX12_readLine 245 = .ok (.aload_n 0, 1) := by decide +kernel
theorem dX12_readLine_246 : decode cX12_readLine 246 = .ok (.invokevirtual 274, 3) := by decide +kernel
theorem dX12_readLine_249 : decode cX12_readLine 249 = .ok (.iastore, 1) := by decide +kernel
theorem dX12_readLine_250 : decode cX12_readLine 250 = .ok (.aload_n 0, 1) := by decide +kernel
theorem dX12_readLine_251 : decode cX12_readLine 251 = .ok (.getfield 27, 3) := by decide +kernel
theorem dX12_readLine_254 : decode cX12_readLine 254 = .ok (.aload_n 0, 1) := by decide +kernel
theorem dX12_readLine_255 : decode cX12_readLine 255 = .ok (.getfield 241, 3) := by decide +kernel
theorem dX12_readLine_258 : decode cX12_readLine 258 = .ok (.dup2, 1) := by decide +kernel
theorem dX12_readLine_259 : decode cX12_readLine 259 = .ok (.iaload, 1) := by decide +kernel
theorem dX12_readLine_260 : decode cX12_readLine 260 = .ok (.iconst 1, 1) := by decide +kernel
theorem dX12_readLine_261 : decode cX12_readLine 261 = .ok (.iadd, 1) := by decide +kernel
theorem dX12_readLine_262 : decode cX12_readLine 262 = .ok (.iastore, 1) := by decide +kernel
theorem dX12_readLine_263 : decode cX12_readLine 263 = .ok (.lload_n 1, 1) := by decide +kernel
theorem dX12_readLine_264 : decode cX12_readLine 264 = .ok (.ldc2_w 156, 3) := by decide +kernel
theorem dX12_readLine_267 : decode cX12_readLine 267 = .ok (.lcmp, 1) := by decide +kernel
theorem dX12_readLine_268 : decode cX12_readLine 268 = .ok (.ifCond .ne 7, 3) := by decide +kernel
theorem dX12_readLine_271 : decode cX12_readLine 271 = .ok (.aload_n 0, 1) := by decide +kernel
theorem dX12_readLine_272 : decode cX12_readLine 272 = .ok (.invokevirtual 278, 3) := by decide +kernel
theorem dX12_readLine_275 : decode cX12_readLine 275 = .ok (.lload_n 1, 1) := by decide +kernel
theorem dX12_readLine_276 : decode cX12_readLine 276 = .ok (.ldc2_w 162, 3) := by decide +kernel
theorem dX12_readLine_279 : decode cX12_readLine 279 = .ok (.lcmp, 1) := by decide +kernel
theorem dX12_readLine_280 : decode cX12_readLine 280 = .ok (.ifCond .ne 7, 3) := by decide +kernel
theorem dX12_readLine_283 : decode cX12_readLine 283 = .ok (.aload_n 0, 1) := by decide +kernel
theorem dX12_readLine_284 : decode cX12_readLine 284 = .ok (.invokevirtual 281, 3) := by decide +kernel
theorem dX12_readLine_287 : decode cX12_readLine 287 = .ok (.lload_n 1, 1) := by decide +kernel
theorem dX12_readLine_288 : decode cX12_readLine 288 = .ok (.ldc2_w 164, 3) := by decide +kernel
theorem dX12_readLine_291 : decode cX12_readLine 291 = .ok (.lcmp, 1) := by decide +kernel
theorem dX12_readLine_292 : decode cX12_readLine 292 = .ok (.ifCond .ne 33, 3) := by decide +kernel
theorem dX12_readLine_295 : decode cX12_readLine 295 = .ok (.aload_n 0, 1) := by decide +kernel
theorem dX12_readLine_296 : decode cX12_readLine 296 = .ok (.getfield 42, 3) := by decide +kernel
theorem dX12_readLine_299 : decode cX12_readLine 299 = .ok (.aload_n 0, 1) := by decide +kernel
theorem dX12_readLine_300 : decode cX12_readLine 300 = .ok (.getfield 241, 3) := by decide +kernel
theorem dX12_readLine_303 : decode cX12_readLine 303 = .ok (.dup2, 1) := by decide +kernel
theorem dX12_readLine_304 : decode cX12_readLine 304 = .ok (.iaload, 1) := by decide +kernel
theorem dX12_readLine_305 : decode cX12_readLine 305 = .ok (.bipush 8, 2) := by decide +kernel
theorem dX12_readLine_307 : decode cX12_readLine 307 = .ok (.ior, 1) := by decide +kernel
theorem dX12_readLine_308 : decode cX12_readLine 308 = .ok (.iastore, 1) := by decide +kernel
theorem dX12_readLine_309 : decode cX12_readLine 309 = .ok (.aload_n 0, 1) := by decide +kernel
theorem dX12_readLine_310 : decode cX12_readLine 310 = .ok (.getfield 36, 3) := by decide +kernel
theorem dX12_readLine_313 : decode cX12_readLine 313 = .ok (.aload_n 0, 1) := by decide +kernel
theorem dX12_readLine_314 : decode cX12_readLine 314 = .ok (.getfield 241, 3) := by decide +kernel
theorem dX12_readLine_317 : decode cX12_readLine 317 = .ok (.aload_n 0, 1) := by decide +kernel
theorem dX12_readLine_318 : decode cX12_readLine 318 = .ok (.iconst 0, 1) := by decide +kernel
theorem dX12_readLine_319 : decode cX12_readLine 319 = .ok (.bipush 100, 2) := by decide +kernel
theorem dX12_readLine_321 : decode cX12_readLine 321 = .ok (.invokevirtual 237, 3) := by decide +kernel
theorem dX12_readLine_324 : decode cX12_readLine 324 = .ok (.iastore, 1) := by decide +kernel
theorem dX12_readLine_325 : decode cX12_readLine 325 = .ok (.lload_n 1, 1) := by decide +kernel
theorem dX12_readLine_326 : decode cX12_readLine 326 = .ok (.ldc2_w 166, 3) := by decide +kernel
theorem dX12_readLine_329 : decode cX12_readLine 329 = .ok (.lcmp, 1) := by decide +kernel
theorem dX12_readLine_330 : decode cX12_readLine 330 = .ok (.ifCond .ne 34, 3) := by decide +kernel
theorem dX12_readLine_333 : decode cX12_readLine 333 = .ok (.aload_n 0, 1) := by decide +kernel
theorem dX12_readLine_334 : decode cX12_readLine 334 = .ok (.getfield 42, 3) := by decide +kernel
theorem dX12_readLine_337 : decode cX12_readLine 337 = .ok (.aload_n 0, 1) := by decide +kernel
theorem dX12_readLine_338 : decode cX12_readLine 338 = .ok (.getfield 241, 3) := by decide +kernel
theorem dX12_readLine_341 : decode cX12_readLine 341 = .ok (.dup2, 1) := by decide +kernel
theorem dX12_readLine_342 : decode cX12_readLine 342 = .ok (.iaload, 1) := by decide +kernel
theorem dX12_readLine_343 : decode cX12_readLine 343 = .ok (.bipush 16, 2) := by decide +kernel
theorem dX12_readLine_345 : decode cX12_readLine 345 = .ok (.ior, 1) := by decide +kernel
theorem dX12_readLine_346 : decode cX12_readLine 346 = .ok (.iastore, 1) := by decide +kernel
theorem dX12_readLine_347 : decode cX12_readLine 347 = .ok (.aload_n 0, 1) := by decide +kernel
theorem dX12_readLine_348 : decode cX12_readLine 348 = .ok (.getfield 39, 3) := by decide +kernel
theorem dX12_readLine_351 : decode cX12_readLine 351 = .ok (.aload_n 0, 1) := by decide +kernel
theorem dX12_readLine_352 : decode cX12_readLine 352 = .ok (.getfield 241, 3) := by decide +kernel
theorem dX12_readLine_355 : decode cX12_readLine 355 = .ok (.aload_n 0, 1) := by decide +kernel
theorem dX12_readLine_356 : decode cX12_readLine 356 = .ok (.iconst 0, 1) := by decide +kernel
theorem dX12_readLine_357 : decode cX12_readLine 357 = .ok (.sipush 999, 3) := by decide +kernel
theorem dX12_readLine_360 : decode cX12_readLine 360 = .ok (.invokevirtual 237, 3) := by decide +kernel
theorem dX12_readLine_363 : decode cX12_readLine 363 = .ok (.iastore, 1) := by decide +kernel
theorem dX12_readLine_364 : decode cX12_readLine 364 = .ok (.aload_n 0, 1) := by decide +kernel
theorem dX12_readLine_365 : decode cX12_readLine 365 = .ok (.aload_n 0, 1) := by decide +kernel
theorem dX12_readLine_366 : decode cX12_readLine 366 = .ok (.bipush 59, 2) := by decide +kernel
theorem dX12_readLine_368 : decode cX12_readLine 368 = .ok (.invokevirtual 284, 3) := by decide +kernel
theorem dX12_readLine_371 : decode cX12_readLine 371 = .ok (.invokevirtual 233, 3) := by decide +kernel
theorem dX12_readLine_374 : decode cX12_readLine 374 = .ok (.return_, 1) := by decide +kernel
theorem dX12_readTurns_0 : decode cX12_readTurns 0 = .ok (.aload_n 0, 1) := by decide +kernel
theorem dX12_readTurns_1 : decode cX12_readTurns 1 = .ok (.getfield 42, 3) := by decide +kernel
theorem dX12_readTurns_4 : decode cX12_readTurns 4 = .ok (.aload_n 0, 1) := by decide +kernel
theorem dX12_readTurns_5 : decode cX12_readTurns 5 = .ok (.getfield 241, 3) := by decide +kernel
theorem dX12_readTurns_8 : decode cX12_readTurns 8 = .ok (.dup2, 1) := by decide +kernel
theorem dX12_readTurns_9 : decode cX12_readTurns 9 = .ok (.iaload, 1) := by decide +kernel
theorem dX12_readTurns_10 : decode cX12_readTurns 10 = .ok (.iconst 2, 1) := by decide +kernel
theorem dX12_readTurns_11 : decode cX12_readTurns 11 = .ok (.ior, 1) := by decide +kernel
theorem dX12_readTurns_12 : decode cX12_readTurns 12 = .ok (.iastore, 1) := by decide +kernel
theorem dX12_readTurns_13 : decode cX12_readTurns 13 = .ok (.aload_n 0, 1) := by decide +kernel
theorem dX12_readTurns_14 : decode cX12_readTurns 14 = .ok (.getfield 185, 3) := by decide +kernel
theorem dX12_readTurns_17 : decode cX12_readTurns 17 = .ok (.istore_n 1, 1) := by decide +kernel
theorem dX12_readTurns_18 : decode cX12_readTurns 18 = .ok (.aload_n 0, 1) := by decide +kernel
theorem dX12_readTurns_19 : decode cX12_readTurns 19 = .ok (.getfield 20, 3) := by decide +kernel
theorem dX12_readTurns_22 : decode cX12_readTurns 22 = .ok (.aload_n 0, 1) := by decide +kernel
theorem dX12_readTurns_23 : decode cX12_readTurns 23 = .ok (.getfield 241, 3) := by decide +kernel
theorem dX12_readTurns_26 : decode cX12_readTurns 26 = .ok (.aload_n 0, 1) := by decide +kernel
theorem dX12_readTurns_27 : decode cX12_readTurns 27 = .ok (.iconst 1, 1) := by decide +kernel
theorem dX12_readTurns_28 : decode cX12_readTurns 28 = .ok (.iconst 4, 1) := by decide +kernel
theorem dX12_readTurns_29 : decode cX12_readTurns 29 = .ok (.invokevirtual 237, 3) := by decide +kernel
theorem dX12_readTurns_32 : decode cX12_readTurns 32 = .ok (.iastore, 1) := by decide +kernel
theorem dX12_readTurns_33 : decode cX12_readTurns 33 = .ok (.aload_n 0, 1) := by decide +kernel
theorem dX12_readTurns_34 : decode cX12_readTurns 34 = .ok (.getfield 20, 3) := by decide +kernel
theorem dX12_readTurns_37 : decode cX12_readTurns 37 = .ok (.aload_n 0, 1) := by decide +kernel
theorem dX12_readTurns_38 : decode cX12_readTurns 38 = .ok (.getfield 241, 3) := by decide +kernel
theorem dX12_readTurns_41 : decode cX12_readTurns 41 = .ok (.iaload, 1) := by decide +kernel
theorem dX12_readTurns_42 : decode cX12_readTurns 42 = .ok (.iconst 3, 1) := by decide +kernel
theorem dX12_readTurns_43 : decode cX12_readTurns 43 = .ok (.if_icmp .ne 9, 3) := by decide +kernel
theorem dX12_readTurns_46 : decode cX12_readTurns 46 = .ok (.aload_n 0, 1) := by decide +kernel
theorem dX12_readTurns_47 : decode cX12_readTurns 47 = .ok (.iconst 4, 1) := by decide +kernel
theorem dX12_readTurns_48 : decode cX12_readTurns 48 = .ok (.iload_n 1, 1) := by decide +kernel
theorem dX12_readTurns_49 : decode cX12_readTurns 49 = .ok (.invokevirtual 216, 3) := by decide +kernel
theorem dX12_readTurns_52 : decode cX12_readTurns 52 = .ok (.return_, 1) := by decide +kernel
theorem dX12_here_0 : decode cX12_here 0 = .ok (.iconst 0, 1) := by decide +kernel
theorem dX12_here_1 : decode cX12_here 1 = .ok (.istore 4, 2) := by decide +kernel
theorem dX12_here_3 : decode cX12_here 3 = .ok (.iload 4, 2) := by decide +kernel
theorem dX12_here_5 : decode cX12_here 5 = .ok (.iload_n 3, 1) := by decide +kernel
theorem dX12_here_6 : decode cX12_here 6 = .ok (.if_icmp .ge 34, 3) := by decide +kernel
theorem dX12_here_9 : decode cX12_here 9 = .ok (.aload_n 0, 1) := by decide +kernel
theorem dX12_here_10 : decode cX12_here 10 = .ok (.getfield 192, 3) := by decide +kernel
theorem dX12_here_13 : decode cX12_here 13 = .ok (.iconst 2, 1) := by decide +kernel
theorem dX12_here_14 : decode cX12_here 14 = .ok (.if_icmp .ne 20, 3) := by decide +kernel
theorem dX12_here_17 : decode cX12_here 17 = .ok (.aload_n 1, 1) := by decide +kernel
theorem dX12_here_18 : decode cX12_here 18 = .ok (.iload_n 2, 1) := by decide +kernel
theorem dX12_here_19 : decode cX12_here 19 = .ok (.iload 4, 2) := by decide +kernel
theorem dX12_here_21 : decode cX12_here 21 = .ok (.iadd, 1) := by decide +kernel
theorem dX12_here_22 : decode cX12_here 22 = .ok (.laload, 1) := by decide +kernel
theorem dX12_here_23 : decode cX12_here 23 = .ok (.aload_n 0, 1) := by decide +kernel
theorem dX12_here_24 : decode cX12_here 24 = .ok (.getfield 199, 3) := by decide +kernel
theorem dX12_here_27 : decode cX12_here 27 = .ok (.lcmp, 1) := by decide +kernel
theorem dX12_here_28 : decode cX12_here 28 = .ok (.ifCond .ne 6, 3) := by decide +kernel
theorem dX12_here_31 : decode cX12_here 31 = .ok (.iload 4, 2) := by decide +kernel
theorem dX12_here_33 : decode cX12_here 33 = .ok (.ireturn, 1) := by decide +kernel
theorem dX12_here_34 : decode cX12_here 34 = .ok (.iinc 4 1, 3) := by decide +kernel
theorem dX12_here_37 : decode cX12_here 37 = .ok (.goto (-34), 3) := by decide +kernel
theorem dX12_here_40 : decode cX12_here 40 = .ok (.iconst (-1), 1) := by decide +kernel
theorem dX12_here_41 : decode cX12_here 41 = .ok (.ireturn, 1) := by decide +kernel
theorem dX12_newName_0 : decode cX12_newName 0 = .ok (.aload_n 0, 1) := by decide +kernel
theorem dX12_newName_1 : decode cX12_newName 1 = .ok (.invokevirtual 220, 3) := by decide +kernel
theorem dX12_newName_4 : decode cX12_newName 4 = .ok (.ifCond .ne 5, 3) := by decide +kernel
theorem dX12_newName_7 : decode cX12_newName 7 = .ok (.lconst 0, 1) := by decide +kernel
theorem dX12_newName_8 : decode cX12_newName 8 = .ok (.lreturn, 1) := by decide +kernel
theorem dX12_newName_9 : decode cX12_newName 9 = .ok (.aload_n 0, 1) := by decide +kernel
theorem dX12_newName_10 : decode cX12_newName 10 = .ok (.getfield 192, 3) := by decide +kernel
theorem dX12_newName_13 : decode cX12_newName 13 = .ok (.iconst 2, 1) := by decide +kernel
theorem dX12_newName_14 : decode cX12_newName 14 = .ok (.if_icmp .eq 10, 3) := by decide +kernel
theorem dX12_newName_17 : decode cX12_newName 17 = .ok (.aload_n 0, 1) := by decide +kernel
theorem dX12_newName_18 : decode cX12_newName 18 = .ok (.invokevirtual 227, 3) := by decide +kernel
theorem dX12_newName_21 : decode cX12_newName 21 = .ok (.goto 16, 3) := by decide +kernel
theorem dX12_newName_24 : decode cX12_newName 24 = .ok (.iload_n 1, 1) := by decide +kernel
theorem dX12_newName_25 : decode cX12_newName 25 = .ok (.ifCond .lt 12, 3) := by decide +kernel
theorem dX12_newName_28 : decode cX12_newName 28 = .ok (.aload_n 0, 1) := by decide +kernel
theorem dX12_newName_29 : decode cX12_newName 29 = .ok (.iconst 3, 1) := by decide +kernel
theorem dX12_newName_30 : decode cX12_newName 30 = .ok (.aload_n 0, 1) := by decide +kernel
theorem dX12_newName_31 : decode cX12_newName 31 = .ok (.getfield 185, 3) := by decide +kernel
theorem dX12_newName_34 : decode cX12_newName 34 = .ok (.invokevirtual 216, 3) := by decide +kernel
theorem dX12_newName_37 : decode cX12_newName 37 = .ok (.aload_n 0, 1) := by decide +kernel
theorem dX12_newName_38 : decode cX12_newName 38 = .ok (.getfield 199, 3) := by decide +kernel
theorem dX12_newName_41 : decode cX12_newName 41 = .ok (.lstore_n 2, 1) := by decide +kernel
theorem dX12_newName_42 : decode cX12_newName 42 = .ok (.aload_n 0, 1) := by decide +kernel
theorem dX12_newName_43 : decode cX12_newName 43 = .ok (.invokevirtual 220, 3) := by decide +kernel
theorem dX12_newName_46 : decode cX12_newName 46 = .ok (.ifCond .eq 7, 3) := by decide +kernel
theorem dX12_newName_49 : decode cX12_newName 49 = .ok (.aload_n 0, 1) := by decide +kernel
theorem dX12_newName_50 : decode cX12_newName 50 = .ok (.invokevirtual 224, 3) := by decide +kernel
theorem dX12_newName_53 : decode cX12_newName 53 = .ok (.lload_n 2, 1) := by decide +kernel
theorem dX12_newName_54 : decode cX12_newName 54 = .ok (.lreturn, 1) := by decide +kernel
theorem dX12_readMark_0 : decode cX12_readMark 0 = .ok (.aload_n 0, 1) := by decide +kernel
theorem dX12_readMark_1 : decode cX12_readMark 1 = .ok (.aload_n 0, 1) := by decide +kernel
theorem dX12_readMark_2 : decode cX12_readMark 2 = .ok (.ldc2_w 152, 3) := by decide +kernel
theorem dX12_readMark_5 : decode cX12_readMark 5 = .ok (.invokevirtual 230, 3) := by decide +kernel
theorem dX12_readMark_8 : decode cX12_readMark 8 = .ok (.invokevirtual 233, 3) := by decide +kernel
theorem dX12_readMark_11 : decode cX12_readMark 11 = .ok (.iconst 0, 1) := by decide +kernel
theorem dX12_readMark_12 : decode cX12_readMark 12 = .ok (.istore_n 1, 1) := by decide +kernel
theorem dX12_readMark_13 : decode cX12_readMark 13 = .ok (.iconst 1, 1) := by decide +kernel
theorem dX12_readMark_14 : decode cX12_readMark 14 = .ok (.istore_n 2, 1) := by decide +kernel
theorem dX12_readMark_15 : decode cX12_readMark 15 = .ok (.aload_n 0, 1) := by decide +kernel
theorem dX12_readMark_16 : decode cX12_readMark 16 = .ok (.invokevirtual 220, 3) := by decide +kernel
theorem dX12_readMark_19 : decode cX12_readMark 19 = .ok (.ifCond .eq 82, 3) := by decide +kernel
theorem dX12_readMark_22 : decode cX12_readMark 22 = .ok (.iload_n 2, 1) := by decide +kernel
theorem dX12_readMark_23 : decode cX12_readMark 23 = .ok (.ifCond .eq 78, 3) := by decide +kernel
theorem dX12_readMark_26 : decode cX12_readMark 26 = .ok (.aload_n 0, 1) := by decide +kernel
theorem dX12_readMark_27 : decode cX12_readMark 27 = .ok (.getfield 192, 3) := by decide +kernel
theorem dX12_readMark_30 : decode cX12_readMark 30 = .ok (.iconst 4, 1) := by decide +kernel
theorem dX12_readMark_31 : decode cX12_readMark 31 = .ok (.if_icmp .ne 32, 3) := by decide +kernel
theorem dX12_readMark_34 : decode cX12_readMark 34 = .ok (.aload_n 0, 1) := by decide +kernel
theorem dX12_readMark_35 : decode cX12_readMark 35 = .ok (.getfield 210, 3) := by decide +kernel
theorem dX12_readMark_38 : decode cX12_readMark 38 = .ok (.bipush 12, 2) := by decide +kernel
theorem dX12_readMark_40 : decode cX12_readMark 40 = .ok (.if_icmp .ge 23, 3) := by decide +kernel
theorem dX12_readMark_43 : decode cX12_readMark 43 = .ok (.iload_n 1, 1) := by decide +kernel
theorem dX12_readMark_44 : decode cX12_readMark 44 = .ok (.aload_n 0, 1) := by decide +kernel
theorem dX12_readMark_45 : decode cX12_readMark 45 = .ok (.getfield 210, 3) := by decide +kernel
theorem dX12_readMark_48 : decode cX12_readMark 48 = .ok (.invokestatic 256, 3) := by decide +kernel
theorem dX12_readMark_51 : decode cX12_readMark 51 = .ok (.ifCond .eq 12, 3) := by decide +kernel
theorem dX12_readMark_54 : decode cX12_readMark 54 = .ok (.aload_n 0, 1) := by decide +kernel
theorem dX12_readMark_55 : decode cX12_readMark 55 = .ok (.iconst 3, 1) := by decide +kernel
theorem dX12_readMark_56 : decode cX12_readMark 56 = .ok (.aload_n 0, 1) := by decide +kernel
theorem dX12_readMark_57 : decode cX12_readMark 57 = .ok (.getfield 185, 3) := by decide +kernel
theorem dX12_readMark_60 : decode cX12_readMark 60 = .ok (.invokevirtual 216, 3) := by decide +kernel
theorem dX12_readMark_63 : decode cX12_readMark 63 = .ok (.aload_n 0, 1) := by decide +kernel
theorem dX12_readMark_64 : decode cX12_readMark 64 = .ok (.iconst 0, 1) := by decide +kernel
theorem dX12_readMark_65 : decode cX12_readMark 65 = .ok (.bipush 11, 2) := by decide +kernel
theorem dX12_readMark_67 : decode cX12_readMark 67 = .ok (.invokevirtual 237, 3) := by decide +kernel
theorem dX12_readMark_70 : decode cX12_readMark 70 = .ok (.istore_n 3, 1) := by decide +kernel
theorem dX12_readMark_71 : decode cX12_readMark 71 = .ok (.aload_n 0, 1) := by decide +kernel
theorem dX12_readMark_72 : decode cX12_readMark 72 = .ok (.invokevirtual 220, 3) := by decide +kernel
theorem dX12_readMark_75 : decode cX12_readMark 75 = .ok (.ifCond .eq 9, 3) := by decide +kernel
theorem dX12_readMark_78 : decode cX12_readMark 78 = .ok (.iload_n 1, 1) := by decide +kernel
theorem dX12_readMark_79 : decode cX12_readMark 79 = .ok (.iconst 1, 1) := by decide +kernel
theorem dX12_readMark_80 : decode cX12_readMark 80 = .ok (.iload_n 3, 1) := by decide +kernel
theorem dX12_readMark_81 : decode cX12_readMark 81 = .ok (.ishl, 1) := by decide +kernel
theorem dX12_readMark_82 : decode cX12_readMark 82 = .ok (.ior, 1) := by decide +kernel
theorem dX12_readMark_83 : decode cX12_readMark 83 = .ok (.istore_n 1, 1) := by decide +kernel
theorem dX12_readMark_84 : decode cX12_readMark 84 = .ok (.aload_n 0, 1) := by decide +kernel
theorem dX12_readMark_85 : decode cX12_readMark 85 = .ok (.getfield 192, 3) := by decide +kernel
theorem dX12_readMark_88 : decode cX12_readMark 88 = .ok (.iconst 4, 1) := by decide +kernel
theorem dX12_readMark_89 : decode cX12_readMark 89 = .ok (.if_icmp .ne 7, 3) := by decide +kernel
theorem dX12_readMark_92 : decode cX12_readMark 92 = .ok (.iconst 1, 1) := by decide +kernel
theorem dX12_readMark_93 : decode cX12_readMark 93 = .ok (.goto 4, 3) := by decide +kernel
theorem dX12_readMark_96 : decode cX12_readMark 96 = .ok (.iconst 0, 1) := by decide +kernel
theorem dX12_readMark_97 : decode cX12_readMark 97 = .ok (.istore_n 2, 1) := by decide +kernel
theorem dX12_readMark_98 : decode cX12_readMark 98 = .ok (.goto (-83), 3) := by decide +kernel
theorem dX12_readMark_101 : decode cX12_readMark 101 = .ok (.iload_n 1, 1) := by decide +kernel
theorem dX12_readMark_102 : decode cX12_readMark 102 = .ok (.ireturn, 1) := by decide +kernel
theorem dX12_readBeast_0 : decode cX12_readBeast 0 = .ok (.bipush 8, 2) := by decide +kernel
theorem dX12_readBeast_2 : decode cX12_readBeast 2 = .ok (.aload_n 0, 1) := by decide +kernel
theorem dX12_readBeast_3 : decode cX12_readBeast 3 = .ok (.getfield 241, 3) := by decide +kernel
theorem dX12_readBeast_6 : decode cX12_readBeast 6 = .ok (.imul, 1) := by decide +kernel
theorem dX12_readBeast_7 : decode cX12_readBeast 7 = .ok (.aload_n 0, 1) := by decide +kernel
theorem dX12_readBeast_8 : decode cX12_readBeast 8 = .ok (.getfield 30, 3) := by decide +kernel
theorem dX12_readBeast_11 : decode cX12_readBeast 11 = .ok (.aload_n 0, 1) := by decide +kernel
theorem dX12_readBeast_12 : decode cX12_readBeast 12 = .ok (.getfield 241, 3) := by decide +kernel
theorem dX12_readBeast_15 : decode cX12_readBeast 15 = .ok (.iaload, 1) := by decide +kernel
theorem dX12_readBeast_16 : decode cX12_readBeast 16 = .ok (.iadd, 1) := by decide +kernel
theorem dX12_readBeast_17 : decode cX12_readBeast 17 = .ok (.istore_n 1, 1) := by decide +kernel
theorem dX12_readBeast_18 : decode cX12_readBeast 18 = .ok (.aload_n 0, 1) := by decide +kernel
theorem dX12_readBeast_19 : decode cX12_readBeast 19 = .ok (.getfield 70, 3) := by decide +kernel
theorem dX12_readBeast_22 : decode cX12_readBeast 22 = .ok (.iload_n 1, 1) := by decide +kernel
theorem dX12_readBeast_23 : decode cX12_readBeast 23 = .ok (.aload_n 0, 1) := by decide +kernel
theorem dX12_readBeast_24 : decode cX12_readBeast 24 = .ok (.aload_n 0, 1) := by decide +kernel
theorem dX12_readBeast_25 : decode cX12_readBeast 25 = .ok (.aload_n 0, 1) := by decide +kernel
theorem dX12_readBeast_26 : decode cX12_readBeast 26 = .ok (.getfield 70, 3) := by decide +kernel
theorem dX12_readBeast_29 : decode cX12_readBeast 29 = .ok (.bipush 8, 2) := by decide +kernel
theorem dX12_readBeast_31 : decode cX12_readBeast 31 = .ok (.aload_n 0, 1) := by decide +kernel
theorem dX12_readBeast_32 : decode cX12_readBeast 32 = .ok (.getfield 241, 3) := by decide +kernel
theorem dX12_readBeast_35 : decode cX12_readBeast 35 = .ok (.imul, 1) := by decide +kernel
theorem dX12_readBeast_36 : decode cX12_readBeast 36 = .ok (.aload_n 0, 1) := by decide +kernel
theorem dX12_readBeast_37 : decode cX12_readBeast 37 = .ok (.getfield 30, 3) := by decide +kernel
theorem dX12_readBeast_40 : decode cX12_readBeast 40 = .ok (.aload_n 0, 1) := by decide +kernel
theorem dX12_readBeast_41 : decode cX12_readBeast 41 = .ok (.getfield 241, 3) := by decide +kernel
theorem dX12_readBeast_44 : decode cX12_readBeast 44 = .ok (.iaload, 1) := by decide +kernel
theorem dX12_readBeast_45 : decode cX12_readBeast 45 = .ok (.invokevirtual 266, 3) := by decide +kernel
theorem dX12_readBeast_48 : decode cX12_readBeast 48 = .ok (.invokevirtual 270, 3) := by decide +kernel
theorem dX12_readBeast_51 : decode cX12_readBeast 51 = .ok (.lastore, 1) := by decide +kernel
theorem dX12_readBeast_52 : decode cX12_readBeast 52 = .ok (.aload_n 0, 1) := by decide +kernel
theorem dX12_readBeast_53 : decode cX12_readBeast 53 = .ok (.aload_n 0, 1) := by decide +kernel
theorem dX12_readBeast_54 : decode cX12_readBeast 54 = .ok (.ldc2_w 158, 3) := by decide +kernel
theorem dX12_readBeast_57 : decode cX12_readBeast 57 = .ok (.invokevirtual 230, 3) := by decide +kernel
theorem dX12_readBeast_60 : decode cX12_readBeast 60 = .ok (.invokevirtual 233, 3) := by decide +kernel
theorem dX12_readBeast_63 : decode cX12_readBeast 63 = .ok (.aload_n 0, 1) := by decide +kernel
theorem dX12_readBeast_64 : decode cX12_readBeast 64 = .ok (.invokevirtual 220, 3) := by decide +kernel
theorem dX12_readBeast_67 : decode cX12_readBeast 67 = .ok (.ifCond .ne 4, 3) := by decide +kernel
theorem dX12_readBeast_70 : decode cX12_readBeast 70 = .ok (.return_, 1) := by decide +kernel
theorem dX12_readBeast_71 : decode cX12_readBeast 71 = .ok (.aload_n 0, 1) := by decide +kernel
theorem dX12_readBeast_72 : decode cX12_readBeast 72 = .ok (.aload_n 0, 1) := by decide +kernel
theorem dX12_readBeast_73 : decode cX12_readBeast 73 = .ok (.getfield 63, 3) := by decide +kernel
theorem dX12_readBeast_76 : decode cX12_readBeast 76 = .ok (.bipush 8, 2) := by decide +kernel
theorem dX12_readBeast_78 : decode cX12_readBeast 78 = .ok (.aload_n 0, 1) := by decide +kernel
theorem dX12_readBeast_79 : decode cX12_readBeast 79 = .ok (.getfield 241, 3) := by decide +kernel
theorem dX12_readBeast_82 : decode cX12_readBeast 82 = .ok (.imul, 1) := by decide +kernel
theorem dX12_readBeast_83 : decode cX12_readBeast 83 = .ok (.aload_n 0, 1) := by decide +kernel
theorem dX12_readBeast_84 : decode cX12_readBeast 84 = .ok (.getfield 24, 3) := by decide +kernel
theorem dX12_readBeast_87 : decode cX12_readBeast 87 = .ok (.aload_n 0, 1) := by decide +kernel
theorem dX12_readBeast_88 : decode cX12_readBeast 88 = .ok (.getfield 241, 3) := by decide +kernel
theorem dX12_readBeast_91 : decode cX12_readBeast 91 = .ok (.iaload, 1) := by decide +kernel
theorem dX12_readBeast_92 : decode cX12_readBeast 92 = .ok (.invokevirtual 266, 3) := by decide +kernel
theorem dX12_readBeast_95 : decode cX12_readBeast 95 = .ok (.istore_n 2, 1) := by decide +kernel
theorem dX12_readBeast_96 : decode cX12_readBeast 96 = .ok (.aload_n 0, 1) := by decide +kernel
theorem dX12_readBeast_97 : decode cX12_readBeast 97 = .ok (.getfield 192, 3) := by decide +kernel
theorem dX12_readBeast_100 : decode cX12_readBeast 100 = .ok (.iconst 2, 1) := by decide +kernel
theorem dX12_readBeast_101 : decode cX12_readBeast 101 = .ok (.if_icmp .eq 10, 3) := by decide +kernel
theorem dX12_readBeast_104 : decode cX12_readBeast 104 = .ok (.aload_n 0, 1) := by decide +kernel
theorem dX12_readBeast_105 : decode cX12_readBeast 105 = .ok (.invokevirtual 227, 3) := by decide +kernel
theorem dX12_readBeast_108 : decode cX12_readBeast 108 = .ok (.goto 16, 3) := by decide +kernel
theorem dX12_readBeast_111 : decode cX12_readBeast 111 = .ok (.iload_n 2, 1) := by decide +kernel
theorem dX12_readBeast_112 : decode cX12_readBeast 112 = .ok (.ifCond .ge 12, 3) := by decide +kernel
theorem dX12_readBeast_115 : decode cX12_readBeast 115 = .ok (.aload_n 0, 1) := by decide +kernel
theorem dX12_readBeast_116 : decode cX12_readBeast 116 = .ok (.iconst 5, 1) := by decide +kernel
theorem dX12_readBeast_117 : decode cX12_readBeast 117 = .ok (.aload_n 0, 1) := by decide +kernel
theorem dX12_readBeast_118 : decode cX12_readBeast 118 = .ok (.getfield 185, 3) := by decide +kernel
theorem dX12_readBeast_121 : decode cX12_readBeast 121 = .ok (.invokevirtual 216, 3) := by decide +kernel
theorem dX12_readBeast_124 : decode cX12_readBeast 124 = .ok (.aload_n 0, 1) := by decide +kernel
theorem dX12_readBeast_125 : decode cX12_readBeast 125 = .ok (.invokevirtual 220, 3) := by decide +kernel
theorem dX12_readBeast_128 : decode cX12_readBeast 128 = .ok (.ifCond .ne 4, 3) := by decide +kernel
theorem dX12_readBeast_131 : decode cX12_readBeast 131 = .ok (.return_, 1) := by decide +kernel
theorem dX12_readBeast_132 : decode cX12_readBeast 132 = .ok (.aload_n 0, 1) := by decide +kernel
theorem dX12_readBeast_133 : decode cX12_readBeast 133 = .ok (.getfield 51, 3) := by decide +kernel
theorem dX12_readBeast_136 : decode cX12_readBeast 136 = .ok (.iload_n 1, 1) := by decide +kernel
theorem dX12_readBeast_137 : decode cX12_readBeast 137 = .ok (.iload_n 2, 1) := by decide +kernel
theorem dX12_readBeast_138 : decode cX12_readBeast 138 = .ok (.iastore, 1) := by decide +kernel
theorem dX12_readBeast_139 : decode cX12_readBeast 139 = .ok (.aload_n 0, 1) := by decide +kernel
theorem dX12_readBeast_140 : decode cX12_readBeast 140 = .ok (.invokevirtual 224, 3) := by decide +kernel
theorem dX12_readBeast_143 : decode cX12_readBeast 143 = .ok (.aload_n 0, 1) := by decide +kernel
theorem dX12_readBeast_144 : decode cX12_readBeast 144 = .ok (.getfield 54, 3) := by decide +kernel
theorem dX12_readBeast_147 : decode cX12_readBeast 147 = .ok (.iload_n 1, 1) := by decide +kernel
theorem dX12_readBeast_148 : decode cX12_readBeast 148 = .ok (.aload_n 0, 1) := by decide +kernel
theorem dX12_readBeast_149 : decode cX12_readBeast 149 = .ok (.ldc2_w 160, 3) := by decide +kernel
theorem dX12_readBeast_152 : decode cX12_readBeast 152 = .ok (.invokevirtual 230, 3) := by decide +kernel
theorem dX12_readBeast_155 : decode cX12_readBeast 155 = .ok (.ifCond .eq 16, 3) := by decide +kernel
theorem dX12_readBeast_158 : decode cX12_readBeast 158 = .ok (.aload_n 0, 1) := by decide +kernel
theorem dX12_readBeast_159 : decode cX12_readBeast 159 = .ok (.ldc2_w 160, 3) := by decide +kernel
theorem dX12_readBeast_162 : decode cX12_readBeast 162 = .ok (.iconst 0, 1) := by decide +kernel
theorem dX12_readBeast_163 : decode cX12_readBeast 163 = .ok (.bipush 99, 2) := by decide +kernel
theorem dX12_readBeast_165 : decode cX12_readBeast 165 = .ok (.invokevirtual 287, 3) := by decide +kernel
theorem dX12_readBeast_168 : decode cX12_readBeast 168 = .ok (.goto 4, 3) := by decide +kernel
theorem dX12_readBeast_171 : decode cX12_readBeast 171 = .ok (.iconst 0, 1) := by decide +kernel
theorem dX12_readBeast_172 : decode cX12_readBeast 172 = .ok (.iastore, 1) := by decide +kernel
theorem dX12_readBeast_173 : decode cX12_readBeast 173 = .ok (.aload_n 0, 1) := by decide +kernel
theorem dX12_readBeast_174 : decode cX12_readBeast 174 = .ok (.getfield 30, 3) := by decide +kernel
theorem dX12_readBeast_177 : decode cX12_readBeast 177 = .ok (.aload_n 0, 1) := by decide +kernel
theorem dX12_readBeast_178 : decode cX12_readBeast 178 = .ok (.getfield 241, 3) := by decide +kernel
theorem dX12_readBeast_181 : decode cX12_readBeast 181 = .ok (.dup2, 1) := by decide +kernel
theorem dX12_readBeast_182 : decode cX12_readBeast 182 = .ok (.iaload, 1) := by decide +kernel
theorem dX12_readBeast_183 : decode cX12_readBeast 183 = .ok (.iconst 1, 1) := by decide +kernel
theorem dX12_readBeast_184 : decode cX12_readBeast 184 = .ok (.iadd, 1) := by decide +kernel
theorem dX12_readBeast_185 : decode cX12_readBeast 185 = .ok (.iastore, 1) := by decide +kernel
theorem dX12_readBeast_186 : decode cX12_readBeast 186 = .ok (.return_, 1) := by decide +kernel
theorem dX12_readRule_0 : decode cX12_readRule 0 = .ok (.aload_n 0, 1) := by decide +kernel
theorem dX12_readRule_1 : decode cX12_readRule 1 = .ok (.getfield 42, 3) := by decide +kernel
theorem dX12_readRule_4 : decode cX12_readRule 4 = .ok (.aload_n 0, 1) := by decide +kernel
theorem dX12_readRule_5 : decode cX12_readRule 5 = .ok (.getfield 241, 3) := by decide +kernel
theorem dX12_readRule_8 : decode cX12_readRule 8 = .ok (.dup2, 1) := by decide +kernel
theorem dX12_readRule_9 : decode cX12_readRule 9 = .ok (.iaload, 1) := by decide +kernel
theorem dX12_readRule_10 : decode cX12_readRule 10 = .ok (.iconst 1, 1) := by decide +kernel
theorem dX12_readRule_11 : decode cX12_readRule 11 = .ok (.ior, 1) := by decide +kernel
theorem dX12_readRule_12 : decode cX12_readRule 12 = .ok (.iastore, 1) := by decide +kernel
theorem dX12_readRule_13 : decode cX12_readRule 13 = .ok (.aload_n 0, 1) := by decide +kernel
theorem dX12_readRule_14 : decode cX12_readRule 14 = .ok (.iconst 0, 1) := by decide +kernel
theorem dX12_readRule_15 : decode cX12_readRule 15 = .ok (.putfield 291, 3) := by decide +kernel
theorem dX12_readRule_18 : decode cX12_readRule 18 = .ok (.aload_n 0, 1) := by decide +kernel
theorem dX12_readRule_19 : decode cX12_readRule 19 = .ok (.getfield 57, 3) := by decide +kernel
theorem dX12_readRule_22 : decode cX12_readRule 22 = .ok (.aload_n 0, 1) := by decide +kernel
