theorem dX2_work_14 : decode cX2_work 14 = .ok (.iconst 1, 1) := by decide +kernel
theorem dX2_work_15 : decode cX2_work 15 = .ok (.goto 4, 3) := by decide +kernel
theorem dX2_work_18 : decode cX2_work 18 = .ok (.iconst 0, 1) := by decide +kernel
theorem dX2_work_19 : decode cX2_work 19 = .ok (.istore 4, 2) := by decide +kernel
theorem dX2_work_21 : decode cX2_work 21 = .ok (.iload 4, 2) := by decide +kernel
theorem dX2_work_23 : decode cX2_work 23 = .ok (.ifCond .ne 10, 3) := by decide +kernel
theorem dX2_work_26 : decode cX2_work 26 = .ok (.iload_n 1, 1) := by decide +kernel
theorem dX2_work_27 : decode cX2_work 27 = .ok (.sipush 201, 3) := by decide +kernel
theorem dX2_work_30 : decode cX2_work 30 = .ok (.if_icmp .ne 43, 3) := by decide +kernel
theorem dX2_work_33 : decode cX2_work 33 = .ok (.iload_n 3, 1) := by decide +kernel
theorem dX2_work_34 : decode cX2_work 34 = .ok (.bipush 30, 2) := by decide +kernel
theorem dX2_work_36 : decode cX2_work 36 = .ok (.if_icmp .ge 28, 3) := by decide +kernel
theorem dX2_work_39 : decode cX2_work 39 = .ok (.aload_n 0, 1) := by decide +kernel
theorem dX2_work_40 : decode cX2_work 40 = .ok (.getfield 16, 3) := by decide +kernel
theorem dX2_work_43 : decode cX2_work 43 = .ok (.iload_n 3, 1) := by decide +kernel
theorem dX2_work_44 : decode cX2_work 44 = .ok (.iload 4, 2) := by decide +kernel
theorem dX2_work_46 : decode cX2_work 46 = .ok (.ifCond .eq 16, 3) := by decide +kernel
theorem dX2_work_49 : decode cX2_work 49 = .ok (.aload_n 0, 1) := by decide +kernel
theorem dX2_work_50 : decode cX2_work 50 = .ok (.getfield 19, 3) := by decide +kernel
theorem dX2_work_53 : decode cX2_work 53 = .ok (.iload_n 1, 1) := by decide +kernel
theorem dX2_work_54 : decode cX2_work 54 = .ok (.sipush 141, 3) := by decide +kernel
theorem dX2_work_57 : decode cX2_work 57 = .ok (.isub, 1) := by decide +kernel
theorem dX2_work_58 : decode cX2_work 58 = .ok (.iaload, 1) := by decide +kernel
theorem dX2_work_59 : decode cX2_work 59 = .ok (.goto 4, 3) := by decide +kernel
theorem dX2_work_62 : decode cX2_work 62 = .ok (.iload_n 2, 1) := by decide +kernel
theorem dX2_work_63 : decode cX2_work 63 = .ok (.iastore, 1) := by decide +kernel
theorem dX2_work_64 : decode cX2_work 64 = .ok (.iload_n 3, 1) := by decide +kernel
theorem dX2_work_65 : decode cX2_work 65 = .ok (.iconst 1, 1) := by decide +kernel
theorem dX2_work_66 : decode cX2_work 66 = .ok (.iadd, 1) := by decide +kernel
theorem dX2_work_67 : decode cX2_work 67 = .ok (.bipush 30, 2) := by decide +kernel
theorem dX2_work_69 : decode cX2_work 69 = .ok (.invokestatic 41, 3) := by decide +kernel
theorem dX2_work_72 : decode cX2_work 72 = .ok (.ireturn, 1) := by decide +kernel
theorem dX2_work_73 : decode cX2_work 73 = .ok (.iload_n 1, 1) := by decide +kernel
theorem dX2_work_74 : decode cX2_work 74 = .ok (.sipush 140, 3) := by decide +kernel
theorem dX2_work_77 : decode cX2_work 77 = .ok (.if_icmp .ne 33, 3) := by decide +kernel
theorem dX2_work_80 : decode cX2_work 80 = .ok (.iload_n 3, 1) := by decide +kernel
theorem dX2_work_81 : decode cX2_work 81 = .ok (.ifCond .le 27, 3) := by decide +kernel
theorem dX2_work_84 : decode cX2_work 84 = .ok (.aload_n 0, 1) := by decide +kernel
theorem dX2_work_85 : decode cX2_work 85 = .ok (.getfield 16, 3) := by decide +kernel
theorem dX2_work_88 : decode cX2_work 88 = .ok (.iload_n 3, 1) := by decide +kernel
theorem dX2_work_89 : decode cX2_work 89 = .ok (.iconst 1, 1) := by decide +kernel
theorem dX2_work_90 : decode cX2_work 90 = .ok (.isub, 1) := by decide +kernel
theorem dX2_work_91 : decode cX2_work 91 = .ok (.aload_n 0, 1) := by decide +kernel
theorem dX2_work_92 : decode cX2_work 92 = .ok (.getfield 16, 3) := by decide +kernel
theorem dX2_work_95 : decode cX2_work 95 = .ok (.iload_n 3, 1) := by decide +kernel
theorem dX2_work_96 : decode cX2_work 96 = .ok (.iconst 1, 1) := by decide +kernel
theorem dX2_work_97 : decode cX2_work 97 = .ok (.isub, 1) := by decide +kernel
theorem dX2_work_98 : decode cX2_work 98 = .ok (.iaload, 1) := by decide +kernel
theorem dX2_work_99 : decode cX2_work 99 = .ok (.ifCond .ne 7, 3) := by decide +kernel
theorem dX2_work_102 : decode cX2_work 102 = .ok (.iconst 1, 1) := by decide +kernel
theorem dX2_work_103 : decode cX2_work 103 = .ok (.goto 4, 3) := by decide +kernel
theorem dX2_work_106 : decode cX2_work 106 = .ok (.iconst 0, 1) := by decide +kernel
theorem dX2_work_107 : decode cX2_work 107 = .ok (.iastore, 1) := by decide +kernel
theorem dX2_work_108 : decode cX2_work 108 = .ok (.iload_n 3, 1) := by decide +kernel
theorem dX2_work_109 : decode cX2_work 109 = .ok (.ireturn, 1) := by decide +kernel
theorem dX2_work_110 : decode cX2_work 110 = .ok (.iload_n 3, 1) := by decide +kernel
theorem dX2_work_111 : decode cX2_work 111 = .ok (.iconst 2, 1) := by decide +kernel
theorem dX2_work_112 : decode cX2_work 112 = .ok (.if_icmp .ge 5, 3) := by decide +kernel
theorem dX2_work_115 : decode cX2_work 115 = .ok (.iload_n 3, 1) := by decide +kernel
theorem dX2_work_116 : decode cX2_work 116 = .ok (.ireturn, 1) := by decide +kernel
theorem dX2_work_117 : decode cX2_work 117 = .ok (.aload_n 0, 1) := by decide +kernel
theorem dX2_work_118 : decode cX2_work 118 = .ok (.getfield 16, 3) := by decide +kernel
theorem dX2_work_121 : decode cX2_work 121 = .ok (.iload_n 3, 1) := by decide +kernel
theorem dX2_work_122 : decode cX2_work 122 = .ok (.iconst 2, 1) := by decide +kernel
theorem dX2_work_123 : decode cX2_work 123 = .ok (.isub, 1) := by decide +kernel
theorem dX2_work_124 : decode cX2_work 124 = .ok (.iload_n 1, 1) := by decide +kernel
theorem dX2_work_125 : decode cX2_work 125 = .ok (.aload_n 0, 1) := by decide +kernel
theorem dX2_work_126 : decode cX2_work 126 = .ok (.getfield 16, 3) := by decide +kernel
theorem dX2_work_129 : decode cX2_work 129 = .ok (.iload_n 3, 1) := by decide +kernel
theorem dX2_work_130 : decode cX2_work 130 = .ok (.iconst 2, 1) := by decide +kernel
theorem dX2_work_131 : decode cX2_work 131 = .ok (.isub, 1) := by decide +kernel
theorem dX2_work_132 : decode cX2_work 132 = .ok (.iaload, 1) := by decide +kernel
theorem dX2_work_133 : decode cX2_work 133 = .ok (.aload_n 0, 1) := by decide +kernel
theorem dX2_work_134 : decode cX2_work 134 = .ok (.getfield 16, 3) := by decide +kernel
theorem dX2_work_137 : decode cX2_work 137 = .ok (.iload_n 3, 1) := by decide +kernel
theorem dX2_work_138 : decode cX2_work 138 = .ok (.iconst 1, 1) := by decide +kernel
theorem dX2_work_139 : decode cX2_work 139 = .ok (.isub, 1) := by decide +kernel
theorem dX2_work_140 : decode cX2_work 140 = .ok (.iaload, 1) := by decide +kernel
theorem dX2_work_141 : decode cX2_work 141 = .ok (.invokestatic 47, 3) := by decide +kernel
theorem dX2_work_144 : decode cX2_work 144 = .ok (.iastore, 1) := by decide +kernel
theorem dX2_work_145 : decode cX2_work 145 = .ok (.iload_n 3, 1) := by decide +kernel
theorem dX2_work_146 : decode cX2_work 146 = .ok (.iconst 1, 1) := by decide +kernel
theorem dX2_work_147 : decode cX2_work 147 = .ok (.isub, 1) := by decide +kernel
theorem dX2_work_148 : decode cX2_work 148 = .ok (.ireturn, 1) := by decide +kernel
theorem dX2_joined_0 : decode cX2_joined 0 = .ok (.iload_n 0, 1) := by decide +kernel
theorem dX2_joined_1 : decode cX2_joined 1 = .ok (.lookupswitch 188 #[(37, 115), (42, 99), (43, 91), (45, 95), (47, 103), (60, 127), (61, 149), (62, 138), (138, 174), (139, 160)], 91) := by decide +kernel
theorem dX2_joined_92 : decode cX2_joined 92 = .ok (.iload_n 1, 1) := by decide +kernel
theorem dX2_joined_93 : decode cX2_joined 93 = .ok (.iload_n 2, 1) := by decide +kernel
theorem dX2_joined_94 : decode cX2_joined 94 = .ok (.iadd, 1) := by decide +kernel
theorem dX2_joined_95 : decode cX2_joined 95 = .ok (.ireturn, 1) := by decide +kernel
theorem dX2_joined_96 : decode cX2_joined 96 = .ok (.iload_n 1, 1) := by decide +kernel
theorem dX2_joined_97 : decode cX2_joined 97 = .ok (.iload_n 2, 1) := by decide +kernel
theorem dX2_joined_98 : decode cX2_joined 98 = .ok (.isub, 1) := by decide +kernel
theorem dX2_joined_99 : decode cX2_joined 99 = .ok (.ireturn, 1) := by decide +kernel
theorem dX2_joined_100 : decode cX2_joined 100 = .ok (.iload_n 1, 1) := by decide +kernel
theorem dX2_joined_101 : decode cX2_joined 101 = .ok (.iload_n 2, 1) := by decide +kernel
theorem dX2_joined_102 : decode cX2_joined 102 = .ok (.imul, 1) := by decide +kernel
theorem dX2_joined_103 : decode cX2_joined 103 = .ok (.ireturn, 1) := by decide +kernel
theorem dX2_joined_104 : decode cX2_joined 104 = .ok (.iload_n 2, 1) := by decide +kernel
theorem dX2_joined_105 : decode cX2_joined 105 = .ok (.ifCond .ne 7, 3) := by decide +kernel
theorem dX2_joined_108 : decode cX2_joined 108 = .ok (.iconst 0, 1) := by decide +kernel
theorem dX2_joined_109 : decode cX2_joined 109 = .ok (.goto 6, 3) := by decide +kernel
theorem dX2_joined_112 : decode cX2_joined 112 = .ok (.iload_n 1, 1) := by decide +kernel
theorem dX2_joined_113 : decode cX2_joined 113 = .ok (.iload_n 2, 1) := by decide +kernel
theorem dX2_joined_114 : decode cX2_joined 114 = .ok (.idiv, 1) := by decide +kernel
theorem dX2_joined_115 : decode cX2_joined 115 = .ok (.ireturn, 1) := by decide +kernel
theorem dX2_joined_116 : decode cX2_joined 116 = .ok (.iload_n 2, 1) := by decide +kernel
theorem dX2_joined_117 : decode cX2_joined 117 = .ok (.ifCond .ne 7, 3) := by decide +kernel
theorem dX2_joined_120 : decode cX2_joined 120 = .ok (.iconst 0, 1) := by decide +kernel
theorem dX2_joined_121 : decode cX2_joined 121 = .ok (.goto 6, 3) := by decide +kernel
theorem dX2_joined_124 : decode cX2_joined 124 = .ok (.iload_n 1, 1) := by decide +kernel
theorem dX2_joined_125 : decode cX2_joined 125 = .ok (.iload_n 2, 1) := by decide +kernel
theorem dX2_joined_126 : decode cX2_joined 126 = .ok (.irem, 1) := by decide +kernel
theorem dX2_joined_127 : decode cX2_joined 127 = .ok (.ireturn, 1) := by decide +kernel
theorem dX2_joined_128 : decode cX2_joined 128 = .ok (.iload_n 1, 1) := by decide +kernel
theorem dX2_joined_129 : decode cX2_joined 129 = .ok (.iload_n 2, 1) := by decide +kernel
theorem dX2_joined_130 : decode cX2_joined 130 = .ok (.if_icmp .ge 7, 3) := by decide +kernel
theorem dX2_joined_133 : decode cX2_joined 133 = .ok (.iconst 1, 1) := by decide +kernel
theorem dX2_joined_134 : decode cX2_joined 134 = .ok (.goto 4, 3) := by decide +kernel
theorem dX2_joined_137 : decode cX2_joined 137 = .ok (.iconst 0, 1) := by decide +kernel
theorem dX2_joined_138 : decode cX2_joined 138 = .ok (.ireturn, 1) := by decide +kernel
theorem dX2_joined_139 : decode cX2_joined 139 = .ok (.iload_n 1, 1) := by decide +kernel
theorem dX2_joined_140 : decode cX2_joined 140 = .ok (.iload_n 2, 1) := by decide +kernel
theorem dX2_joined_141 : decode cX2_joined 141 = .ok (.if_icmp .le 7, 3) := by decide +kernel
theorem dX2_joined_144 : decode cX2_joined 144 = .ok (.iconst 1, 1) := by decide +kernel
theorem dX2_joined_145 : decode cX2_joined 145 = .ok (.goto 4, 3) := by decide +kernel
theorem dX2_joined_148 : decode cX2_joined 148 = .ok (.iconst 0, 1) := by decide +kernel
theorem dX2_joined_149 : decode cX2_joined 149 = .ok (.ireturn, 1) := by decide +kernel
theorem dX2_joined_150 : decode cX2_joined 150 = .ok (.iload_n 1, 1) := by decide +kernel
theorem dX2_joined_151 : decode cX2_joined 151 = .ok (.iload_n 2, 1) := by decide +kernel
theorem dX2_joined_152 : decode cX2_joined 152 = .ok (.if_icmp .ne 7, 3) := by decide +kernel
theorem dX2_joined_155 : decode cX2_joined 155 = .ok (.iconst 1, 1) := by decide +kernel
theorem dX2_joined_156 : decode cX2_joined 156 = .ok (.goto 4, 3) := by decide +kernel
theorem dX2_joined_159 : decode cX2_joined 159 = .ok (.iconst 0, 1) := by decide +kernel
theorem dX2_joined_160 : decode cX2_joined 160 = .ok (.ireturn, 1) := by decide +kernel
theorem dX2_joined_161 : decode cX2_joined 161 = .ok (.iload_n 1, 1) := by decide +kernel
theorem dX2_joined_162 : decode cX2_joined 162 = .ok (.ifCond .eq 11, 3) := by decide +kernel
theorem dX2_joined_165 : decode cX2_joined 165 = .ok (.iload_n 2, 1) := by decide +kernel
theorem dX2_joined_166 : decode cX2_joined 166 = .ok (.ifCond .eq 7, 3) := by decide +kernel
theorem dX2_joined_169 : decode cX2_joined 169 = .ok (.iconst 1, 1) := by decide +kernel
theorem dX2_joined_170 : decode cX2_joined 170 = .ok (.goto 4, 3) := by decide +kernel
theorem dX2_joined_173 : decode cX2_joined 173 = .ok (.iconst 0, 1) := by decide +kernel
theorem dX2_joined_174 : decode cX2_joined 174 = .ok (.ireturn, 1) := by decide +kernel
theorem dX2_joined_175 : decode cX2_joined 175 = .ok (.iload_n 1, 1) := by decide +kernel
theorem dX2_joined_176 : decode cX2_joined 176 = .ok (.ifCond .ne 7, 3) := by decide +kernel
theorem dX2_joined_179 : decode cX2_joined 179 = .ok (.iload_n 2, 1) := by decide +kernel
theorem dX2_joined_180 : decode cX2_joined 180 = .ok (.ifCond .eq 7, 3) := by decide +kernel
theorem dX2_joined_183 : decode cX2_joined 183 = .ok (.iconst 1, 1) := by decide +kernel
theorem dX2_joined_184 : decode cX2_joined 184 = .ok (.goto 4, 3) := by decide +kernel
theorem dX2_joined_187 : decode cX2_joined 187 = .ok (.iconst 0, 1) := by decide +kernel
theorem dX2_joined_188 : decode cX2_joined 188 = .ok (.ireturn, 1) := by decide +kernel
theorem dX2_joined_189 : decode cX2_joined 189 = .ok (.iconst 0, 1) := by decide +kernel
theorem dX2_joined_190 : decode cX2_joined 190 = .ok (.ireturn, 1) := by decide +kernel
theorem dX3_init_0 : decode cX3_init 0 = .ok (.aload_n 0, 1) := by decide +kernel
theorem dX3_init_1 : decode cX3_init 1 = .ok (.invokespecial 3, 3) := by decide +kernel
theorem dX3_init_4 : decode cX3_init 4 = .ok (.aload_n 0, 1) := by decide +kernel
theorem dX3_init_5 : decode cX3_init 5 = .ok (.bipush 41, 2) := by decide +kernel
theorem dX3_init_7 : decode cX3_init 7 = .ok (.anewarray 11, 3) := by decide +kernel
theorem dX3_init_10 : decode cX3_init 10 = .ok (.putfield 13, 3) := by decide +kernel
theorem dX3_init_13 : decode cX3_init 13 = .ok (.aload_n 0, 1) := by decide +kernel
theorem dX3_init_14 : decode cX3_init 14 = .ok (.iconst 3, 1) := by decide +kernel
theorem dX3_init_15 : decode cX3_init 15 = .ok (.anewarray 11, 3) := by decide +kernel
theorem dX3_init_18 : decode cX3_init 18 = .ok (.putfield 17, 3) := by decide +kernel
theorem dX3_init_21 : decode cX3_init 21 = .ok (.aload_n 0, 1) := by decide +kernel
theorem dX3_init_22 : decode cX3_init 22 = .ok (.iconst 3, 1) := by decide +kernel
theorem dX3_init_23 : decode cX3_init 23 = .ok (.newarray .boolean, 2) := by decide +kernel
theorem dX3_init_25 : decode cX3_init 25 = .ok (.putfield 20, 3) := by decide +kernel
theorem dX3_init_28 : decode cX3_init 28 = .ok (.aload_n 0, 1) := by decide +kernel
theorem dX3_init_29 : decode cX3_init 29 = .ok (.iconst 0, 1) := by decide +kernel
theorem dX3_init_30 : decode cX3_init 30 = .ok (.putfield 24, 3) := by decide +kernel
theorem dX3_init_33 : decode cX3_init 33 = .ok (.aload_n 0, 1) := by decide +kernel
theorem dX3_init_34 : decode cX3_init 34 = .ok (.iconst 0, 1) := by decide +kernel
theorem dX3_init_35 : decode cX3_init 35 = .ok (.putfield 28, 3) := by decide +kernel
theorem dX3_init_38 : decode cX3_init 38 = .ok (.aload_n 0, 1) := by decide +kernel
theorem dX3_init_39 : decode cX3_init 39 = .ok (.iconst 0, 1) := by decide +kernel
theorem dX3_init_40 : decode cX3_init 40 = .ok (.putfield 31, 3) := by decide +kernel
theorem dX3_init_43 : decode cX3_init 43 = .ok (.iconst 0, 1) := by decide +kernel
theorem dX3_init_44 : decode cX3_init 44 = .ok (.istore_n 1, 1) := by decide +kernel
theorem dX3_init_45 : decode cX3_init 45 = .ok (.iload_n 1, 1) := by decide +kernel
theorem dX3_init_46 : decode cX3_init 46 = .ok (.bipush 41, 2) := by decide +kernel
theorem dX3_init_48 : decode cX3_init 48 = .ok (.if_icmp .ge 22, 3) := by decide +kernel
theorem dX3_init_51 : decode cX3_init 51 = .ok (.aload_n 0, 1) := by decide +kernel
theorem dX3_init_52 : decode cX3_init 52 = .ok (.getfield 13, 3) := by decide +kernel
theorem dX3_init_55 : decode cX3_init 55 = .ok (.iload_n 1, 1) := by decide +kernel
theorem dX3_init_56 : decode cX3_init 56 = .ok (.new 11, 3) := by decide +kernel
theorem dX3_init_59 : decode cX3_init 59 = .ok (.dup, 1) := by decide +kernel
theorem dX3_init_60 : decode cX3_init 60 = .ok (.invokespecial 34, 3) := by decide +kernel
theorem dX3_init_63 : decode cX3_init 63 = .ok (.aastore, 1) := by decide +kernel
theorem dX3_init_64 : decode cX3_init 64 = .ok (.iinc 1 1, 3) := by decide +kernel
theorem dX3_init_67 : decode cX3_init 67 = .ok (.goto (-22), 3) := by decide +kernel
theorem dX3_init_70 : decode cX3_init 70 = .ok (.iconst 0, 1) := by decide +kernel
theorem dX3_init_71 : decode cX3_init 71 = .ok (.istore_n 1, 1) := by decide +kernel
theorem dX3_init_72 : decode cX3_init 72 = .ok (.iload_n 1, 1) := by decide +kernel
theorem dX3_init_73 : decode cX3_init 73 = .ok (.iconst 3, 1) := by decide +kernel
theorem dX3_init_74 : decode cX3_init 74 = .ok (.if_icmp .ge 22, 3) := by decide +kernel
theorem dX3_init_77 : decode cX3_init 77 = .ok (.aload_n 0, 1) := by decide +kernel
theorem dX3_init_78 : decode cX3_init 78 = .ok (.getfield 17, 3) := by decide +kernel
theorem dX3_init_81 : decode cX3_init 81 = .ok (.iload_n 1, 1) := by decide +kernel
theorem dX3_init_82 : decode cX3_init 82 = .ok (.new 11, 3) := by decide +kernel
theorem dX3_init_85 : decode cX3_init 85 = .ok (.dup, 1) := by decide +kernel
theorem dX3_init_86 : decode cX3_init 86 = .ok (.invokespecial 34, 3) := by decide +kernel
theorem dX3_init_89 : decode cX3_init 89 = .ok (.aastore, 1) := by decide +kernel
theorem dX3_init_90 : decode cX3_init 90 = .ok (.iinc 1 1, 3) := by decide +kernel
theorem dX3_init_93 : decode cX3_init 93 = .ok (.goto (-21), 3) := by decide +kernel
theorem dX3_init_96 : decode cX3_init 96 = .ok (.return_, 1) := by decide +kernel
theorem dX3_now_0 : decode cX3_now 0 = .ok (.aload_n 0, 1) := by decide +kernel
theorem dX3_now_1 : decode cX3_now 1 = .ok (.getfield 13, 3) := by decide +kernel
theorem dX3_now_4 : decode cX3_now 4 = .ok (.aload_n 0, 1) := by decide +kernel
theorem dX3_now_5 : decode cX3_now 5 = .ok (.getfield 24, 3) := by decide +kernel
theorem dX3_now_8 : decode cX3_now 8 = .ok (.aaload, 1) := by decide +kernel
theorem dX3_now_9 : decode cX3_now 9 = .ok (.areturn, 1) := by decide +kernel
theorem dX3_undoable_0 : decode cX3_undoable 0 = .ok (.aload_n 0, 1) := by decide +kernel
theorem dX3_undoable_1 : decode cX3_undoable 1 = .ok (.getfield 28, 3) := by decide +kernel
theorem dX3_undoable_4 : decode cX3_undoable 4 = .ok (.ireturn, 1) := by decide +kernel
theorem dX3_redoable_0 : decode cX3_redoable 0 = .ok (.aload_n 0, 1) := by decide +kernel
theorem dX3_redoable_1 : decode cX3_redoable 1 = .ok (.getfield 31, 3) := by decide +kernel
theorem dX3_redoable_4 : decode cX3_redoable 4 = .ok (.ireturn, 1) := by decide +kernel
theorem dX3_restart_0 : decode cX3_restart 0 = .ok (.aload_n 0, 1) := by decide +kernel
theorem dX3_restart_1 : decode cX3_restart 1 = .ok (.invokevirtual 35, 3) := by decide +kernel
theorem dX3_restart_4 : decode cX3_restart 4 = .ok (.iconst 0, 1) := by decide +kernel
theorem dX3_restart_5 : decode cX3_restart 5 = .ok (.istore_n 2, 1) := by decide +kernel
theorem dX3_restart_6 : decode cX3_restart 6 = .ok (.iload_n 2, 1) := by decide +kernel
theorem dX3_restart_7 : decode cX3_restart 7 = .ok (.iconst 3, 1) := by decide +kernel
theorem dX3_restart_8 : decode cX3_restart 8 = .ok (.if_icmp .ge 16, 3) := by decide +kernel
theorem dX3_restart_11 : decode cX3_restart 11 = .ok (.aload_n 0, 1) := by decide +kernel
theorem dX3_restart_12 : decode cX3_restart 12 = .ok (.getfield 20, 3) := by decide +kernel
theorem dX3_restart_15 : decode cX3_restart 15 = .ok (.iload_n 2, 1) := by decide +kernel
theorem dX3_restart_16 : decode cX3_restart 16 = .ok (.iconst 0, 1) := by decide +kernel
theorem dX3_restart_17 : decode cX3_restart 17 = .ok (.bastore, 1) := by decide +kernel
theorem dX3_restart_18 : decode cX3_restart 18 = .ok (.iinc 2 1, 3) := by decide +kernel
theorem dX3_restart_21 : decode cX3_restart 21 = .ok (.goto (-15), 3) := by decide +kernel
theorem dX3_restart_24 : decode cX3_restart 24 = .ok (.aload_n 0, 1) := by decide +kernel
theorem dX3_restart_25 : decode cX3_restart 25 = .ok (.invokevirtual 38, 3) := by decide +kernel
theorem dX3_restart_28 : decode cX3_restart 28 = .ok (.aload_n 1, 1) := by decide +kernel
theorem dX3_restart_29 : decode cX3_restart 29 = .ok (.invokevirtual 42, 3) := by decide +kernel
theorem dX3_restart_32 : decode cX3_restart 32 = .ok (.return_, 1) := by decide +kernel
theorem dX3_forgetActs_0 : decode cX3_forgetActs 0 = .ok (.aload_n 0, 1) := by decide +kernel
theorem dX3_forgetActs_1 : decode cX3_forgetActs 1 = .ok (.iconst 0, 1) := by decide +kernel
theorem dX3_forgetActs_2 : decode cX3_forgetActs 2 = .ok (.putfield 28, 3) := by decide +kernel
theorem dX3_forgetActs_5 : decode cX3_forgetActs 5 = .ok (.aload_n 0, 1) := by decide +kernel
theorem dX3_forgetActs_6 : decode cX3_forgetActs 6 = .ok (.iconst 0, 1) := by decide +kernel
theorem dX3_forgetActs_7 : decode cX3_forgetActs 7 = .ok (.putfield 31, 3) := by decide +kernel
theorem dX3_forgetActs_10 : decode cX3_forgetActs 10 = .ok (.return_, 1) := by decide +kernel
theorem dX3_beginAct_0 : decode cX3_beginAct 0 = .ok (.aload_n 0, 1) := by decide +kernel
theorem dX3_beginAct_1 : decode cX3_beginAct 1 = .ok (.invokevirtual 38, 3) := by decide +kernel
theorem dX3_beginAct_4 : decode cX3_beginAct 4 = .ok (.astore_n 1, 1) := by decide +kernel
theorem dX3_beginAct_5 : decode cX3_beginAct 5 = .ok (.aload_n 0, 1) := by decide +kernel
theorem dX3_beginAct_6 : decode cX3_beginAct 6 = .ok (.aload_n 0, 1) := by decide +kernel
theorem dX3_beginAct_7 : decode cX3_beginAct 7 = .ok (.getfield 24, 3) := by decide +kernel
theorem dX3_beginAct_10 : decode cX3_beginAct 10 = .ok (.iconst 1, 1) := by decide +kernel
theorem dX3_beginAct_11 : decode cX3_beginAct 11 = .ok (.iadd, 1) := by decide +kernel
theorem dX3_beginAct_12 : decode cX3_beginAct 12 = .ok (.bipush 41, 2) := by decide +kernel
theorem dX3_beginAct_14 : decode cX3_beginAct 14 = .ok (.irem, 1) := by decide +kernel
theorem dX3_beginAct_15 : decode cX3_beginAct 15 = .ok (.putfield 24, 3) := by decide +kernel
theorem dX3_beginAct_18 : decode cX3_beginAct 18 = .ok (.aload_n 0, 1) := by decide +kernel
theorem dX3_beginAct_19 : decode cX3_beginAct 19 = .ok (.invokevirtual 38, 3) := by decide +kernel
theorem dX3_beginAct_22 : decode cX3_beginAct 22 = .ok (.aload_n 1, 1) := by decide +kernel
theorem dX3_beginAct_23 : decode cX3_beginAct 23 = .ok (.invokevirtual 46, 3) := by decide +kernel
theorem dX3_beginAct_26 : decode cX3_beginAct 26 = .ok (.aload_n 0, 1) := by decide +kernel
theorem dX3_beginAct_27 : decode cX3_beginAct 27 = .ok (.aload_n 0, 1) := by decide +kernel
theorem dX3_beginAct_28 : decode cX3_beginAct 28 = .ok (.getfield 28, 3) := by decide +kernel
theorem dX3_beginAct_31 : decode cX3_beginAct 31 = .ok (.iconst 1, 1) := by decide +kernel
theorem dX3_beginAct_32 : decode cX3_beginAct 32 = .ok (.iadd, 1) := by decide +kernel
theorem dX3_beginAct_33 : decode cX3_beginAct 33 = .ok (.bipush 40, 2) := by decide +kernel
theorem dX3_beginAct_35 : decode cX3_beginAct 35 = .ok (.invokestatic 50, 3) := by decide +kernel
theorem dX3_beginAct_38 : decode cX3_beginAct 38 = .ok (.putfield 28, 3) := by decide +kernel
theorem dX3_beginAct_41 : decode cX3_beginAct 41 = .ok (.aload_n 0, 1) := by decide +kernel
theorem dX3_beginAct_42 : decode cX3_beginAct 42 = .ok (.iconst 0, 1) := by decide +kernel
theorem dX3_beginAct_43 : decode cX3_beginAct 43 = .ok (.putfield 31, 3) := by decide +kernel
theorem dX3_beginAct_46 : decode cX3_beginAct 46 = .ok (.aload_n 0, 1) := by decide +kernel
theorem dX3_beginAct_47 : decode cX3_beginAct 47 = .ok (.invokevirtual 38, 3) := by decide +kernel
theorem dX3_beginAct_50 : decode cX3_beginAct 50 = .ok (.areturn, 1) := by decide +kernel
theorem dX3_stepBack_0 : decode cX3_stepBack 0 = .ok (.aload_n 0, 1) := by decide +kernel
theorem dX3_stepBack_1 : decode cX3_stepBack 1 = .ok (.getfield 28, 3) := by decide +kernel
theorem dX3_stepBack_4 : decode cX3_stepBack 4 = .ok (.ifCond .ne 5, 3) := by decide +kernel
theorem dX3_stepBack_7 : decode cX3_stepBack 7 = .ok (.iconst 0, 1) := by decide +kernel
theorem dX3_stepBack_8 : decode cX3_stepBack 8 = .ok (.ireturn, 1) := by decide +kernel
theorem dX3_stepBack_9 : decode cX3_stepBack 9 = .ok (.aload_n 0, 1) := by decide +kernel
theorem dX3_stepBack_10 : decode cX3_stepBack 10 = .ok (.dup, 1) := by decide +kernel
theorem dX3_stepBack_11 : decode cX3_stepBack 11 = .ok (.getfield 28, 3) := by decide +kernel
theorem dX3_stepBack_14 : decode cX3_stepBack 14 = .ok (.iconst 1, 1) := by decide +kernel
theorem dX3_stepBack_15 : decode cX3_stepBack 15 = .ok (.isub, 1) := by decide +kernel
theorem dX3_stepBack_16 : decode cX3_stepBack 16 = .ok (.putfield 28, 3) := by decide +kernel
theorem dX3_stepBack_19 : decode cX3_stepBack 19 = .ok (.aload_n 0, 1) := by decide +kernel
theorem dX3_stepBack_20 : decode cX3_stepBack 20 = .ok (.dup, 1) := by decide +kernel
theorem dX3_stepBack_21 : decode cX3_stepBack 21 = .ok (.getfield 31, 3) := by decide +kernel
theorem dX3_stepBack_24 : decode cX3_stepBack 24 = .ok (.iconst 1, 1) := by decide +kernel
theorem dX3_stepBack_25 : decode cX3_stepBack 25 = .ok (.iadd, 1) := by decide +kernel
theorem dX3_stepBack_26 : decode cX3_stepBack 26 = .ok (.putfield 31, 3) := by decide +kernel
theorem dX3_stepBack_29 : decode cX3_stepBack 29 = .ok (.aload_n 0, 1) := by decide +kernel
theorem dX3_stepBack_30 : decode cX3_stepBack 30 = .ok (.aload_n 0, 1) := by decide +kernel
theorem dX3_stepBack_31 : decode cX3_stepBack 31 = .ok (.getfield 24, 3) := by decide +kernel
theorem dX3_stepBack_34 : decode cX3_stepBack 34 = .ok (.bipush 41, 2) := by decide +kernel
theorem dX3_stepBack_36 : decode cX3_stepBack 36 = .ok (.iadd, 1) := by decide +kernel
theorem dX3_stepBack_37 : decode cX3_stepBack 37 = .ok (.iconst 1, 1) := by decide +kernel
theorem dX3_stepBack_38 : decode cX3_stepBack 38 = .ok (.isub, 1) := by decide +kernel
theorem dX3_stepBack_39 : decode cX3_stepBack 39 = .ok (.bipush 41, 2) := by decide +kernel
theorem dX3_stepBack_41 : decode cX3_stepBack 41 = .ok (.irem, 1) := by decide +kernel
theorem dX3_stepBack_42 : decode cX3_stepBack 42 = .ok (.putfield 24, 3) := by decide +kernel
theorem dX3_stepBack_45 : decode cX3_stepBack 45 = .ok (.iconst 1, 1) := by decide +kernel
theorem dX3_stepBack_46 : decode cX3_stepBack 46 = .ok (.ireturn, 1) := by decide +kernel
theorem dX3_stepOn_0 : decode cX3_stepOn 0 = .ok (.aload_n 0, 1) := by decide +kernel
theorem dX3_stepOn_1 : decode cX3_stepOn 1 = .ok (.getfield 31, 3) := by decide +kernel
theorem dX3_stepOn_4 : decode cX3_stepOn 4 = .ok (.ifCond .ne 5, 3) := by decide +kernel
theorem dX3_stepOn_7 : decode cX3_stepOn 7 = .ok (.iconst 0, 1) := by decide +kernel
theorem dX3_stepOn_8 : decode cX3_stepOn 8 = .ok (.ireturn, 1) := by decide +kernel
theorem dX3_stepOn_9 : decode cX3_stepOn 9 = .ok (.aload_n 0, 1) := by decide +kernel
theorem dX3_stepOn_10 : decode cX3_stepOn 10 = .ok (.dup, 1) := by decide +kernel
theorem dX3_stepOn_11 : decode cX3_stepOn 11 = .ok (.getfield 31, 3) := by decide +kernel
theorem dX3_stepOn_14 : decode cX3_stepOn 14 = .ok (.iconst 1, 1) := by decide +kernel
theorem dX3_stepOn_15 : decode cX3_stepOn 15 = .ok (.isub, 1) := by decide +kernel
theorem dX3_stepOn_16 : decode cX3_stepOn 16 = .ok (.putfield 31, 3) := by decide +kernel
theorem dX3_stepOn_19 : decode cX3_stepOn 19 = .ok (.aload_n 0, 1) := by decide +kernel
theorem dX3_stepOn_20 : decode cX3_stepOn 20 = .ok (.dup, 1) := by decide +kernel
theorem dX3_stepOn_21 : decode cX3_stepOn 21 = .ok (.getfield 28, 3) := by decide +kernel
theorem dX3_stepOn_24 : decode cX3_stepOn 24 = .ok (.iconst 1, 1) := by decide +kernel
theorem dX3_stepOn_25 : decode cX3_stepOn 25 = .ok (.iadd, 1) := by decide +kernel
theorem dX3_stepOn_26 : decode cX3_stepOn 26 = .ok (.putfield 28, 3) := by decide +kernel
theorem dX3_stepOn_29 : decode cX3_stepOn 29 = .ok (.aload_n 0, 1) := by decide +kernel
theorem dX3_stepOn_30 : decode cX3_stepOn 30 = .ok (.aload_n 0, 1) := by decide +kernel
theorem dX3_stepOn_31 : decode cX3_stepOn 31 = .ok (.getfield 24, 3) := by decide +kernel
theorem dX3_stepOn_34 : decode cX3_stepOn 34 = .ok (.iconst 1, 1) := by decide +kernel
theorem dX3_stepOn_35 : decode cX3_stepOn 35 = .ok (.iadd, 1) := by decide +kernel
theorem dX3_stepOn_36 : decode cX3_stepOn 36 = .ok (.bipush 41, 2) := by decide +kernel
theorem dX3_stepOn_38 : decode cX3_stepOn 38 = .ok (.irem, 1) := by decide +kernel
theorem dX3_stepOn_39 : decode cX3_stepOn 39 = .ok (.putfield 24, 3) := by decide +kernel
theorem dX3_stepOn_42 : decode cX3_stepOn 42 = .ok (.iconst 1, 1) := by decide +kernel
theorem dX3_stepOn_43 : decode cX3_stepOn 43 = .ok (.ireturn, 1) := by decide +kernel
theorem dX3_keep_0 : decode cX3_keep 0 = .ok (.aload_n 0, 1) := by decide +kernel
theorem dX3_keep_1 : decode cX3_keep 1 = .ok (.getfield 17, 3) := by decide +kernel
theorem dX3_keep_4 : decode cX3_keep 4 = .ok (.iload_n 1, 1) := by decide +kernel
theorem dX3_keep_5 : decode cX3_keep 5 = .ok (.aaload, 1) := by decide +kernel
theorem dX3_keep_6 : decode cX3_keep 6 = .ok (.aload_n 0, 1) := by decide +kernel
theorem dX3_keep_7 : decode cX3_keep 7 = .ok (.invokevirtual 38, 3) := by decide +kernel
theorem dX3_keep_10 : decode cX3_keep 10 = .ok (.invokevirtual 46, 3) := by decide +kernel
theorem dX3_keep_13 : decode cX3_keep 13 = .ok (.aload_n 0, 1) := by decide +kernel
theorem dX3_keep_14 : decode cX3_keep 14 = .ok (.getfield 20, 3) := by decide +kernel
theorem dX3_keep_17 : decode cX3_keep 17 = .ok (.iload_n 1, 1) := by decide +kernel
theorem dX3_keep_18 : decode cX3_keep 18 = .ok (.iconst 1, 1) := by decide +kernel
theorem dX3_keep_19 : decode cX3_keep 19 = .ok (.bastore, 1) := by decide +kernel
theorem dX3_keep_20 : decode cX3_keep 20 = .ok (.aload_n 0, 1) := by decide +kernel
theorem dX3_keep_21 : decode cX3_keep 21 = .ok (.invokevirtual 38, 3) := by decide +kernel
theorem dX3_keep_24 : decode cX3_keep 24 = .ok (.getfield 56, 3) := by decide +kernel
theorem dX3_keep_27 : decode cX3_keep 27 = .ok (.ireturn, 1) := by decide +kernel
theorem dX3_bringBack_0 : decode cX3_bringBack 0 = .ok (.aload_n 0, 1) := by decide +kernel
theorem dX3_bringBack_1 : decode cX3_bringBack 1 = .ok (.getfield 20, 3) := by decide +kernel
theorem dX3_bringBack_4 : decode cX3_bringBack 4 = .ok (.iload_n 1, 1) := by decide +kernel
theorem dX3_bringBack_5 : decode cX3_bringBack 5 = .ok (.baload, 1) := by decide +kernel
theorem dX3_bringBack_6 : decode cX3_bringBack 6 = .ok (.ifCond .ne 5, 3) := by decide +kernel
theorem dX3_bringBack_9 : decode cX3_bringBack 9 = .ok (.iconst (-1), 1) := by decide +kernel
theorem dX3_bringBack_10 : decode cX3_bringBack 10 = .ok (.ireturn, 1) := by decide +kernel
theorem dX3_bringBack_11 : decode cX3_bringBack 11 = .ok (.aload_n 0, 1) := by decide +kernel
theorem dX3_bringBack_12 : decode cX3_bringBack 12 = .ok (.invokevirtual 35, 3) := by decide +kernel
theorem dX3_bringBack_15 : decode cX3_bringBack 15 = .ok (.aload_n 0, 1) := by decide +kernel
theorem dX3_bringBack_16 : decode cX3_bringBack 16 = .ok (.invokevirtual 38, 3) := by decide +kernel
theorem dX3_bringBack_19 : decode cX3_bringBack 19 = .ok (.aload_n 0, 1) := by decide +kernel
theorem dX3_bringBack_20 : decode cX3_bringBack 20 = .ok (.getfield 17, 3) := by decide +kernel
theorem dX3_bringBack_23 : decode cX3_bringBack 23 = .ok (.iload_n 1, 1) := by decide +kernel
theorem dX3_bringBack_24 : decode cX3_bringBack 24 = .ok (.aaload, 1) := by decide +kernel
theorem dX3_bringBack_25 : decode cX3_bringBack 25 = .ok (.invokevirtual 46, 3) := by decide +kernel
theorem dX3_bringBack_28 : decode cX3_bringBack 28 = .ok (.aload_n 0, 1) := by decide +kernel
theorem dX3_bringBack_29 : decode cX3_bringBack 29 = .ok (.invokevirtual 38, 3) := by decide +kernel
theorem dX3_bringBack_32 : decode cX3_bringBack 32 = .ok (.getfield 56, 3) := by decide +kernel
theorem dX3_bringBack_35 : decode cX3_bringBack 35 = .ok (.ireturn, 1) := by decide +kernel
theorem dX4_init_0 : decode cX4_init 0 = .ok (.aload_n 0, 1) := by decide +kernel
theorem dX4_init_1 : decode cX4_init 1 = .ok (.invokespecial 5, 3) := by decide +kernel
theorem dX4_init_4 : decode cX4_init 4 = .ok (.aload_n 0, 1) := by decide +kernel
theorem dX4_init_5 : decode cX4_init 5 = .ok (.sipush 512, 3) := by decide +kernel
theorem dX4_init_8 : decode cX4_init 8 = .ok (.newarray .int, 2) := by decide +kernel
theorem dX4_init_10 : decode cX4_init 10 = .ok (.putfield 11, 3) := by decide +kernel
theorem dX4_init_13 : decode cX4_init 13 = .ok (.aload_n 0, 1) := by decide +kernel
theorem dX4_init_14 : decode cX4_init 14 = .ok (.sipush 512, 3) := by decide +kernel
theorem dX4_init_17 : decode cX4_init 17 = .ok (.newarray .int, 2) := by decide +kernel
theorem dX4_init_19 : decode cX4_init 19 = .ok (.putfield 15, 3) := by decide +kernel
theorem dX4_init_22 : decode cX4_init 22 = .ok (.aload_n 0, 1) := by decide +kernel
theorem dX4_init_23 : decode cX4_init 23 = .ok (.bipush 8, 2) := by decide +kernel
theorem dX4_init_25 : decode cX4_init 25 = .ok (.newarray .int, 2) := by decide +kernel
theorem dX4_init_27 : decode cX4_init 27 = .ok (.putfield 18, 3) := by decide +kernel
theorem dX4_init_30 : decode cX4_init 30 = .ok (.aload_n 0, 1) := by decide +kernel
theorem dX4_init_31 : decode cX4_init 31 = .ok (.iconst 1, 1) := by decide +kernel
theorem dX4_init_32 : decode cX4_init 32 = .ok (.putfield 21, 3) := by decide +kernel
theorem dX4_init_35 : decode cX4_init 35 = .ok (.iconst 0, 1) := by decide +kernel
theorem dX4_init_36 : decode cX4_init 36 = .ok (.istore_n 1, 1) := by decide +kernel
theorem dX4_init_37 : decode cX4_init 37 = .ok (.iload_n 1, 1) := by decide +kernel
theorem dX4_init_38 : decode cX4_init 38 = .ok (.bipush 8, 2) := by decide +kernel
theorem dX4_init_40 : decode cX4_init 40 = .ok (.if_icmp .ge 54, 3) := by decide +kernel
theorem dX4_init_43 : decode cX4_init 43 = .ok (.iconst 0, 1) := by decide +kernel
theorem dX4_init_44 : decode cX4_init 44 = .ok (.istore_n 2, 1) := by decide +kernel
theorem dX4_init_45 : decode cX4_init 45 = .ok (.iload_n 2, 1) := by decide +kernel
theorem dX4_init_46 : decode cX4_init 46 = .ok (.bipush 6, 2) := by decide +kernel
theorem dX4_init_48 : decode cX4_init 48 = .ok (.if_icmp .ge 40, 3) := by decide +kernel
theorem dX4_init_51 : decode cX4_init 51 = .ok (.aload_n 0, 1) := by decide +kernel
theorem dX4_init_52 : decode cX4_init 52 = .ok (.getfield 11, 3) := by decide +kernel
theorem dX4_init_55 : decode cX4_init 55 = .ok (.iload_n 1, 1) := by decide +kernel
theorem dX4_init_56 : decode cX4_init 56 = .ok (.iload_n 2, 1) := by decide +kernel
theorem dX4_init_57 : decode cX4_init 57 = .ok (.iload_n 2, 1) := by decide +kernel
theorem dX4_init_58 : decode cX4_init 58 = .ok (.iload_n 1, 1) := by decide +kernel
theorem dX4_init_59 : decode cX4_init 59 = .ok (.invokestatic 25, 3) := by decide +kernel
theorem dX4_init_62 : decode cX4_init 62 = .ok (.invokestatic 29, 3) := by decide +kernel
theorem dX4_init_65 : decode cX4_init 65 = .ok (.aload_n 0, 1) := by decide +kernel
theorem dX4_init_66 : decode cX4_init 66 = .ok (.getfield 15, 3) := by decide +kernel
theorem dX4_init_69 : decode cX4_init 69 = .ok (.iload_n 1, 1) := by decide +kernel
theorem dX4_init_70 : decode cX4_init 70 = .ok (.iload_n 2, 1) := by decide +kernel
theorem dX4_init_71 : decode cX4_init 71 = .ok (.iload_n 2, 1) := by decide +kernel
theorem dX4_init_72 : decode cX4_init 72 = .ok (.bipush 6, 2) := by decide +kernel
theorem dX4_init_74 : decode cX4_init 74 = .ok (.iadd, 1) := by decide +kernel
theorem dX4_init_75 : decode cX4_init 75 = .ok (.iload_n 1, 1) := by decide +kernel
theorem dX4_init_76 : decode cX4_init 76 = .ok (.invokestatic 25, 3) := by decide +kernel
theorem dX4_init_79 : decode cX4_init 79 = .ok (.invokestatic 29, 3) := by decide +kernel
theorem dX4_init_82 : decode cX4_init 82 = .ok (.iinc 2 1, 3) := by decide +kernel
theorem dX4_init_85 : decode cX4_init 85 = .ok (.goto (-40), 3) := by decide +kernel
theorem dX4_init_88 : decode cX4_init 88 = .ok (.iinc 1 1, 3) := by decide +kernel
theorem dX4_init_91 : decode cX4_init 91 = .ok (.goto (-54), 3) := by decide +kernel
theorem dX4_init_94 : decode cX4_init 94 = .ok (.return_, 1) := by decide +kernel
theorem dX4_enter_0 : decode cX4_enter 0 = .ok (.iload_n 1, 1) := by decide +kernel
theorem dX4_enter_1 : decode cX4_enter 1 = .ok (.bipush 64, 2) := by decide +kernel
theorem dX4_enter_3 : decode cX4_enter 3 = .ok (.imul, 1) := by decide +kernel
theorem dX4_enter_4 : decode cX4_enter 4 = .ok (.istore 4, 2) := by decide +kernel
theorem dX4_enter_6 : decode cX4_enter 6 = .ok (.iconst 0, 1) := by decide +kernel
theorem dX4_enter_7 : decode cX4_enter 7 = .ok (.istore 5, 2) := by decide +kernel
theorem dX4_enter_9 : decode cX4_enter 9 = .ok (.iload 5, 2) := by decide +kernel
theorem dX4_enter_11 : decode cX4_enter 11 = .ok (.iconst 1, 1) := by decide +kernel
theorem dX4_enter_12 : decode cX4_enter 12 = .ok (.iload_n 2, 1) := by decide +kernel
theorem dX4_enter_13 : decode cX4_enter 13 = .ok (.ishl, 1) := by decide +kernel
theorem dX4_enter_14 : decode cX4_enter 14 = .ok (.if_icmp .ge 31, 3) := by decide +kernel
theorem dX4_enter_17 : decode cX4_enter 17 = .ok (.aload_n 0, 1) := by decide +kernel
theorem dX4_enter_18 : decode cX4_enter 18 = .ok (.iload 4, 2) := by decide +kernel
theorem dX4_enter_20 : decode cX4_enter 20 = .ok (.iconst 1, 1) := by decide +kernel
theorem dX4_enter_21 : decode cX4_enter 21 = .ok (.iload_n 2, 1) := by decide +kernel
theorem dX4_enter_22 : decode cX4_enter 22 = .ok (.ishl, 1) := by decide +kernel
theorem dX4_enter_23 : decode cX4_enter 23 = .ok (.iadd, 1) := by decide +kernel
theorem dX4_enter_24 : decode cX4_enter 24 = .ok (.iload 5, 2) := by decide +kernel
theorem dX4_enter_26 : decode cX4_enter 26 = .ok (.iadd, 1) := by decide +kernel
theorem dX4_enter_27 : decode cX4_enter 27 = .ok (.aload_n 0, 1) := by decide +kernel
theorem dX4_enter_28 : decode cX4_enter 28 = .ok (.iload 4, 2) := by decide +kernel
theorem dX4_enter_30 : decode cX4_enter 30 = .ok (.iload 5, 2) := by decide +kernel
theorem dX4_enter_32 : decode cX4_enter 32 = .ok (.iadd, 1) := by decide +kernel
theorem dX4_enter_33 : decode cX4_enter 33 = .ok (.iaload, 1) := by decide +kernel
theorem dX4_enter_34 : decode cX4_enter 34 = .ok (.iconst 1, 1) := by decide +kernel
theorem dX4_enter_35 : decode cX4_enter 35 = .ok (.iload_n 3, 1) := by decide +kernel
theorem dX4_enter_36 : decode cX4_enter 36 = .ok (.ishl, 1) := by decide +kernel
theorem dX4_enter_37 : decode cX4_enter 37 = .ok (.ior, 1) := by decide +kernel
theorem dX4_enter_38 : decode cX4_enter 38 = .ok (.iastore, 1) := by decide +kernel
theorem dX4_enter_39 : decode cX4_enter 39 = .ok (.iinc 5 1, 3) := by decide +kernel
theorem dX4_enter_42 : decode cX4_enter 42 = .ok (.goto (-33), 3) := by decide +kernel
theorem dX4_enter_45 : decode cX4_enter 45 = .ok (.return_, 1) := by decide +kernel
theorem dX4_movedStroke_0 : decode cX4_movedStroke 0 = .ok (.iload_n 0, 1) := by decide +kernel
theorem dX4_movedStroke_1 : decode cX4_movedStroke 1 = .ok (.bipush 6, 2) := by decide +kernel
theorem dX4_movedStroke_3 : decode cX4_movedStroke 3 = .ok (.isub, 1) := by decide +kernel
theorem dX4_movedStroke_4 : decode cX4_movedStroke 4 = .ok (.istore_n 2, 1) := by decide +kernel
theorem dX4_movedStroke_5 : decode cX4_movedStroke 5 = .ok (.iload_n 2, 1) := by decide +kernel
theorem dX4_movedStroke_6 : decode cX4_movedStroke 6 = .ok (.ifCond .ge 13, 3) := by decide +kernel
theorem dX4_movedStroke_9 : decode cX4_movedStroke 9 = .ok (.iconst 2, 1) := by decide +kernel
theorem dX4_movedStroke_10 : decode cX4_movedStroke 10 = .ok (.iload_n 0, 1) := by decide +kernel
theorem dX4_movedStroke_11 : decode cX4_movedStroke 11 = .ok (.iconst 2, 1) := by decide +kernel
theorem dX4_movedStroke_12 : decode cX4_movedStroke 12 = .ok (.irem, 1) := by decide +kernel
theorem dX4_movedStroke_13 : decode cX4_movedStroke 13 = .ok (.imul, 1) := by decide +kernel
theorem dX4_movedStroke_14 : decode cX4_movedStroke 14 = .ok (.iconst 1, 1) := by decide +kernel
theorem dX4_movedStroke_15 : decode cX4_movedStroke 15 = .ok (.iadd, 1) := by decide +kernel
theorem dX4_movedStroke_16 : decode cX4_movedStroke 16 = .ok (.goto 8, 3) := by decide +kernel
theorem dX4_movedStroke_19 : decode cX4_movedStroke 19 = .ok (.iconst 2, 1) := by decide +kernel
theorem dX4_movedStroke_20 : decode cX4_movedStroke 20 = .ok (.iload_n 2, 1) := by decide +kernel
theorem dX4_movedStroke_21 : decode cX4_movedStroke 21 = .ok (.iconst 3, 1) := by decide +kernel
theorem dX4_movedStroke_22 : decode cX4_movedStroke 22 = .ok (.irem, 1) := by decide +kernel
theorem dX4_movedStroke_23 : decode cX4_movedStroke 23 = .ok (.imul, 1) := by decide +kernel
theorem dX4_movedStroke_24 : decode cX4_movedStroke 24 = .ok (.istore_n 3, 1) := by decide +kernel
theorem dX4_movedStroke_25 : decode cX4_movedStroke 25 = .ok (.iload_n 2, 1) := by decide +kernel
theorem dX4_movedStroke_26 : decode cX4_movedStroke 26 = .ok (.ifCond .ge 11, 3) := by decide +kernel
theorem dX4_movedStroke_29 : decode cX4_movedStroke 29 = .ok (.iconst 2, 1) := by decide +kernel
theorem dX4_movedStroke_30 : decode cX4_movedStroke 30 = .ok (.iload_n 0, 1) := by decide +kernel
theorem dX4_movedStroke_31 : decode cX4_movedStroke 31 = .ok (.iconst 2, 1) := by decide +kernel
theorem dX4_movedStroke_32 : decode cX4_movedStroke 32 = .ok (.idiv, 1) := by decide +kernel
theorem dX4_movedStroke_33 : decode cX4_movedStroke 33 = .ok (.imul, 1) := by decide +kernel
theorem dX4_movedStroke_34 : decode cX4_movedStroke 34 = .ok (.goto 10, 3) := by decide +kernel
theorem dX4_movedStroke_37 : decode cX4_movedStroke 37 = .ok (.iconst 2, 1) := by decide +kernel
theorem dX4_movedStroke_38 : decode cX4_movedStroke 38 = .ok (.iload_n 2, 1) := by decide +kernel
theorem dX4_movedStroke_39 : decode cX4_movedStroke 39 = .ok (.iconst 3, 1) := by decide +kernel
theorem dX4_movedStroke_40 : decode cX4_movedStroke 40 = .ok (.idiv, 1) := by decide +kernel
theorem dX4_movedStroke_41 : decode cX4_movedStroke 41 = .ok (.imul, 1) := by decide +kernel
theorem dX4_movedStroke_42 : decode cX4_movedStroke 42 = .ok (.iconst 1, 1) := by decide +kernel
theorem dX4_movedStroke_43 : decode cX4_movedStroke 43 = .ok (.iadd, 1) := by decide +kernel
theorem dX4_movedStroke_44 : decode cX4_movedStroke 44 = .ok (.istore 4, 2) := by decide +kernel
theorem dX4_movedStroke_46 : decode cX4_movedStroke 46 = .ok (.iload_n 1, 1) := by decide +kernel
theorem dX4_movedStroke_47 : decode cX4_movedStroke 47 = .ok (.iconst 4, 1) := by decide +kernel
theorem dX4_movedStroke_48 : decode cX4_movedStroke 48 = .ok (.if_icmp .lt 7, 3) := by decide +kernel
theorem dX4_movedStroke_51 : decode cX4_movedStroke 51 = .ok (.iconst 4, 1) := by decide +kernel
theorem dX4_movedStroke_52 : decode cX4_movedStroke 52 = .ok (.iload_n 3, 1) := by decide +kernel
theorem dX4_movedStroke_53 : decode cX4_movedStroke 53 = .ok (.isub, 1) := by decide +kernel
theorem dX4_movedStroke_54 : decode cX4_movedStroke 54 = .ok (.istore_n 3, 1) := by decide +kernel
theorem dX4_movedStroke_55 : decode cX4_movedStroke 55 = .ok (.iconst 0, 1) := by decide +kernel
theorem dX4_movedStroke_56 : decode cX4_movedStroke 56 = .ok (.istore 5, 2) := by decide +kernel
theorem dX4_movedStroke_58 : decode cX4_movedStroke 58 = .ok (.iload 5, 2) := by decide +kernel
theorem dX4_movedStroke_60 : decode cX4_movedStroke 60 = .ok (.iload_n 1, 1) := by decide +kernel
theorem dX4_movedStroke_61 : decode cX4_movedStroke 61 = .ok (.iconst 4, 1) := by decide +kernel
theorem dX4_movedStroke_62 : decode cX4_movedStroke 62 = .ok (.irem, 1) := by decide +kernel
theorem dX4_movedStroke_63 : decode cX4_movedStroke 63 = .ok (.if_icmp .ge 21, 3) := by decide +kernel
theorem dX4_movedStroke_66 : decode cX4_movedStroke 66 = .ok (.iload_n 3, 1) := by decide +kernel
theorem dX4_movedStroke_67 : decode cX4_movedStroke 67 = .ok (.istore 6, 2) := by decide +kernel
theorem dX4_movedStroke_69 : decode cX4_movedStroke 69 = .ok (.iconst 4, 1) := by decide +kernel
theorem dX4_movedStroke_70 : decode cX4_movedStroke 70 = .ok (.iload 4, 2) := by decide +kernel
theorem dX4_movedStroke_72 : decode cX4_movedStroke 72 = .ok (.isub, 1) := by decide +kernel
theorem dX4_movedStroke_73 : decode cX4_movedStroke 73 = .ok (.istore_n 3, 1) := by decide +kernel
theorem dX4_movedStroke_74 : decode cX4_movedStroke 74 = .ok (.iload 6, 2) := by decide +kernel
theorem dX4_movedStroke_76 : decode cX4_movedStroke 76 = .ok (.istore 4, 2) := by decide +kernel
theorem dX4_movedStroke_78 : decode cX4_movedStroke 78 = .ok (.iinc 5 1, 3) := by decide +kernel
theorem dX4_movedStroke_81 : decode cX4_movedStroke 81 = .ok (.goto (-23), 3) := by decide +kernel
theorem dX4_movedStroke_84 : decode cX4_movedStroke 84 = .ok (.iload 4, 2) := by decide +kernel
theorem dX4_movedStroke_86 : decode cX4_movedStroke 86 = .ok (.iconst 2, 1) := by decide +kernel
theorem dX4_movedStroke_87 : decode cX4_movedStroke 87 = .ok (.irem, 1) := by decide +kernel
theorem dX4_movedStroke_88 : decode cX4_movedStroke 88 = .ok (.ifCond .ne 12, 3) := by decide +kernel
theorem dX4_movedStroke_91 : decode cX4_movedStroke 91 = .ok (.iload 4, 2) := by decide +kernel
theorem dX4_movedStroke_93 : decode cX4_movedStroke 93 = .ok (.iload_n 3, 1) := by decide +kernel
theorem dX4_movedStroke_94 : decode cX4_movedStroke 94 = .ok (.iconst 2, 1) := by decide +kernel
theorem dX4_movedStroke_95 : decode cX4_movedStroke 95 = .ok (.idiv, 1) := by decide +kernel
theorem dX4_movedStroke_96 : decode cX4_movedStroke 96 = .ok (.iadd, 1) := by decide +kernel
theorem dX4_movedStroke_97 : decode cX4_movedStroke 97 = .ok (.goto 16, 3) := by decide +kernel
theorem dX4_movedStroke_100 : decode cX4_movedStroke 100 = .ok (.bipush 6, 2) := by decide +kernel
theorem dX4_movedStroke_102 : decode cX4_movedStroke 102 = .ok (.iconst 3, 1) := by decide +kernel
theorem dX4_movedStroke_103 : decode cX4_movedStroke 103 = .ok (.iload 4, 2) := by decide +kernel
theorem dX4_movedStroke_105 : decode cX4_movedStroke 105 = .ok (.iconst 2, 1) := by decide +kernel
theorem dX4_movedStroke_106 : decode cX4_movedStroke 106 = .ok (.idiv, 1) := by decide +kernel
theorem dX4_movedStroke_107 : decode cX4_movedStroke 107 = .ok (.imul, 1) := by decide +kernel
theorem dX4_movedStroke_108 : decode cX4_movedStroke 108 = .ok (.iadd, 1) := by decide +kernel
theorem dX4_movedStroke_109 : decode cX4_movedStroke 109 = .ok (.iload_n 3, 1) := by decide +kernel
theorem dX4_movedStroke_110 : decode cX4_movedStroke 110 = .ok (.iconst 2, 1) := by decide +kernel
theorem dX4_movedStroke_111 : decode cX4_movedStroke 111 = .ok (.idiv, 1) := by decide +kernel
theorem dX4_movedStroke_112 : decode cX4_movedStroke 112 = .ok (.iadd, 1) := by decide +kernel
theorem dX4_movedStroke_113 : decode cX4_movedStroke 113 = .ok (.ireturn, 1) := by decide +kernel
theorem dX4_choose_0 : decode cX4_choose 0 = .ok (.iload_n 1, 1) := by decide +kernel
theorem dX4_choose_1 : decode cX4_choose 1 = .ok (.iconst 4, 1) := by decide +kernel
theorem dX4_choose_2 : decode cX4_choose 2 = .ok (.if_icmp .ne 7, 3) := by decide +kernel
theorem dX4_choose_5 : decode cX4_choose 5 = .ok (.iconst 1, 1) := by decide +kernel
theorem dX4_choose_6 : decode cX4_choose 6 = .ok (.goto 13, 3) := by decide +kernel
theorem dX4_choose_9 : decode cX4_choose 9 = .ok (.iload_n 1, 1) := by decide +kernel
theorem dX4_choose_10 : decode cX4_choose 10 = .ok (.iconst 2, 1) := by decide +kernel
theorem dX4_choose_11 : decode cX4_choose 11 = .ok (.if_icmp .ne 7, 3) := by decide +kernel
theorem dX4_choose_14 : decode cX4_choose 14 = .ok (.iconst 2, 1) := by decide +kernel
theorem dX4_choose_15 : decode cX4_choose 15 = .ok (.goto 4, 3) := by decide +kernel
theorem dX4_choose_18 : decode cX4_choose 18 = .ok (.iconst 4, 1) := by decide +kernel
theorem dX4_choose_19 : decode cX4_choose 19 = .ok (.istore_n 3, 1) := by decide +kernel
theorem dX4_choose_20 : decode cX4_choose 20 = .ok (.aload_n 0, 1) := by decide +kernel
theorem dX4_choose_21 : decode cX4_choose 21 = .ok (.iconst 0, 1) := by decide +kernel
theorem dX4_choose_22 : decode cX4_choose 22 = .ok (.putfield 21, 3) := by decide +kernel
theorem dX4_choose_25 : decode cX4_choose 25 = .ok (.iconst 0, 1) := by decide +kernel
theorem dX4_choose_26 : decode cX4_choose 26 = .ok (.istore 4, 2) := by decide +kernel
theorem dX4_choose_28 : decode cX4_choose 28 = .ok (.iload 4, 2) := by decide +kernel
theorem dX4_choose_30 : decode cX4_choose 30 = .ok (.iload_n 2, 1) := by decide +kernel
theorem dX4_choose_31 : decode cX4_choose 31 = .ok (.ifCond .eq 8, 3) := by decide +kernel
theorem dX4_choose_34 : decode cX4_choose 34 = .ok (.bipush 8, 2) := by decide +kernel
theorem dX4_choose_36 : decode cX4_choose 36 = .ok (.goto 4, 3) := by decide +kernel
theorem dX4_choose_39 : decode cX4_choose 39 = .ok (.iconst 4, 1) := by decide +kernel
theorem dX4_choose_40 : decode cX4_choose 40 = .ok (.if_icmp .ge 33, 3) := by decide +kernel
theorem dX4_choose_43 : decode cX4_choose 43 = .ok (.aload_n 0, 1) := by decide +kernel
theorem dX4_choose_44 : decode cX4_choose 44 = .ok (.getfield 18, 3) := by decide +kernel
theorem dX4_choose_47 : decode cX4_choose 47 = .ok (.aload_n 0, 1) := by decide +kernel
theorem dX4_choose_48 : decode cX4_choose 48 = .ok (.getfield 21, 3) := by decide +kernel
theorem dX4_choose_51 : decode cX4_choose 51 = .ok (.iload 4, 2) := by decide +kernel
theorem dX4_choose_53 : decode cX4_choose 53 = .ok (.iastore, 1) := by decide +kernel
theorem dX4_choose_54 : decode cX4_choose 54 = .ok (.aload_n 0, 1) := by decide +kernel
theorem dX4_choose_55 : decode cX4_choose 55 = .ok (.dup, 1) := by decide +kernel
theorem dX4_choose_56 : decode cX4_choose 56 = .ok (.getfield 21, 3) := by decide +kernel
theorem dX4_choose_59 : decode cX4_choose 59 = .ok (.iconst 1, 1) := by decide +kernel
theorem dX4_choose_60 : decode cX4_choose 60 = .ok (.iadd, 1) := by decide +kernel
theorem dX4_choose_61 : decode cX4_choose 61 = .ok (.putfield 21, 3) := by decide +kernel
theorem dX4_choose_64 : decode cX4_choose 64 = .ok (.iload 4, 2) := by decide +kernel
theorem dX4_choose_66 : decode cX4_choose 66 = .ok (.iload_n 3, 1) := by decide +kernel
theorem dX4_choose_67 : decode cX4_choose 67 = .ok (.iadd, 1) := by decide +kernel
theorem dX4_choose_68 : decode cX4_choose 68 = .ok (.istore 4, 2) := by decide +kernel
theorem dX4_choose_70 : decode cX4_choose 70 = .ok (.goto (-42), 3) := by decide +kernel
theorem dX4_choose_73 : decode cX4_choose 73 = .ok (.return_, 1) := by decide +kernel
theorem dX4_placements_0 : decode cX4_placements 0 = .ok (.aload_n 0, 1) := by decide +kernel
theorem dX4_placements_1 : decode cX4_placements 1 = .ok (.getfield 21, 3) := by decide +kernel
theorem dX4_placements_4 : decode cX4_placements 4 = .ok (.ireturn, 1) := by decide +kernel
theorem dX4_moved_0 : decode cX4_moved 0 = .ok (.aload_n 0, 1) := by decide +kernel
theorem dX4_moved_1 : decode cX4_moved 1 = .ok (.getfield 18, 3) := by decide +kernel
theorem dX4_moved_4 : decode cX4_moved 4 = .ok (.iload_n 2, 1) := by decide +kernel
theorem dX4_moved_5 : decode cX4_moved 5 = .ok (.iaload, 1) := by decide +kernel
theorem dX4_moved_6 : decode cX4_moved 6 = .ok (.bipush 64, 2) := by decide +kernel
theorem dX4_moved_8 : decode cX4_moved 8 = .ok (.imul, 1) := by decide +kernel
theorem dX4_moved_9 : decode cX4_moved 9 = .ok (.istore_n 3, 1) := by decide +kernel
theorem dX4_moved_10 : decode cX4_moved 10 = .ok (.aload_n 0, 1) := by decide +kernel
theorem dX4_moved_11 : decode cX4_moved 11 = .ok (.getfield 11, 3) := by decide +kernel
theorem dX4_moved_14 : decode cX4_moved 14 = .ok (.iload_n 3, 1) := by decide +kernel
theorem dX4_moved_15 : decode cX4_moved 15 = .ok (.iload_n 1, 1) := by decide +kernel
theorem dX4_moved_16 : decode cX4_moved 16 = .ok (.bipush 63, 2) := by decide +kernel
theorem dX4_moved_18 : decode cX4_moved 18 = .ok (.iand, 1) := by decide +kernel
theorem dX4_moved_19 : decode cX4_moved 19 = .ok (.iadd, 1) := by decide +kernel
theorem dX4_moved_20 : decode cX4_moved 20 = .ok (.iaload, 1) := by decide +kernel
theorem dX4_moved_21 : decode cX4_moved 21 = .ok (.aload_n 0, 1) := by decide +kernel
theorem dX4_moved_22 : decode cX4_moved 22 = .ok (.getfield 15, 3) := by decide +kernel
theorem dX4_moved_25 : decode cX4_moved 25 = .ok (.iload_n 3, 1) := by decide +kernel
theorem dX4_moved_26 : decode cX4_moved 26 = .ok (.iload_n 1, 1) := by decide +kernel
theorem dX4_moved_27 : decode cX4_moved 27 = .ok (.bipush 6, 2) := by decide +kernel
theorem dX4_moved_29 : decode cX4_moved 29 = .ok (.ishr, 1) := by decide +kernel
theorem dX4_moved_30 : decode cX4_moved 30 = .ok (.bipush 63, 2) := by decide +kernel
theorem dX4_moved_32 : decode cX4_moved 32 = .ok (.iand, 1) := by decide +kernel
theorem dX4_moved_33 : decode cX4_moved 33 = .ok (.iadd, 1) := by decide +kernel
theorem dX4_moved_34 : decode cX4_moved 34 = .ok (.iaload, 1) := by decide +kernel
theorem dX4_moved_35 : decode cX4_moved 35 = .ok (.ior, 1) := by decide +kernel
theorem dX4_moved_36 : decode cX4_moved 36 = .ok (.ireturn, 1) := by decide +kernel
theorem dX4_least_0 : decode cX4_least 0 = .ok (.iload_n 1, 1) := by decide +kernel
theorem dX4_least_1 : decode cX4_least 1 = .ok (.istore_n 2, 1) := by decide +kernel
theorem dX4_least_2 : decode cX4_least 2 = .ok (.iconst 1, 1) := by decide +kernel
theorem dX4_least_3 : decode cX4_least 3 = .ok (.istore_n 3, 1) := by decide +kernel
theorem dX4_least_4 : decode cX4_least 4 = .ok (.iload_n 3, 1) := by decide +kernel
theorem dX4_least_5 : decode cX4_least 5 = .ok (.aload_n 0, 1) := by decide +kernel
theorem dX4_least_6 : decode cX4_least 6 = .ok (.getfield 21, 3) := by decide +kernel
theorem dX4_least_9 : decode cX4_least 9 = .ok (.if_icmp .ge 20, 3) := by decide +kernel
theorem dX4_least_12 : decode cX4_least 12 = .ok (.iload_n 2, 1) := by decide +kernel
theorem dX4_least_13 : decode cX4_least 13 = .ok (.aload_n 0, 1) := by decide +kernel
theorem dX4_least_14 : decode cX4_least 14 = .ok (.iload_n 1, 1) := by decide +kernel
theorem dX4_least_15 : decode cX4_least 15 = .ok (.iload_n 3, 1) := by decide +kernel
theorem dX4_least_16 : decode cX4_least 16 = .ok (.invokevirtual 33, 3) := by decide +kernel
theorem dX4_least_19 : decode cX4_least 19 = .ok (.invokestatic 36, 3) := by decide +kernel
theorem dX4_least_22 : decode cX4_least 22 = .ok (.istore_n 2, 1) := by decide +kernel
theorem dX4_least_23 : decode cX4_least 23 = .ok (.iinc 3 1, 3) := by decide +kernel
theorem dX4_least_26 : decode cX4_least 26 = .ok (.goto (-22), 3) := by decide +kernel
theorem dX4_least_29 : decode cX4_least 29 = .ok (.iload_n 2, 1) := by decide +kernel
theorem dX4_least_30 : decode cX4_least 30 = .ok (.ireturn, 1) := by decide +kernel
theorem dX4_isOne_0 : decode cX4_isOne 0 = .ok (.iconst 0, 1) := by decide +kernel
theorem dX4_isOne_1 : decode cX4_isOne 1 = .ok (.istore_n 3, 1) := by decide +kernel
theorem dX4_isOne_2 : decode cX4_isOne 2 = .ok (.iload_n 3, 1) := by decide +kernel
theorem dX4_isOne_3 : decode cX4_isOne 3 = .ok (.aload_n 0, 1) := by decide +kernel
theorem dX4_isOne_4 : decode cX4_isOne 4 = .ok (.getfield 21, 3) := by decide +kernel
theorem dX4_isOne_7 : decode cX4_isOne 7 = .ok (.if_icmp .ge 21, 3) := by decide +kernel
theorem dX4_isOne_10 : decode cX4_isOne 10 = .ok (.aload_n 0, 1) := by decide +kernel
theorem dX4_isOne_11 : decode cX4_isOne 11 = .ok (.iload_n 1, 1) := by decide +kernel
theorem dX4_isOne_12 : decode cX4_isOne 12 = .ok (.iload_n 3, 1) := by decide +kernel
theorem dX4_isOne_13 : decode cX4_isOne 13 = .ok (.invokevirtual 33, 3) := by decide +kernel
theorem dX4_isOne_16 : decode cX4_isOne 16 = .ok (.iload_n 2, 1) := by decide +kernel
theorem dX4_isOne_17 : decode cX4_isOne 17 = .ok (.if_icmp .ne 5, 3) := by decide +kernel
theorem dX4_isOne_20 : decode cX4_isOne 20 = .ok (.iconst 1, 1) := by decide +kernel
theorem dX4_isOne_21 : decode cX4_isOne 21 = .ok (.ireturn, 1) := by decide +kernel
theorem dX4_isOne_22 : decode cX4_isOne 22 = .ok (.iinc 3 1, 3) := by decide +kernel
theorem dX4_isOne_25 : decode cX4_isOne 25 = .ok (.goto (-23), 3) := by decide +kernel
theorem dX4_isOne_28 : decode cX4_isOne 28 = .ok (.iconst 0, 1) := by decide +kernel
theorem dX4_isOne_29 : decode cX4_isOne 29 = .ok (.ireturn, 1) := by decide +kernel
theorem dX4_fits_0 : decode cX4_fits 0 = .ok (.iconst 0, 1) := by decide +kernel
theorem dX4_fits_1 : decode cX4_fits 1 = .ok (.istore_n 3, 1) := by decide +kernel
theorem dX4_fits_2 : decode cX4_fits 2 = .ok (.iload_n 3, 1) := by decide +kernel
theorem dX4_fits_3 : decode cX4_fits 3 = .ok (.aload_n 0, 1) := by decide +kernel
theorem dX4_fits_4 : decode cX4_fits 4 = .ok (.getfield 21, 3) := by decide +kernel
theorem dX4_fits_7 : decode cX4_fits 7 = .ok (.if_icmp .ge 24, 3) := by decide +kernel
theorem dX4_fits_10 : decode cX4_fits 10 = .ok (.aload_n 0, 1) := by decide +kernel
theorem dX4_fits_11 : decode cX4_fits 11 = .ok (.iload_n 1, 1) := by decide +kernel
theorem dX4_fits_12 : decode cX4_fits 12 = .ok (.iload_n 3, 1) := by decide +kernel
theorem dX4_fits_13 : decode cX4_fits 13 = .ok (.invokevirtual 33, 3) := by decide +kernel
theorem dX4_fits_16 : decode cX4_fits 16 = .ok (.iload_n 2, 1) := by decide +kernel
theorem dX4_fits_17 : decode cX4_fits 17 = .ok (.iconst (-1), 1) := by decide +kernel
theorem dX4_fits_18 : decode cX4_fits 18 = .ok (.ixor, 1) := by decide +kernel
theorem dX4_fits_19 : decode cX4_fits 19 = .ok (.iand, 1) := by decide +kernel
theorem dX4_fits_20 : decode cX4_fits 20 = .ok (.ifCond .ne 5, 3) := by decide +kernel
theorem dX4_fits_23 : decode cX4_fits 23 = .ok (.iconst 1, 1) := by decide +kernel
theorem dX4_fits_24 : decode cX4_fits 24 = .ok (.ireturn, 1) := by decide +kernel
theorem dX4_fits_25 : decode cX4_fits 25 = .ok (.iinc 3 1, 3) := by decide +kernel
theorem dX4_fits_28 : decode cX4_fits 28 = .ok (.goto (-26), 3) := by decide +kernel
theorem dX4_fits_31 : decode cX4_fits 31 = .ok (.iconst 0, 1) := by decide +kernel
theorem dX4_fits_32 : decode cX4_fits 32 = .ok (.ireturn, 1) := by decide +kernel
theorem dX4_unlikePlacements_0 : decode cX4_unlikePlacements 0 = .ok (.iconst 0, 1) := by decide +kernel
theorem dX4_unlikePlacements_1 : decode cX4_unlikePlacements 1 = .ok (.istore_n 2, 1) := by decide +kernel
theorem dX4_unlikePlacements_2 : decode cX4_unlikePlacements 2 = .ok (.iconst 0, 1) := by decide +kernel
theorem dX4_unlikePlacements_3 : decode cX4_unlikePlacements 3 = .ok (.istore_n 3, 1) := by decide +kernel
theorem dX4_unlikePlacements_4 : decode cX4_unlikePlacements 4 = .ok (.iload_n 3, 1) := by decide +kernel
theorem dX4_unlikePlacements_5 : decode cX4_unlikePlacements 5 = .ok (.aload_n 0, 1) := by decide +kernel
theorem dX4_unlikePlacements_6 : decode cX4_unlikePlacements 6 = .ok (.getfield 21, 3) := by decide +kernel
theorem dX4_unlikePlacements_9 : decode cX4_unlikePlacements 9 = .ok (.if_icmp .ge 72, 3) := by decide +kernel
theorem dX4_unlikePlacements_12 : decode cX4_unlikePlacements 12 = .ok (.aload_n 0, 1) := by decide +kernel
theorem dX4_unlikePlacements_13 : decode cX4_unlikePlacements 13 = .ok (.iload_n 1, 1) := by decide +kernel
theorem dX4_unlikePlacements_14 : decode cX4_unlikePlacements 14 = .ok (.iload_n 3, 1) := by decide +kernel
theorem dX4_unlikePlacements_15 : decode cX4_unlikePlacements 15 = .ok (.invokevirtual 33, 3) := by decide +kernel
theorem dX4_unlikePlacements_18 : decode cX4_unlikePlacements 18 = .ok (.istore 4, 2) := by decide +kernel
theorem dX4_unlikePlacements_20 : decode cX4_unlikePlacements 20 = .ok (.iconst 1, 1) := by decide +kernel
theorem dX4_unlikePlacements_21 : decode cX4_unlikePlacements 21 = .ok (.istore 5, 2) := by decide +kernel
theorem dX4_unlikePlacements_23 : decode cX4_unlikePlacements 23 = .ok (.iconst 0, 1) := by decide +kernel
theorem dX4_unlikePlacements_24 : decode cX4_unlikePlacements 24 = .ok (.istore 6, 2) := by decide +kernel
theorem dX4_unlikePlacements_26 : decode cX4_unlikePlacements 26 = .ok (.iload 6, 2) := by decide +kernel
theorem dX4_unlikePlacements_28 : decode cX4_unlikePlacements 28 = .ok (.iload_n 3, 1) := by decide +kernel
theorem dX4_unlikePlacements_29 : decode cX4_unlikePlacements 29 = .ok (.if_icmp .ge 33, 3) := by decide +kernel
theorem dX4_unlikePlacements_32 : decode cX4_unlikePlacements 32 = .ok (.iload 5, 2) := by decide +kernel
theorem dX4_unlikePlacements_34 : decode cX4_unlikePlacements 34 = .ok (.ifCond .eq 19, 3) := by decide +kernel
theorem dX4_unlikePlacements_37 : decode cX4_unlikePlacements 37 = .ok (.aload_n 0, 1) := by decide +kernel
theorem dX4_unlikePlacements_38 : decode cX4_unlikePlacements 38 = .ok (.iload_n 1, 1) := by decide +kernel
theorem dX4_unlikePlacements_39 : decode cX4_unlikePlacements 39 = .ok (.iload 6, 2) := by decide +kernel
theorem dX4_unlikePlacements_41 : decode cX4_unlikePlacements 41 = .ok (.invokevirtual 33, 3) := by decide +kernel
theorem dX4_unlikePlacements_44 : decode cX4_unlikePlacements 44 = .ok (.iload 4, 2) := by decide +kernel
theorem dX4_unlikePlacements_46 : decode cX4_unlikePlacements 46 = .ok (.if_icmp .eq 7, 3) := by decide +kernel
theorem dX4_unlikePlacements_49 : decode cX4_unlikePlacements 49 = .ok (.iconst 1, 1) := by decide +kernel
theorem dX4_unlikePlacements_50 : decode cX4_unlikePlacements 50 = .ok (.goto 4, 3) := by decide +kernel
theorem dX4_unlikePlacements_53 : decode cX4_unlikePlacements 53 = .ok (.iconst 0, 1) := by decide +kernel
theorem dX4_unlikePlacements_54 : decode cX4_unlikePlacements 54 = .ok (.istore 5, 2) := by decide +kernel
theorem dX4_unlikePlacements_56 : decode cX4_unlikePlacements 56 = .ok (.iinc 6 1, 3) := by decide +kernel
theorem dX4_unlikePlacements_59 : decode cX4_unlikePlacements 59 = .ok (.goto (-33), 3) := by decide +kernel
theorem dX4_unlikePlacements_62 : decode cX4_unlikePlacements 62 = .ok (.iload_n 2, 1) := by decide +kernel
theorem dX4_unlikePlacements_63 : decode cX4_unlikePlacements 63 = .ok (.iload 5, 2) := by decide +kernel
theorem dX4_unlikePlacements_65 : decode cX4_unlikePlacements 65 = .ok (.ifCond .eq 7, 3) := by decide +kernel
theorem dX4_unlikePlacements_68 : decode cX4_unlikePlacements 68 = .ok (.iconst 1, 1) := by decide +kernel
theorem dX4_unlikePlacements_69 : decode cX4_unlikePlacements 69 = .ok (.goto 4, 3) := by decide +kernel
theorem dX4_unlikePlacements_72 : decode cX4_unlikePlacements 72 = .ok (.iconst 0, 1) := by decide +kernel
theorem dX4_unlikePlacements_73 : decode cX4_unlikePlacements 73 = .ok (.iadd, 1) := by decide +kernel
theorem dX4_unlikePlacements_74 : decode cX4_unlikePlacements 74 = .ok (.istore_n 2, 1) := by decide +kernel
