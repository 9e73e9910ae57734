theorem dX12_layNeed_2 : decode cX12_layNeed 2 = .ok (.invokevirtual 364, 3) := by decide +kernel
theorem dX12_layNeed_5 : decode cX12_layNeed 5 = .ok (.istore_n 2, 1) := by decide +kernel
theorem dX12_layNeed_6 : decode cX12_layNeed 6 = .ok (.sipush 4095, 3) := by decide +kernel
theorem dX12_layNeed_9 : decode cX12_layNeed 9 = .ok (.istore_n 3, 1) := by decide +kernel
theorem dX12_layNeed_10 : decode cX12_layNeed 10 = .ok (.iload_n 3, 1) := by decide +kernel
theorem dX12_layNeed_11 : decode cX12_layNeed 11 = .ok (.ifCond .lt 132, 3) := by decide +kernel
theorem dX12_layNeed_14 : decode cX12_layNeed 14 = .ok (.aload_n 0, 1) := by decide +kernel
theorem dX12_layNeed_15 : decode cX12_layNeed 15 = .ok (.getfield 97, 3) := by decide +kernel
theorem dX12_layNeed_18 : decode cX12_layNeed 18 = .ok (.iload_n 3, 1) := by decide +kernel
theorem dX12_layNeed_19 : decode cX12_layNeed 19 = .ok (.bipush 100, 2) := by decide +kernel
theorem dX12_layNeed_21 : decode cX12_layNeed 21 = .ok (.iastore, 1) := by decide +kernel
theorem dX12_layNeed_22 : decode cX12_layNeed 22 = .ok (.iload_n 3, 1) := by decide +kernel
theorem dX12_layNeed_23 : decode cX12_layNeed 23 = .ok (.invokestatic 330, 3) := by decide +kernel
theorem dX12_layNeed_26 : decode cX12_layNeed 26 = .ok (.iload_n 1, 1) := by decide +kernel
theorem dX12_layNeed_27 : decode cX12_layNeed 27 = .ok (.invokestatic 330, 3) := by decide +kernel
theorem dX12_layNeed_30 : decode cX12_layNeed 30 = .ok (.if_icmp .ne 19, 3) := by decide +kernel
theorem dX12_layNeed_33 : decode cX12_layNeed 33 = .ok (.aload_n 0, 1) := by decide +kernel
theorem dX12_layNeed_34 : decode cX12_layNeed 34 = .ok (.iload_n 3, 1) := by decide +kernel
theorem dX12_layNeed_35 : decode cX12_layNeed 35 = .ok (.invokevirtual 364, 3) := by decide +kernel
theorem dX12_layNeed_38 : decode cX12_layNeed 38 = .ok (.iload_n 2, 1) := by decide +kernel
theorem dX12_layNeed_39 : decode cX12_layNeed 39 = .ok (.if_icmp .ne 10, 3) := by decide +kernel
theorem dX12_layNeed_42 : decode cX12_layNeed 42 = .ok (.aload_n 0, 1) := by decide +kernel
theorem dX12_layNeed_43 : decode cX12_layNeed 43 = .ok (.getfield 97, 3) := by decide +kernel
theorem dX12_layNeed_46 : decode cX12_layNeed 46 = .ok (.iload_n 3, 1) := by decide +kernel
theorem dX12_layNeed_47 : decode cX12_layNeed 47 = .ok (.iconst 0, 1) := by decide +kernel
theorem dX12_layNeed_48 : decode cX12_layNeed 48 = .ok (.iastore, 1) := by decide +kernel
theorem dX12_layNeed_49 : decode cX12_layNeed 49 = .ok (.iload_n 3, 1) := by decide +kernel
theorem dX12_layNeed_50 : decode cX12_layNeed 50 = .ok (.invokestatic 330, 3) := by decide +kernel
theorem dX12_layNeed_53 : decode cX12_layNeed 53 = .ok (.iload_n 1, 1) := by decide +kernel
theorem dX12_layNeed_54 : decode cX12_layNeed 54 = .ok (.invokestatic 330, 3) := by decide +kernel
theorem dX12_layNeed_57 : decode cX12_layNeed 57 = .ok (.if_icmp .lt 6, 3) := by decide +kernel
theorem dX12_layNeed_60 : decode cX12_layNeed 60 = .ok (.goto 77, 3) := by decide +kernel
theorem dX12_layNeed_63 : decode cX12_layNeed 63 = .ok (.iconst 0, 1) := by decide +kernel
theorem dX12_layNeed_64 : decode cX12_layNeed 64 = .ok (.istore 4, 2) := by decide +kernel
theorem dX12_layNeed_66 : decode cX12_layNeed 66 = .ok (.iload 4, 2) := by decide +kernel
theorem dX12_layNeed_68 : decode cX12_layNeed 68 = .ok (.aload_n 0, 1) := by decide +kernel
theorem dX12_layNeed_69 : decode cX12_layNeed 69 = .ok (.invokevirtual 374, 3) := by decide +kernel
theorem dX12_layNeed_72 : decode cX12_layNeed 72 = .ok (.aload_n 0, 1) := by decide +kernel
theorem dX12_layNeed_73 : decode cX12_layNeed 73 = .ok (.invokevirtual 358, 3) := by decide +kernel
theorem dX12_layNeed_76 : decode cX12_layNeed 76 = .ok (.imul, 1) := by decide +kernel
theorem dX12_layNeed_77 : decode cX12_layNeed 77 = .ok (.if_icmp .ge 60, 3) := by decide +kernel
theorem dX12_layNeed_80 : decode cX12_layNeed 80 = .ok (.aload_n 0, 1) := by decide +kernel
theorem dX12_layNeed_81 : decode cX12_layNeed 81 = .ok (.getfield 97, 3) := by decide +kernel
theorem dX12_layNeed_84 : decode cX12_layNeed 84 = .ok (.iload_n 3, 1) := by decide +kernel
theorem dX12_layNeed_85 : decode cX12_layNeed 85 = .ok (.aload_n 0, 1) := by decide +kernel
theorem dX12_layNeed_86 : decode cX12_layNeed 86 = .ok (.getfield 91, 3) := by decide +kernel
theorem dX12_layNeed_89 : decode cX12_layNeed 89 = .ok (.iload 4, 2) := by decide +kernel
theorem dX12_layNeed_91 : decode cX12_layNeed 91 = .ok (.iaload, 1) := by decide +kernel
theorem dX12_layNeed_92 : decode cX12_layNeed 92 = .ok (.ior, 1) := by decide +kernel
theorem dX12_layNeed_93 : decode cX12_layNeed 93 = .ok (.iaload, 1) := by decide +kernel
theorem dX12_layNeed_94 : decode cX12_layNeed 94 = .ok (.iconst 1, 1) := by decide +kernel
theorem dX12_layNeed_95 : decode cX12_layNeed 95 = .ok (.iadd, 1) := by decide +kernel
theorem dX12_layNeed_96 : decode cX12_layNeed 96 = .ok (.istore 5, 2) := by decide +kernel
theorem dX12_layNeed_98 : decode cX12_layNeed 98 = .ok (.aload_n 0, 1) := by decide +kernel
theorem dX12_layNeed_99 : decode cX12_layNeed 99 = .ok (.getfield 91, 3) := by decide +kernel
theorem dX12_layNeed_102 : decode cX12_layNeed 102 = .ok (.iload 4, 2) := by decide +kernel
theorem dX12_layNeed_104 : decode cX12_layNeed 104 = .ok (.iaload, 1) := by decide +kernel
theorem dX12_layNeed_105 : decode cX12_layNeed 105 = .ok (.iload_n 3, 1) := by decide +kernel
theorem dX12_layNeed_106 : decode cX12_layNeed 106 = .ok (.iconst (-1), 1) := by decide +kernel
theorem dX12_layNeed_107 : decode cX12_layNeed 107 = .ok (.ixor, 1) := by decide +kernel
theorem dX12_layNeed_108 : decode cX12_layNeed 108 = .ok (.iand, 1) := by decide +kernel
theorem dX12_layNeed_109 : decode cX12_layNeed 109 = .ok (.ifCond .eq 22, 3) := by decide +kernel
theorem dX12_layNeed_112 : decode cX12_layNeed 112 = .ok (.iload 5, 2) := by decide +kernel
theorem dX12_layNeed_114 : decode cX12_layNeed 114 = .ok (.aload_n 0, 1) := by decide +kernel
theorem dX12_layNeed_115 : decode cX12_layNeed 115 = .ok (.getfield 97, 3) := by decide +kernel
theorem dX12_layNeed_118 : decode cX12_layNeed 118 = .ok (.iload_n 3, 1) := by decide +kernel
theorem dX12_layNeed_119 : decode cX12_layNeed 119 = .ok (.iaload, 1) := by decide +kernel
theorem dX12_layNeed_120 : decode cX12_layNeed 120 = .ok (.if_icmp .ge 11, 3) := by decide +kernel
theorem dX12_layNeed_123 : decode cX12_layNeed 123 = .ok (.aload_n 0, 1) := by decide +kernel
theorem dX12_layNeed_124 : decode cX12_layNeed 124 = .ok (.getfield 97, 3) := by decide +kernel
theorem dX12_layNeed_127 : decode cX12_layNeed 127 = .ok (.iload_n 3, 1) := by decide +kernel
theorem dX12_layNeed_128 : decode cX12_layNeed 128 = .ok (.iload 5, 2) := by decide +kernel
theorem dX12_layNeed_130 : decode cX12_layNeed 130 = .ok (.iastore, 1) := by decide +kernel
theorem dX12_layNeed_131 : decode cX12_layNeed 131 = .ok (.iinc 4 1, 3) := by decide +kernel
theorem dX12_layNeed_134 : decode cX12_layNeed 134 = .ok (.goto (-68), 3) := by decide +kernel
theorem dX12_layNeed_137 : decode cX12_layNeed 137 = .ok (.iinc 3 (-1), 3) := by decide +kernel
theorem dX12_layNeed_140 : decode cX12_layNeed 140 = .ok (.goto (-130), 3) := by decide +kernel
theorem dX12_layNeed_143 : decode cX12_layNeed 143 = .ok (.return_, 1) := by decide +kernel
theorem dX12_canMake_0 : decode cX12_canMake 0 = .ok (.aload_n 0, 1) := by decide +kernel
theorem dX12_canMake_1 : decode cX12_canMake 1 = .ok (.getfield 97, 3) := by decide +kernel
theorem dX12_canMake_4 : decode cX12_canMake 4 = .ok (.iload_n 1, 1) := by decide +kernel
theorem dX12_canMake_5 : decode cX12_canMake 5 = .ok (.iaload, 1) := by decide +kernel
theorem dX12_canMake_6 : decode cX12_canMake 6 = .ok (.iconst 4, 1) := by decide +kernel
theorem dX12_canMake_7 : decode cX12_canMake 7 = .ok (.if_icmp .gt 7, 3) := by decide +kernel
theorem dX12_canMake_10 : decode cX12_canMake 10 = .ok (.iconst 1, 1) := by decide +kernel
theorem dX12_canMake_11 : decode cX12_canMake 11 = .ok (.goto 4, 3) := by decide +kernel
theorem dX12_canMake_14 : decode cX12_canMake 14 = .ok (.iconst 0, 1) := by decide +kernel
theorem dX12_canMake_15 : decode cX12_canMake 15 = .ok (.ireturn, 1) := by decide +kernel
theorem dX12_make_0 : decode cX12_make 0 = .ok (.iload_n 1, 1) := by decide +kernel
theorem dX12_make_1 : decode cX12_make 1 = .ok (.invokestatic 426, 3) := by decide +kernel
theorem dX12_make_4 : decode cX12_make 4 = .ok (.ifCond .eq 10, 3) := by decide +kernel
theorem dX12_make_7 : decode cX12_make 7 = .ok (.iload_n 2, 1) := by decide +kernel
theorem dX12_make_8 : decode cX12_make 8 = .ok (.invokestatic 426, 3) := by decide +kernel
theorem dX12_make_11 : decode cX12_make 11 = .ok (.ifCond .ne 5, 3) := by decide +kernel
theorem dX12_make_14 : decode cX12_make 14 = .ok (.iconst (-1), 1) := by decide +kernel
theorem dX12_make_15 : decode cX12_make 15 = .ok (.ireturn, 1) := by decide +kernel
theorem dX12_make_16 : decode cX12_make 16 = .ok (.aload_n 0, 1) := by decide +kernel
theorem dX12_make_17 : decode cX12_make 17 = .ok (.iload_n 2, 1) := by decide +kernel
theorem dX12_make_18 : decode cX12_make 18 = .ok (.invokevirtual 447, 3) := by decide +kernel
theorem dX12_make_21 : decode cX12_make 21 = .ok (.aload_n 0, 1) := by decide +kernel
theorem dX12_make_22 : decode cX12_make 22 = .ok (.iload_n 1, 1) := by decide +kernel
theorem dX12_make_23 : decode cX12_make 23 = .ok (.invokevirtual 451, 3) := by decide +kernel
theorem dX12_make_26 : decode cX12_make 26 = .ok (.ifCond .eq 12, 3) := by decide +kernel
theorem dX12_make_29 : decode cX12_make 29 = .ok (.aload_n 0, 1) := by decide +kernel
theorem dX12_make_30 : decode cX12_make 30 = .ok (.getfield 97, 3) := by decide +kernel
theorem dX12_make_33 : decode cX12_make 33 = .ok (.iload_n 1, 1) := by decide +kernel
theorem dX12_make_34 : decode cX12_make 34 = .ok (.iaload, 1) := by decide +kernel
theorem dX12_make_35 : decode cX12_make 35 = .ok (.goto 4, 3) := by decide +kernel
theorem dX12_make_38 : decode cX12_make 38 = .ok (.iconst (-1), 1) := by decide +kernel
theorem dX12_make_39 : decode cX12_make 39 = .ok (.ireturn, 1) := by decide +kernel
theorem dX12_forge_0 : decode cX12_forge 0 = .ok (.aload_n 0, 1) := by decide +kernel
theorem dX12_forge_1 : decode cX12_forge 1 = .ok (.iconst 0, 1) := by decide +kernel
theorem dX12_forge_2 : decode cX12_forge 2 = .ok (.putfield 401, 3) := by decide +kernel
theorem dX12_forge_5 : decode cX12_forge 5 = .ok (.aload_n 0, 1) := by decide +kernel
theorem dX12_forge_6 : decode cX12_forge 6 = .ok (.iload_n 1, 1) := by decide +kernel
theorem dX12_forge_7 : decode cX12_forge 7 = .ok (.invokevirtual 420, 3) := by decide +kernel
theorem dX12_forge_10 : decode cX12_forge 10 = .ok (.ifCond .eq 11, 3) := by decide +kernel
theorem dX12_forge_13 : decode cX12_forge 13 = .ok (.aload_n 0, 1) := by decide +kernel
theorem dX12_forge_14 : decode cX12_forge 14 = .ok (.iload_n 2, 1) := by decide +kernel
theorem dX12_forge_15 : decode cX12_forge 15 = .ok (.invokevirtual 414, 3) := by decide +kernel
theorem dX12_forge_18 : decode cX12_forge 18 = .ok (.ifCond .ne 5, 3) := by decide +kernel
theorem dX12_forge_21 : decode cX12_forge 21 = .ok (.iconst (-1), 1) := by decide +kernel
theorem dX12_forge_22 : decode cX12_forge 22 = .ok (.ireturn, 1) := by decide +kernel
theorem dX12_forge_23 : decode cX12_forge 23 = .ok (.aload_n 0, 1) := by decide +kernel
theorem dX12_forge_24 : decode cX12_forge 24 = .ok (.aload_n 0, 1) := by decide +kernel
theorem dX12_forge_25 : decode cX12_forge 25 = .ok (.iload_n 2, 1) := by decide +kernel
theorem dX12_forge_26 : decode cX12_forge 26 = .ok (.invokevirtual 383, 3) := by decide +kernel
theorem dX12_forge_29 : decode cX12_forge 29 = .ok (.invokevirtual 447, 3) := by decide +kernel
theorem dX12_forge_32 : decode cX12_forge 32 = .ok (.aload_n 0, 1) := by decide +kernel
theorem dX12_forge_33 : decode cX12_forge 33 = .ok (.getfield 88, 3) := by decide +kernel
theorem dX12_forge_36 : decode cX12_forge 36 = .ok (.iconst 0, 1) := by decide +kernel
theorem dX12_forge_37 : decode cX12_forge 37 = .ok (.iload_n 1, 1) := by decide +kernel
theorem dX12_forge_38 : decode cX12_forge 38 = .ok (.iadd, 1) := by decide +kernel
theorem dX12_forge_39 : decode cX12_forge 39 = .ok (.iaload, 1) := by decide +kernel
theorem dX12_forge_40 : decode cX12_forge 40 = .ok (.istore_n 3, 1) := by decide +kernel
theorem dX12_forge_41 : decode cX12_forge 41 = .ok (.aload_n 0, 1) := by decide +kernel
theorem dX12_forge_42 : decode cX12_forge 42 = .ok (.iload_n 3, 1) := by decide +kernel
theorem dX12_forge_43 : decode cX12_forge 43 = .ok (.invokevirtual 451, 3) := by decide +kernel
theorem dX12_forge_46 : decode cX12_forge 46 = .ok (.ifCond .ne 5, 3) := by decide +kernel
theorem dX12_forge_49 : decode cX12_forge 49 = .ok (.iconst (-1), 1) := by decide +kernel
theorem dX12_forge_50 : decode cX12_forge 50 = .ok (.ireturn, 1) := by decide +kernel
theorem dX12_forge_51 : decode cX12_forge 51 = .ok (.aload_n 0, 1) := by decide +kernel
theorem dX12_forge_52 : decode cX12_forge 52 = .ok (.getfield 97, 3) := by decide +kernel
theorem dX12_forge_55 : decode cX12_forge 55 = .ok (.iload_n 3, 1) := by decide +kernel
theorem dX12_forge_56 : decode cX12_forge 56 = .ok (.iaload, 1) := by decide +kernel
theorem dX12_forge_57 : decode cX12_forge 57 = .ok (.istore 4, 2) := by decide +kernel
theorem dX12_forge_59 : decode cX12_forge 59 = .ok (.aload_n 0, 1) := by decide +kernel
theorem dX12_forge_60 : decode cX12_forge 60 = .ok (.getfield 97, 3) := by decide +kernel
theorem dX12_forge_63 : decode cX12_forge 63 = .ok (.iload_n 3, 1) := by decide +kernel
theorem dX12_forge_64 : decode cX12_forge 64 = .ok (.iaload, 1) := by decide +kernel
theorem dX12_forge_65 : decode cX12_forge 65 = .ok (.ifCond .le 94, 3) := by decide +kernel
theorem dX12_forge_68 : decode cX12_forge 68 = .ok (.iconst 0, 1) := by decide +kernel
theorem dX12_forge_69 : decode cX12_forge 69 = .ok (.istore 5, 2) := by decide +kernel
theorem dX12_forge_71 : decode cX12_forge 71 = .ok (.aload_n 0, 1) := by decide +kernel
theorem dX12_forge_72 : decode cX12_forge 72 = .ok (.getfield 97, 3) := by decide +kernel
theorem dX12_forge_75 : decode cX12_forge 75 = .ok (.iload_n 3, 1) := by decide +kernel
theorem dX12_forge_76 : decode cX12_forge 76 = .ok (.aload_n 0, 1) := by decide +kernel
theorem dX12_forge_77 : decode cX12_forge 77 = .ok (.getfield 91, 3) := by decide +kernel
theorem dX12_forge_80 : decode cX12_forge 80 = .ok (.iload 5, 2) := by decide +kernel
theorem dX12_forge_82 : decode cX12_forge 82 = .ok (.iaload, 1) := by decide +kernel
theorem dX12_forge_83 : decode cX12_forge 83 = .ok (.ior, 1) := by decide +kernel
theorem dX12_forge_84 : decode cX12_forge 84 = .ok (.iaload, 1) := by decide +kernel
theorem dX12_forge_85 : decode cX12_forge 85 = .ok (.aload_n 0, 1) := by decide +kernel
theorem dX12_forge_86 : decode cX12_forge 86 = .ok (.getfield 97, 3) := by decide +kernel
theorem dX12_forge_89 : decode cX12_forge 89 = .ok (.iload_n 3, 1) := by decide +kernel
theorem dX12_forge_90 : decode cX12_forge 90 = .ok (.iaload, 1) := by decide +kernel
theorem dX12_forge_91 : decode cX12_forge 91 = .ok (.iconst 1, 1) := by decide +kernel
theorem dX12_forge_92 : decode cX12_forge 92 = .ok (.isub, 1) := by decide +kernel
theorem dX12_forge_93 : decode cX12_forge 93 = .ok (.if_icmp .eq 9, 3) := by decide +kernel
theorem dX12_forge_96 : decode cX12_forge 96 = .ok (.iinc 5 1, 3) := by decide +kernel
theorem dX12_forge_99 : decode cX12_forge 99 = .ok (.goto (-28), 3) := by decide +kernel
theorem dX12_forge_102 : decode cX12_forge 102 = .ok (.aload_n 0, 1) := by decide +kernel
theorem dX12_forge_103 : decode cX12_forge 103 = .ok (.getfield 100, 3) := by decide +kernel
theorem dX12_forge_106 : decode cX12_forge 106 = .ok (.aload_n 0, 1) := by decide +kernel
theorem dX12_forge_107 : decode cX12_forge 107 = .ok (.getfield 401, 3) := by decide +kernel
theorem dX12_forge_110 : decode cX12_forge 110 = .ok (.iload 5, 2) := by decide +kernel
theorem dX12_forge_112 : decode cX12_forge 112 = .ok (.aload_n 0, 1) := by decide +kernel
theorem dX12_forge_113 : decode cX12_forge 113 = .ok (.invokevirtual 358, 3) := by decide +kernel
theorem dX12_forge_116 : decode cX12_forge 116 = .ok (.idiv, 1) := by decide +kernel
theorem dX12_forge_117 : decode cX12_forge 117 = .ok (.iastore, 1) := by decide +kernel
theorem dX12_forge_118 : decode cX12_forge 118 = .ok (.aload_n 0, 1) := by decide +kernel
theorem dX12_forge_119 : decode cX12_forge 119 = .ok (.getfield 100, 3) := by decide +kernel
theorem dX12_forge_122 : decode cX12_forge 122 = .ok (.aload_n 0, 1) := by decide +kernel
theorem dX12_forge_123 : decode cX12_forge 123 = .ok (.getfield 401, 3) := by decide +kernel
theorem dX12_forge_126 : decode cX12_forge 126 = .ok (.iconst 1, 1) := by decide +kernel
theorem dX12_forge_127 : decode cX12_forge 127 = .ok (.iadd, 1) := by decide +kernel
theorem dX12_forge_128 : decode cX12_forge 128 = .ok (.iload 5, 2) := by decide +kernel
theorem dX12_forge_130 : decode cX12_forge 130 = .ok (.aload_n 0, 1) := by decide +kernel
theorem dX12_forge_131 : decode cX12_forge 131 = .ok (.invokevirtual 358, 3) := by decide +kernel
theorem dX12_forge_134 : decode cX12_forge 134 = .ok (.irem, 1) := by decide +kernel
theorem dX12_forge_135 : decode cX12_forge 135 = .ok (.iastore, 1) := by decide +kernel
theorem dX12_forge_136 : decode cX12_forge 136 = .ok (.aload_n 0, 1) := by decide +kernel
theorem dX12_forge_137 : decode cX12_forge 137 = .ok (.dup, 1) := by decide +kernel
theorem dX12_forge_138 : decode cX12_forge 138 = .ok (.getfield 401, 3) := by decide +kernel
theorem dX12_forge_141 : decode cX12_forge 141 = .ok (.iconst 2, 1) := by decide +kernel
theorem dX12_forge_142 : decode cX12_forge 142 = .ok (.iadd, 1) := by decide +kernel
theorem dX12_forge_143 : decode cX12_forge 143 = .ok (.putfield 401, 3) := by decide +kernel
theorem dX12_forge_146 : decode cX12_forge 146 = .ok (.iload_n 3, 1) := by decide +kernel
theorem dX12_forge_147 : decode cX12_forge 147 = .ok (.aload_n 0, 1) := by decide +kernel
theorem dX12_forge_148 : decode cX12_forge 148 = .ok (.getfield 91, 3) := by decide +kernel
theorem dX12_forge_151 : decode cX12_forge 151 = .ok (.iload 5, 2) := by decide +kernel
theorem dX12_forge_153 : decode cX12_forge 153 = .ok (.iaload, 1) := by decide +kernel
theorem dX12_forge_154 : decode cX12_forge 154 = .ok (.ior, 1) := by decide +kernel
theorem dX12_forge_155 : decode cX12_forge 155 = .ok (.istore_n 3, 1) := by decide +kernel
theorem dX12_forge_156 : decode cX12_forge 156 = .ok (.goto (-97), 3) := by decide +kernel
theorem dX12_forge_159 : decode cX12_forge 159 = .ok (.iload 4, 2) := by decide +kernel
theorem dX12_forge_161 : decode cX12_forge 161 = .ok (.ireturn, 1) := by decide +kernel
theorem dX12_origins_0 : decode cX12_origins 0 = .ok (.aload_n 0, 1) := by decide +kernel
theorem dX12_origins_1 : decode cX12_origins 1 = .ok (.iload_n 1, 1) := by decide +kernel
theorem dX12_origins_2 : decode cX12_origins 2 = .ok (.invokevirtual 420, 3) := by decide +kernel
theorem dX12_origins_5 : decode cX12_origins 5 = .ok (.ifCond .ne 5, 3) := by decide +kernel
theorem dX12_origins_8 : decode cX12_origins 8 = .ok (.iconst (-1), 1) := by decide +kernel
theorem dX12_origins_9 : decode cX12_origins 9 = .ok (.ireturn, 1) := by decide +kernel
theorem dX12_origins_10 : decode cX12_origins 10 = .ok (.aload_n 0, 1) := by decide +kernel
theorem dX12_origins_11 : decode cX12_origins 11 = .ok (.aload_n 0, 1) := by decide +kernel
theorem dX12_origins_12 : decode cX12_origins 12 = .ok (.getfield 88, 3) := by decide +kernel
theorem dX12_origins_15 : decode cX12_origins 15 = .ok (.iconst 0, 1) := by decide +kernel
theorem dX12_origins_16 : decode cX12_origins 16 = .ok (.iload_n 1, 1) := by decide +kernel
theorem dX12_origins_17 : decode cX12_origins 17 = .ok (.iadd, 1) := by decide +kernel
theorem dX12_origins_18 : decode cX12_origins 18 = .ok (.iaload, 1) := by decide +kernel
theorem dX12_origins_19 : decode cX12_origins 19 = .ok (.invokevirtual 447, 3) := by decide +kernel
theorem dX12_origins_22 : decode cX12_origins 22 = .ok (.iconst 0, 1) := by decide +kernel
theorem dX12_origins_23 : decode cX12_origins 23 = .ok (.istore_n 2, 1) := by decide +kernel
theorem dX12_origins_24 : decode cX12_origins 24 = .ok (.iconst 0, 1) := by decide +kernel
theorem dX12_origins_25 : decode cX12_origins 25 = .ok (.istore_n 3, 1) := by decide +kernel
theorem dX12_origins_26 : decode cX12_origins 26 = .ok (.iload_n 3, 1) := by decide +kernel
theorem dX12_origins_27 : decode cX12_origins 27 = .ok (.aload_n 0, 1) := by decide +kernel
theorem dX12_origins_28 : decode cX12_origins 28 = .ok (.invokevirtual 367, 3) := by decide +kernel
theorem dX12_origins_31 : decode cX12_origins 31 = .ok (.if_icmp .ge 27, 3) := by decide +kernel
theorem dX12_origins_34 : decode cX12_origins 34 = .ok (.aload_n 0, 1) := by decide +kernel
theorem dX12_origins_35 : decode cX12_origins 35 = .ok (.aload_n 0, 1) := by decide +kernel
theorem dX12_origins_36 : decode cX12_origins 36 = .ok (.iload_n 3, 1) := by decide +kernel
theorem dX12_origins_37 : decode cX12_origins 37 = .ok (.invokevirtual 383, 3) := by decide +kernel
theorem dX12_origins_40 : decode cX12_origins 40 = .ok (.invokevirtual 451, 3) := by decide +kernel
theorem dX12_origins_43 : decode cX12_origins 43 = .ok (.ifCond .eq 9, 3) := by decide +kernel
theorem dX12_origins_46 : decode cX12_origins 46 = .ok (.iload_n 2, 1) := by decide +kernel
theorem dX12_origins_47 : decode cX12_origins 47 = .ok (.iconst 1, 1) := by decide +kernel
theorem dX12_origins_48 : decode cX12_origins 48 = .ok (.iload_n 3, 1) := by decide +kernel
theorem dX12_origins_49 : decode cX12_origins 49 = .ok (.ishl, 1) := by decide +kernel
theorem dX12_origins_50 : decode cX12_origins 50 = .ok (.ior, 1) := by decide +kernel
theorem dX12_origins_51 : decode cX12_origins 51 = .ok (.istore_n 2, 1) := by decide +kernel
theorem dX12_origins_52 : decode cX12_origins 52 = .ok (.iinc 3 1, 3) := by decide +kernel
theorem dX12_origins_55 : decode cX12_origins 55 = .ok (.goto (-29), 3) := by decide +kernel
theorem dX12_origins_58 : decode cX12_origins 58 = .ok (.iload_n 2, 1) := by decide +kernel
theorem dX12_origins_59 : decode cX12_origins 59 = .ok (.ireturn, 1) := by decide +kernel
theorem dX12_claim_0 : decode cX12_claim 0 = .ok (.aload_n 0, 1) := by decide +kernel
theorem dX12_claim_1 : decode cX12_claim 1 = .ok (.iload_n 1, 1) := by decide +kernel
theorem dX12_claim_2 : decode cX12_claim 2 = .ok (.invokevirtual 414, 3) := by decide +kernel
theorem dX12_claim_5 : decode cX12_claim 5 = .ok (.ifCond .ne 5, 3) := by decide +kernel
theorem dX12_claim_8 : decode cX12_claim 8 = .ok (.iconst (-1), 1) := by decide +kernel
theorem dX12_claim_9 : decode cX12_claim 9 = .ok (.ireturn, 1) := by decide +kernel
theorem dX12_claim_10 : decode cX12_claim 10 = .ok (.aload_n 0, 1) := by decide +kernel
theorem dX12_claim_11 : decode cX12_claim 11 = .ok (.aload_n 0, 1) := by decide +kernel
theorem dX12_claim_12 : decode cX12_claim 12 = .ok (.iload_n 1, 1) := by decide +kernel
theorem dX12_claim_13 : decode cX12_claim 13 = .ok (.invokevirtual 383, 3) := by decide +kernel
theorem dX12_claim_16 : decode cX12_claim 16 = .ok (.invokevirtual 447, 3) := by decide +kernel
theorem dX12_claim_19 : decode cX12_claim 19 = .ok (.iconst 0, 1) := by decide +kernel
theorem dX12_claim_20 : decode cX12_claim 20 = .ok (.istore_n 2, 1) := by decide +kernel
theorem dX12_claim_21 : decode cX12_claim 21 = .ok (.iconst 0, 1) := by decide +kernel
theorem dX12_claim_22 : decode cX12_claim 22 = .ok (.istore_n 3, 1) := by decide +kernel
theorem dX12_claim_23 : decode cX12_claim 23 = .ok (.iload_n 3, 1) := by decide +kernel
theorem dX12_claim_24 : decode cX12_claim 24 = .ok (.aload_n 0, 1) := by decide +kernel
theorem dX12_claim_25 : decode cX12_claim 25 = .ok (.invokevirtual 377, 3) := by decide +kernel
theorem dX12_claim_28 : decode cX12_claim 28 = .ok (.if_icmp .ge 43, 3) := by decide +kernel
theorem dX12_claim_31 : decode cX12_claim 31 = .ok (.aload_n 0, 1) := by decide +kernel
theorem dX12_claim_32 : decode cX12_claim 32 = .ok (.getfield 88, 3) := by decide +kernel
theorem dX12_claim_35 : decode cX12_claim 35 = .ok (.bipush 8, 2) := by decide +kernel
theorem dX12_claim_37 : decode cX12_claim 37 = .ok (.iload_n 3, 1) := by decide +kernel
theorem dX12_claim_38 : decode cX12_claim 38 = .ok (.iadd, 1) := by decide +kernel
theorem dX12_claim_39 : decode cX12_claim 39 = .ok (.iaload, 1) := by decide +kernel
theorem dX12_claim_40 : decode cX12_claim 40 = .ok (.iload_n 1, 1) := by decide +kernel
theorem dX12_claim_41 : decode cX12_claim 41 = .ok (.if_icmp .eq 24, 3) := by decide +kernel
theorem dX12_claim_44 : decode cX12_claim 44 = .ok (.aload_n 0, 1) := by decide +kernel
theorem dX12_claim_45 : decode cX12_claim 45 = .ok (.aload_n 0, 1) := by decide +kernel
theorem dX12_claim_46 : decode cX12_claim 46 = .ok (.getfield 88, 3) := by decide +kernel
theorem dX12_claim_49 : decode cX12_claim 49 = .ok (.iconst 0, 1) := by decide +kernel
theorem dX12_claim_50 : decode cX12_claim 50 = .ok (.iload_n 3, 1) := by decide +kernel
theorem dX12_claim_51 : decode cX12_claim 51 = .ok (.iadd, 1) := by decide +kernel
theorem dX12_claim_52 : decode cX12_claim 52 = .ok (.iaload, 1) := by decide +kernel
theorem dX12_claim_53 : decode cX12_claim 53 = .ok (.invokevirtual 451, 3) := by decide +kernel
theorem dX12_claim_56 : decode cX12_claim 56 = .ok (.ifCond .eq 9, 3) := by decide +kernel
theorem dX12_claim_59 : decode cX12_claim 59 = .ok (.iload_n 2, 1) := by decide +kernel
theorem dX12_claim_60 : decode cX12_claim 60 = .ok (.iconst 1, 1) := by decide +kernel
theorem dX12_claim_61 : decode cX12_claim 61 = .ok (.iload_n 3, 1) := by decide +kernel
theorem dX12_claim_62 : decode cX12_claim 62 = .ok (.ishl, 1) := by decide +kernel
theorem dX12_claim_63 : decode cX12_claim 63 = .ok (.ior, 1) := by decide +kernel
theorem dX12_claim_64 : decode cX12_claim 64 = .ok (.istore_n 2, 1) := by decide +kernel
theorem dX12_claim_65 : decode cX12_claim 65 = .ok (.iinc 3 1, 3) := by decide +kernel
theorem dX12_claim_68 : decode cX12_claim 68 = .ok (.goto (-45), 3) := by decide +kernel
theorem dX12_claim_71 : decode cX12_claim 71 = .ok (.iload_n 2, 1) := by decide +kernel
theorem dX12_claim_72 : decode cX12_claim 72 = .ok (.ireturn, 1) := by decide +kernel
theorem dX12_safe_0 : decode cX12_safe 0 = .ok (.iconst 1, 1) := by decide +kernel
theorem dX12_safe_1 : decode cX12_safe 1 = .ok (.aload_n 0, 1) := by decide +kernel
theorem dX12_safe_2 : decode cX12_safe 2 = .ok (.invokevirtual 367, 3) := by decide +kernel
theorem dX12_safe_5 : decode cX12_safe 5 = .ok (.ishl, 1) := by decide +kernel
theorem dX12_safe_6 : decode cX12_safe 6 = .ok (.iconst 1, 1) := by decide +kernel
theorem dX12_safe_7 : decode cX12_safe 7 = .ok (.isub, 1) := by decide +kernel
theorem dX12_safe_8 : decode cX12_safe 8 = .ok (.istore_n 1, 1) := by decide +kernel
theorem dX12_safe_9 : decode cX12_safe 9 = .ok (.iconst 0, 1) := by decide +kernel
theorem dX12_safe_10 : decode cX12_safe 10 = .ok (.istore_n 2, 1) := by decide +kernel
theorem dX12_safe_11 : decode cX12_safe 11 = .ok (.iload_n 2, 1) := by decide +kernel
theorem dX12_safe_12 : decode cX12_safe 12 = .ok (.aload_n 0, 1) := by decide +kernel
theorem dX12_safe_13 : decode cX12_safe 13 = .ok (.invokevirtual 367, 3) := by decide +kernel
theorem dX12_safe_16 : decode cX12_safe 16 = .ok (.if_icmp .ge 71, 3) := by decide +kernel
theorem dX12_safe_19 : decode cX12_safe 19 = .ok (.aload_n 0, 1) := by decide +kernel
theorem dX12_safe_20 : decode cX12_safe 20 = .ok (.aload_n 0, 1) := by decide +kernel
theorem dX12_safe_21 : decode cX12_safe 21 = .ok (.iload_n 2, 1) := by decide +kernel
theorem dX12_safe_22 : decode cX12_safe 22 = .ok (.invokevirtual 383, 3) := by decide +kernel
theorem dX12_safe_25 : decode cX12_safe 25 = .ok (.invokevirtual 447, 3) := by decide +kernel
theorem dX12_safe_28 : decode cX12_safe 28 = .ok (.iconst 0, 1) := by decide +kernel
theorem dX12_safe_29 : decode cX12_safe 29 = .ok (.istore_n 3, 1) := by decide +kernel
theorem dX12_safe_30 : decode cX12_safe 30 = .ok (.iload_n 3, 1) := by decide +kernel
theorem dX12_safe_31 : decode cX12_safe 31 = .ok (.aload_n 0, 1) := by decide +kernel
theorem dX12_safe_32 : decode cX12_safe 32 = .ok (.invokevirtual 367, 3) := by decide +kernel
theorem dX12_safe_35 : decode cX12_safe 35 = .ok (.if_icmp .ge 46, 3) := by decide +kernel
theorem dX12_safe_38 : decode cX12_safe 38 = .ok (.aload_n 0, 1) := by decide +kernel
theorem dX12_safe_39 : decode cX12_safe 39 = .ok (.aload_n 0, 1) := by decide +kernel
theorem dX12_safe_40 : decode cX12_safe 40 = .ok (.iload_n 3, 1) := by decide +kernel
theorem dX12_safe_41 : decode cX12_safe 41 = .ok (.invokevirtual 383, 3) := by decide +kernel
theorem dX12_safe_44 : decode cX12_safe 44 = .ok (.aload_n 0, 1) := by decide +kernel
theorem dX12_safe_45 : decode cX12_safe 45 = .ok (.iload_n 2, 1) := by decide +kernel
theorem dX12_safe_46 : decode cX12_safe 46 = .ok (.invokevirtual 383, 3) := by decide +kernel
theorem dX12_safe_49 : decode cX12_safe 49 = .ok (.invokevirtual 432, 3) := by decide +kernel
theorem dX12_safe_52 : decode cX12_safe 52 = .ok (.ifCond .ne 23, 3) := by decide +kernel
theorem dX12_safe_55 : decode cX12_safe 55 = .ok (.aload_n 0, 1) := by decide +kernel
theorem dX12_safe_56 : decode cX12_safe 56 = .ok (.aload_n 0, 1) := by decide +kernel
theorem dX12_safe_57 : decode cX12_safe 57 = .ok (.iload_n 3, 1) := by decide +kernel
theorem dX12_safe_58 : decode cX12_safe 58 = .ok (.invokevirtual 383, 3) := by decide +kernel
theorem dX12_safe_61 : decode cX12_safe 61 = .ok (.invokevirtual 451, 3) := by decide +kernel
theorem dX12_safe_64 : decode cX12_safe 64 = .ok (.ifCond .eq 11, 3) := by decide +kernel
theorem dX12_safe_67 : decode cX12_safe 67 = .ok (.iload_n 1, 1) := by decide +kernel
theorem dX12_safe_68 : decode cX12_safe 68 = .ok (.iconst 1, 1) := by decide +kernel
theorem dX12_safe_69 : decode cX12_safe 69 = .ok (.iload_n 3, 1) := by decide +kernel
theorem dX12_safe_70 : decode cX12_safe 70 = .ok (.ishl, 1) := by decide +kernel
theorem dX12_safe_71 : decode cX12_safe 71 = .ok (.iconst (-1), 1) := by decide +kernel
theorem dX12_safe_72 : decode cX12_safe 72 = .ok (.ixor, 1) := by decide +kernel
theorem dX12_safe_73 : decode cX12_safe 73 = .ok (.iand, 1) := by decide +kernel
theorem dX12_safe_74 : decode cX12_safe 74 = .ok (.istore_n 1, 1) := by decide +kernel
theorem dX12_safe_75 : decode cX12_safe 75 = .ok (.iinc 3 1, 3) := by decide +kernel
theorem dX12_safe_78 : decode cX12_safe 78 = .ok (.goto (-48), 3) := by decide +kernel
theorem dX12_safe_81 : decode cX12_safe 81 = .ok (.iinc 2 1, 3) := by decide +kernel
theorem dX12_safe_84 : decode cX12_safe 84 = .ok (.goto (-73), 3) := by decide +kernel
theorem dX12_safe_87 : decode cX12_safe 87 = .ok (.iload_n 1, 1) := by decide +kernel
theorem dX12_safe_88 : decode cX12_safe 88 = .ok (.ireturn, 1) := by decide +kernel
theorem dX12_king_0 : decode cX12_king 0 = .ok (.iload_n 1, 1) := by decide +kernel
theorem dX12_king_1 : decode cX12_king 1 = .ok (.iconst 0, 1) := by decide +kernel
theorem dX12_king_2 : decode cX12_king 2 = .ok (.iconst 1, 1) := by decide +kernel
theorem dX12_king_3 : decode cX12_king 3 = .ok (.invokestatic 370, 3) := by decide +kernel
theorem dX12_king_6 : decode cX12_king 6 = .ok (.ifCond .ne 5, 3) := by decide +kernel
theorem dX12_king_9 : decode cX12_king 9 = .ok (.iconst (-1), 1) := by decide +kernel
theorem dX12_king_10 : decode cX12_king 10 = .ok (.ireturn, 1) := by decide +kernel
theorem dX12_king_11 : decode cX12_king 11 = .ok (.iconst (-1), 1) := by decide +kernel
theorem dX12_king_12 : decode cX12_king 12 = .ok (.istore_n 2, 1) := by decide +kernel
theorem dX12_king_13 : decode cX12_king 13 = .ok (.iconst (-1), 1) := by decide +kernel
theorem dX12_king_14 : decode cX12_king 14 = .ok (.istore_n 3, 1) := by decide +kernel
theorem dX12_king_15 : decode cX12_king 15 = .ok (.iconst 0, 1) := by decide +kernel
theorem dX12_king_16 : decode cX12_king 16 = .ok (.istore 4, 2) := by decide +kernel
theorem dX12_king_18 : decode cX12_king 18 = .ok (.iload 4, 2) := by decide +kernel
theorem dX12_king_20 : decode cX12_king 20 = .ok (.aload_n 0, 1) := by decide +kernel
theorem dX12_king_21 : decode cX12_king 21 = .ok (.invokevirtual 367, 3) := by decide +kernel
theorem dX12_king_24 : decode cX12_king 24 = .ok (.if_icmp .ge 85, 3) := by decide +kernel
theorem dX12_king_27 : decode cX12_king 27 = .ok (.aload_n 0, 1) := by decide +kernel
theorem dX12_king_28 : decode cX12_king 28 = .ok (.aload_n 0, 1) := by decide +kernel
theorem dX12_king_29 : decode cX12_king 29 = .ok (.iload 4, 2) := by decide +kernel
theorem dX12_king_31 : decode cX12_king 31 = .ok (.invokevirtual 383, 3) := by decide +kernel
theorem dX12_king_34 : decode cX12_king 34 = .ok (.invokevirtual 447, 3) := by decide +kernel
theorem dX12_king_37 : decode cX12_king 37 = .ok (.iconst 0, 1) := by decide +kernel
theorem dX12_king_38 : decode cX12_king 38 = .ok (.istore 5, 2) := by decide +kernel
theorem dX12_king_40 : decode cX12_king 40 = .ok (.iconst 0, 1) := by decide +kernel
theorem dX12_king_41 : decode cX12_king 41 = .ok (.istore 6, 2) := by decide +kernel
theorem dX12_king_43 : decode cX12_king 43 = .ok (.iload 6, 2) := by decide +kernel
theorem dX12_king_45 : decode cX12_king 45 = .ok (.aload_n 0, 1) := by decide +kernel
theorem dX12_king_46 : decode cX12_king 46 = .ok (.invokevirtual 367, 3) := by decide +kernel
theorem dX12_king_49 : decode cX12_king 49 = .ok (.if_icmp .ge 39, 3) := by decide +kernel
theorem dX12_king_52 : decode cX12_king 52 = .ok (.iload 5, 2) := by decide +kernel
theorem dX12_king_54 : decode cX12_king 54 = .ok (.iload 6, 2) := by decide +kernel
theorem dX12_king_56 : decode cX12_king 56 = .ok (.iload 4, 2) := by decide +kernel
theorem dX12_king_58 : decode cX12_king 58 = .ok (.if_icmp .eq 20, 3) := by decide +kernel
theorem dX12_king_61 : decode cX12_king 61 = .ok (.aload_n 0, 1) := by decide +kernel
theorem dX12_king_62 : decode cX12_king 62 = .ok (.aload_n 0, 1) := by decide +kernel
theorem dX12_king_63 : decode cX12_king 63 = .ok (.iload 6, 2) := by decide +kernel
theorem dX12_king_65 : decode cX12_king 65 = .ok (.invokevirtual 383, 3) := by decide +kernel
theorem dX12_king_68 : decode cX12_king 68 = .ok (.invokevirtual 451, 3) := by decide +kernel
theorem dX12_king_71 : decode cX12_king 71 = .ok (.ifCond .eq 7, 3) := by decide +kernel
theorem dX12_king_74 : decode cX12_king 74 = .ok (.iconst 1, 1) := by decide +kernel
theorem dX12_king_75 : decode cX12_king 75 = .ok (.goto 4, 3) := by decide +kernel
theorem dX12_king_78 : decode cX12_king 78 = .ok (.iconst 0, 1) := by decide +kernel
theorem dX12_king_79 : decode cX12_king 79 = .ok (.iadd, 1) := by decide +kernel
theorem dX12_king_80 : decode cX12_king 80 = .ok (.istore 5, 2) := by decide +kernel
theorem dX12_king_82 : decode cX12_king 82 = .ok (.iinc 6 1, 3) := by decide +kernel
theorem dX12_king_85 : decode cX12_king 85 = .ok (.goto (-42), 3) := by decide +kernel
theorem dX12_king_88 : decode cX12_king 88 = .ok (.iload 5, 2) := by decide +kernel
theorem dX12_king_90 : decode cX12_king 90 = .ok (.iload_n 3, 1) := by decide +kernel
theorem dX12_king_91 : decode cX12_king 91 = .ok (.if_icmp .gt 6, 3) := by decide +kernel
theorem dX12_king_94 : decode cX12_king 94 = .ok (.goto 9, 3) := by decide +kernel
theorem dX12_king_97 : decode cX12_king 97 = .ok (.iload 4, 2) := by decide +kernel
theorem dX12_king_99 : decode cX12_king 99 = .ok (.istore_n 2, 1) := by decide +kernel
theorem dX12_king_100 : decode cX12_king 100 = .ok (.iload 5, 2) := by decide +kernel
theorem dX12_king_102 : decode cX12_king 102 = .ok (.istore_n 3, 1) := by decide +kernel
theorem dX12_king_103 : decode cX12_king 103 = .ok (.iinc 4 1, 3) := by decide +kernel
theorem dX12_king_106 : decode cX12_king 106 = .ok (.goto (-88), 3) := by decide +kernel
theorem dX12_king_109 : decode cX12_king 109 = .ok (.iload_n 1, 1) := by decide +kernel
theorem dX12_king_110 : decode cX12_king 110 = .ok (.ifCond .ne 7, 3) := by decide +kernel
theorem dX12_king_113 : decode cX12_king 113 = .ok (.iload_n 2, 1) := by decide +kernel
theorem dX12_king_114 : decode cX12_king 114 = .ok (.goto 4, 3) := by decide +kernel
theorem dX12_king_117 : decode cX12_king 117 = .ok (.iload_n 3, 1) := by decide +kernel
theorem dX12_king_118 : decode cX12_king 118 = .ok (.ireturn, 1) := by decide +kernel
theorem dX12_tempt_0 : decode cX12_tempt 0 = .ok (.aload_n 0, 1) := by decide +kernel
theorem dX12_tempt_1 : decode cX12_tempt 1 = .ok (.iload_n 1, 1) := by decide +kernel
theorem dX12_tempt_2 : decode cX12_tempt 2 = .ok (.invokevirtual 420, 3) := by decide +kernel
theorem dX12_tempt_5 : decode cX12_tempt 5 = .ok (.ifCond .eq 12, 3) := by decide +kernel
theorem dX12_tempt_8 : decode cX12_tempt 8 = .ok (.iload_n 2, 1) := by decide +kernel
theorem dX12_tempt_9 : decode cX12_tempt 9 = .ok (.iconst 0, 1) := by decide +kernel
theorem dX12_tempt_10 : decode cX12_tempt 10 = .ok (.iconst 1, 1) := by decide +kernel
theorem dX12_tempt_11 : decode cX12_tempt 11 = .ok (.invokestatic 370, 3) := by decide +kernel
theorem dX12_tempt_14 : decode cX12_tempt 14 = .ok (.ifCond .ne 5, 3) := by decide +kernel
theorem dX12_tempt_17 : decode cX12_tempt 17 = .ok (.iconst (-1), 1) := by decide +kernel
theorem dX12_tempt_18 : decode cX12_tempt 18 = .ok (.ireturn, 1) := by decide +kernel
theorem dX12_tempt_19 : decode cX12_tempt 19 = .ok (.iconst (-1), 1) := by decide +kernel
theorem dX12_tempt_20 : decode cX12_tempt 20 = .ok (.istore_n 3, 1) := by decide +kernel
theorem dX12_tempt_21 : decode cX12_tempt 21 = .ok (.bipush 100, 2) := by decide +kernel
theorem dX12_tempt_23 : decode cX12_tempt 23 = .ok (.istore 4, 2) := by decide +kernel
theorem dX12_tempt_25 : decode cX12_tempt 25 = .ok (.iconst 0, 1) := by decide +kernel
theorem dX12_tempt_26 : decode cX12_tempt 26 = .ok (.istore 5, 2) := by decide +kernel
theorem dX12_tempt_28 : decode cX12_tempt 28 = .ok (.iload 5, 2) := by decide +kernel
theorem dX12_tempt_30 : decode cX12_tempt 30 = .ok (.aload_n 0, 1) := by decide +kernel
theorem dX12_tempt_31 : decode cX12_tempt 31 = .ok (.invokevirtual 367, 3) := by decide +kernel
theorem dX12_tempt_34 : decode cX12_tempt 34 = .ok (.if_icmp .ge 78, 3) := by decide +kernel
theorem dX12_tempt_37 : decode cX12_tempt 37 = .ok (.iload 5, 2) := by decide +kernel
theorem dX12_tempt_39 : decode cX12_tempt 39 = .ok (.aload_n 0, 1) := by decide +kernel
theorem dX12_tempt_40 : decode cX12_tempt 40 = .ok (.getfield 88, 3) := by decide +kernel
theorem dX12_tempt_43 : decode cX12_tempt 43 = .ok (.bipush 8, 2) := by decide +kernel
theorem dX12_tempt_45 : decode cX12_tempt 45 = .ok (.iload_n 1, 1) := by decide +kernel
theorem dX12_tempt_46 : decode cX12_tempt 46 = .ok (.iadd, 1) := by decide +kernel
theorem dX12_tempt_47 : decode cX12_tempt 47 = .ok (.iaload, 1) := by decide +kernel
theorem dX12_tempt_48 : decode cX12_tempt 48 = .ok (.if_icmp .ne 6, 3) := by decide +kernel
theorem dX12_tempt_51 : decode cX12_tempt 51 = .ok (.goto 55, 3) := by decide +kernel
theorem dX12_tempt_54 : decode cX12_tempt 54 = .ok (.aload_n 0, 1) := by decide +kernel
theorem dX12_tempt_55 : decode cX12_tempt 55 = .ok (.aload_n 0, 1) := by decide +kernel
theorem dX12_tempt_56 : decode cX12_tempt 56 = .ok (.iload 5, 2) := by decide +kernel
theorem dX12_tempt_58 : decode cX12_tempt 58 = .ok (.invokevirtual 383, 3) := by decide +kernel
theorem dX12_tempt_61 : decode cX12_tempt 61 = .ok (.invokevirtual 447, 3) := by decide +kernel
theorem dX12_tempt_64 : decode cX12_tempt 64 = .ok (.aload_n 0, 1) := by decide +kernel
theorem dX12_tempt_65 : decode cX12_tempt 65 = .ok (.getfield 97, 3) := by decide +kernel
theorem dX12_tempt_68 : decode cX12_tempt 68 = .ok (.aload_n 0, 1) := by decide +kernel
theorem dX12_tempt_69 : decode cX12_tempt 69 = .ok (.getfield 88, 3) := by decide +kernel
theorem dX12_tempt_72 : decode cX12_tempt 72 = .ok (.iconst 0, 1) := by decide +kernel
theorem dX12_tempt_73 : decode cX12_tempt 73 = .ok (.iload_n 1, 1) := by decide +kernel
theorem dX12_tempt_74 : decode cX12_tempt 74 = .ok (.iadd, 1) := by decide +kernel
theorem dX12_tempt_75 : decode cX12_tempt 75 = .ok (.iaload, 1) := by decide +kernel
theorem dX12_tempt_76 : decode cX12_tempt 76 = .ok (.iaload, 1) := by decide +kernel
theorem dX12_tempt_77 : decode cX12_tempt 77 = .ok (.istore 6, 2) := by decide +kernel
theorem dX12_tempt_79 : decode cX12_tempt 79 = .ok (.iload 6, 2) := by decide +kernel
theorem dX12_tempt_81 : decode cX12_tempt 81 = .ok (.iconst 1, 1) := by decide +kernel
theorem dX12_tempt_82 : decode cX12_tempt 82 = .ok (.iconst 4, 1) := by decide +kernel
theorem dX12_tempt_83 : decode cX12_tempt 83 = .ok (.invokestatic 370, 3) := by decide +kernel
theorem dX12_tempt_86 : decode cX12_tempt 86 = .ok (.ifCond .eq 20, 3) := by decide +kernel
theorem dX12_tempt_89 : decode cX12_tempt 89 = .ok (.iload 6, 2) := by decide +kernel
theorem dX12_tempt_91 : decode cX12_tempt 91 = .ok (.iload 4, 2) := by decide +kernel
theorem dX12_tempt_93 : decode cX12_tempt 93 = .ok (.if_icmp .lt 6, 3) := by decide +kernel
theorem dX12_tempt_96 : decode cX12_tempt 96 = .ok (.goto 10, 3) := by decide +kernel
theorem dX12_tempt_99 : decode cX12_tempt 99 = .ok (.iload 5, 2) := by decide +kernel
theorem dX12_tempt_101 : decode cX12_tempt 101 = .ok (.istore_n 3, 1) := by decide +kernel
theorem dX12_tempt_102 : decode cX12_tempt 102 = .ok (.iload 6, 2) := by decide +kernel
theorem dX12_tempt_104 : decode cX12_tempt 104 = .ok (.istore 4, 2) := by decide +kernel
theorem dX12_tempt_106 : decode cX12_tempt 106 = .ok (.iinc 5 1, 3) := by decide +kernel
theorem dX12_tempt_109 : decode cX12_tempt 109 = .ok (.goto (-81), 3) := by decide +kernel
theorem dX12_tempt_112 : decode cX12_tempt 112 = .ok (.iload_n 3, 1) := by decide +kernel
theorem dX12_tempt_113 : decode cX12_tempt 113 = .ok (.ifCond .ge 7, 3) := by decide +kernel
theorem dX12_tempt_116 : decode cX12_tempt 116 = .ok (.iconst (-1), 1) := by decide +kernel
theorem dX12_tempt_117 : decode cX12_tempt 117 = .ok (.goto 13, 3) := by decide +kernel
theorem dX12_tempt_120 : decode cX12_tempt 120 = .ok (.iload_n 2, 1) := by decide +kernel
theorem dX12_tempt_121 : decode cX12_tempt 121 = .ok (.ifCond .ne 7, 3) := by decide +kernel
theorem dX12_tempt_124 : decode cX12_tempt 124 = .ok (.iload_n 3, 1) := by decide +kernel
theorem dX12_tempt_125 : decode cX12_tempt 125 = .ok (.goto 5, 3) := by decide +kernel
theorem dX12_tempt_128 : decode cX12_tempt 128 = .ok (.iload 4, 2) := by decide +kernel
theorem dX12_tempt_130 : decode cX12_tempt 130 = .ok (.ireturn, 1) := by decide +kernel
theorem dX12_useful_0 : decode cX12_useful 0 = .ok (.iconst 0, 1) := by decide +kernel
theorem dX12_useful_1 : decode cX12_useful 1 = .ok (.istore_n 1, 1) := by decide +kernel
theorem dX12_useful_2 : decode cX12_useful 2 = .ok (.iconst 0, 1) := by decide +kernel
theorem dX12_useful_3 : decode cX12_useful 3 = .ok (.istore_n 2, 1) := by decide +kernel
theorem dX12_useful_4 : decode cX12_useful 4 = .ok (.iload_n 2, 1) := by decide +kernel
theorem dX12_useful_5 : decode cX12_useful 5 = .ok (.aload_n 0, 1) := by decide +kernel
theorem dX12_useful_6 : decode cX12_useful 6 = .ok (.invokevirtual 374, 3) := by decide +kernel
theorem dX12_useful_9 : decode cX12_useful 9 = .ok (.aload_n 0, 1) := by decide +kernel
theorem dX12_useful_10 : decode cX12_useful 10 = .ok (.invokevirtual 358, 3) := by decide +kernel
theorem dX12_useful_13 : decode cX12_useful 13 = .ok (.imul, 1) := by decide +kernel
theorem dX12_useful_14 : decode cX12_useful 14 = .ok (.if_icmp .ge 97, 3) := by decide +kernel
theorem dX12_useful_17 : decode cX12_useful 17 = .ok (.iconst 0, 1) := by decide +kernel
theorem dX12_useful_18 : decode cX12_useful 18 = .ok (.istore_n 3, 1) := by decide +kernel
theorem dX12_useful_19 : decode cX12_useful 19 = .ok (.iload_n 3, 1) := by decide +kernel
theorem dX12_useful_20 : decode cX12_useful 20 = .ok (.aload_n 0, 1) := by decide +kernel
theorem dX12_useful_21 : decode cX12_useful 21 = .ok (.invokevirtual 367, 3) := by decide +kernel
theorem dX12_useful_24 : decode cX12_useful 24 = .ok (.if_icmp .ge 81, 3) := by decide +kernel
theorem dX12_useful_27 : decode cX12_useful 27 = .ok (.iconst 0, 1) := by decide +kernel
theorem dX12_useful_28 : decode cX12_useful 28 = .ok (.istore 4, 2) := by decide +kernel
theorem dX12_useful_30 : decode cX12_useful 30 = .ok (.iload 4, 2) := by decide +kernel
theorem dX12_useful_32 : decode cX12_useful 32 = .ok (.aload_n 0, 1) := by decide +kernel
theorem dX12_useful_33 : decode cX12_useful 33 = .ok (.invokevirtual 367, 3) := by decide +kernel
theorem dX12_useful_36 : decode cX12_useful 36 = .ok (.if_icmp .ge 63, 3) := by decide +kernel
theorem dX12_useful_39 : decode cX12_useful 39 = .ok (.aload_n 0, 1) := by decide +kernel
theorem dX12_useful_40 : decode cX12_useful 40 = .ok (.aload_n 0, 1) := by decide +kernel
theorem dX12_useful_41 : decode cX12_useful 41 = .ok (.iload_n 3, 1) := by decide +kernel
theorem dX12_useful_42 : decode cX12_useful 42 = .ok (.invokevirtual 383, 3) := by decide +kernel
theorem dX12_useful_45 : decode cX12_useful 45 = .ok (.aload_n 0, 1) := by decide +kernel
theorem dX12_useful_46 : decode cX12_useful 46 = .ok (.iload 4, 2) := by decide +kernel
theorem dX12_useful_48 : decode cX12_useful 48 = .ok (.invokevirtual 383, 3) := by decide +kernel
theorem dX12_useful_51 : decode cX12_useful 51 = .ok (.invokevirtual 432, 3) := by decide +kernel
theorem dX12_useful_54 : decode cX12_useful 54 = .ok (.ifCond .ne 39, 3) := by decide +kernel
theorem dX12_useful_57 : decode cX12_useful 57 = .ok (.aload_n 0, 1) := by decide +kernel
theorem dX12_useful_58 : decode cX12_useful 58 = .ok (.aload_n 0, 1) := by decide +kernel
theorem dX12_useful_59 : decode cX12_useful 59 = .ok (.iload_n 3, 1) := by decide +kernel
theorem dX12_useful_60 : decode cX12_useful 60 = .ok (.invokevirtual 383, 3) := by decide +kernel
theorem dX12_useful_63 : decode cX12_useful 63 = .ok (.aload_n 0, 1) := by decide +kernel
theorem dX12_useful_64 : decode cX12_useful 64 = .ok (.getfield 91, 3) := by decide +kernel
theorem dX12_useful_67 : decode cX12_useful 67 = .ok (.iload_n 2, 1) := by decide +kernel
theorem dX12_useful_68 : decode cX12_useful 68 = .ok (.iaload, 1) := by decide +kernel
theorem dX12_useful_69 : decode cX12_useful 69 = .ok (.ior, 1) := by decide +kernel
theorem dX12_useful_70 : decode cX12_useful 70 = .ok (.aload_n 0, 1) := by decide +kernel
theorem dX12_useful_71 : decode cX12_useful 71 = .ok (.iload 4, 2) := by decide +kernel
theorem dX12_useful_73 : decode cX12_useful 73 = .ok (.invokevirtual 383, 3) := by decide +kernel
theorem dX12_useful_76 : decode cX12_useful 76 = .ok (.invokevirtual 432, 3) := by decide +kernel
theorem dX12_useful_79 : decode cX12_useful 79 = .ok (.ifCond .eq 14, 3) := by decide +kernel
theorem dX12_useful_82 : decode cX12_useful 82 = .ok (.iload_n 1, 1) := by decide +kernel
theorem dX12_useful_83 : decode cX12_useful 83 = .ok (.iconst 1, 1) := by decide +kernel
theorem dX12_useful_84 : decode cX12_useful 84 = .ok (.iload_n 2, 1) := by decide +kernel
theorem dX12_useful_85 : decode cX12_useful 85 = .ok (.aload_n 0, 1) := by decide +kernel
theorem dX12_useful_86 : decode cX12_useful 86 = .ok (.invokevirtual 358, 3) := by decide +kernel
theorem dX12_useful_89 : decode cX12_useful 89 = .ok (.idiv, 1) := by decide +kernel
theorem dX12_useful_90 : decode cX12_useful 90 = .ok (.ishl, 1) := by decide +kernel
theorem dX12_useful_91 : decode cX12_useful 91 = .ok (.ior, 1) := by decide +kernel
theorem dX12_useful_92 : decode cX12_useful 92 = .ok (.istore_n 1, 1) := by decide +kernel
theorem dX12_useful_93 : decode cX12_useful 93 = .ok (.iinc 4 1, 3) := by decide +kernel
theorem dX12_useful_96 : decode cX12_useful 96 = .ok (.goto (-66), 3) := by decide +kernel
theorem dX12_useful_99 : decode cX12_useful 99 = .ok (.iinc 3 1, 3) := by decide +kernel
theorem dX12_useful_102 : decode cX12_useful 102 = .ok (.goto (-83), 3) := by decide +kernel
theorem dX12_useful_105 : decode cX12_useful 105 = .ok (.iinc 2 1, 3) := by decide +kernel
theorem dX12_useful_108 : decode cX12_useful 108 = .ok (.goto (-104), 3) := by decide +kernel
theorem dX12_useful_111 : decode cX12_useful 111 = .ok (.iload_n 1, 1) := by decide +kernel
theorem dX12_useful_112 : decode cX12_useful 112 = .ok (.ireturn, 1) := by decide +kernel
theorem dX12_isBelow_0 : decode cX12_isBelow 0 = .ok (.aload_n 0, 1) := by decide +kernel
theorem dX12_isBelow_1 : decode cX12_isBelow 1 = .ok (.aload_n 0, 1) := by decide +kernel
theorem dX12_isBelow_2 : decode cX12_isBelow 2 = .ok (.iload_n 1, 1) := by decide +kernel
theorem dX12_isBelow_3 : decode cX12_isBelow 3 = .ok (.invokevirtual 383, 3) := by decide +kernel
theorem dX12_isBelow_6 : decode cX12_isBelow 6 = .ok (.aload_n 0, 1) := by decide +kernel
theorem dX12_isBelow_7 : decode cX12_isBelow 7 = .ok (.iload_n 2, 1) := by decide +kernel
theorem dX12_isBelow_8 : decode cX12_isBelow 8 = .ok (.invokevirtual 383, 3) := by decide +kernel
theorem dX12_isBelow_11 : decode cX12_isBelow 11 = .ok (.invokevirtual 429, 3) := by decide +kernel
theorem dX12_isBelow_14 : decode cX12_isBelow 14 = .ok (.ifCond .eq 24, 3) := by decide +kernel
theorem dX12_isBelow_17 : decode cX12_isBelow 17 = .ok (.aload_n 0, 1) := by decide +kernel
theorem dX12_isBelow_18 : decode cX12_isBelow 18 = .ok (.aload_n 0, 1) := by decide +kernel
theorem dX12_isBelow_19 : decode cX12_isBelow 19 = .ok (.iload_n 1, 1) := by decide +kernel
theorem dX12_isBelow_20 : decode cX12_isBelow 20 = .ok (.invokevirtual 383, 3) := by decide +kernel
theorem dX12_isBelow_23 : decode cX12_isBelow 23 = .ok (.aload_n 0, 1) := by decide +kernel
theorem dX12_isBelow_24 : decode cX12_isBelow 24 = .ok (.iload_n 2, 1) := by decide +kernel
theorem dX12_isBelow_25 : decode cX12_isBelow 25 = .ok (.invokevirtual 383, 3) := by decide +kernel
theorem dX12_isBelow_28 : decode cX12_isBelow 28 = .ok (.invokevirtual 432, 3) := by decide +kernel
theorem dX12_isBelow_31 : decode cX12_isBelow 31 = .ok (.ifCond .ne 7, 3) := by decide +kernel
theorem dX12_isBelow_34 : decode cX12_isBelow 34 = .ok (.iconst 1, 1) := by decide +kernel
theorem dX12_isBelow_35 : decode cX12_isBelow 35 = .ok (.goto 4, 3) := by decide +kernel
theorem dX12_isBelow_38 : decode cX12_isBelow 38 = .ok (.iconst 0, 1) := by decide +kernel
theorem dX12_isBelow_39 : decode cX12_isBelow 39 = .ok (.ireturn, 1) := by decide +kernel
theorem dX12_chain_0 : decode cX12_chain 0 = .ok (.iconst 0, 1) := by decide +kernel
theorem dX12_chain_1 : decode cX12_chain 1 = .ok (.istore_n 1, 1) := by decide +kernel
theorem dX12_chain_2 : decode cX12_chain 2 = .ok (.iconst 0, 1) := by decide +kernel
theorem dX12_chain_3 : decode cX12_chain 3 = .ok (.istore_n 2, 1) := by decide +kernel
theorem dX12_chain_4 : decode cX12_chain 4 = .ok (.iload_n 2, 1) := by decide +kernel
theorem dX12_chain_5 : decode cX12_chain 5 = .ok (.bipush 12, 2) := by decide +kernel
theorem dX12_chain_7 : decode cX12_chain 7 = .ok (.if_icmp .ge 116, 3) := by decide +kernel
theorem dX12_chain_10 : decode cX12_chain 10 = .ok (.iconst 0, 1) := by decide +kernel
theorem dX12_chain_11 : decode cX12_chain 11 = .ok (.istore_n 3, 1) := by decide +kernel
theorem dX12_chain_12 : decode cX12_chain 12 = .ok (.iload_n 3, 1) := by decide +kernel
theorem dX12_chain_13 : decode cX12_chain 13 = .ok (.aload_n 0, 1) := by decide +kernel
theorem dX12_chain_14 : decode cX12_chain 14 = .ok (.invokevirtual 367, 3) := by decide +kernel
theorem dX12_chain_17 : decode cX12_chain 17 = .ok (.if_icmp .ge 100, 3) := by decide +kernel
theorem dX12_chain_20 : decode cX12_chain 20 = .ok (.iload_n 2, 1) := by decide +kernel
theorem dX12_chain_21 : decode cX12_chain 21 = .ok (.ifCond .ne 10, 3) := by decide +kernel
theorem dX12_chain_24 : decode cX12_chain 24 = .ok (.aload_n 0, 1) := by decide +kernel
theorem dX12_chain_25 : decode cX12_chain 25 = .ok (.getfield 103, 3) := by decide +kernel
theorem dX12_chain_28 : decode cX12_chain 28 = .ok (.iload_n 3, 1) := by decide +kernel
theorem dX12_chain_29 : decode cX12_chain 29 = .ok (.iconst 1, 1) := by decide +kernel
theorem dX12_chain_30 : decode cX12_chain 30 = .ok (.iastore, 1) := by decide +kernel
theorem dX12_chain_31 : decode cX12_chain 31 = .ok (.iconst 0, 1) := by decide +kernel
theorem dX12_chain_32 : decode cX12_chain 32 = .ok (.istore 4, 2) := by decide +kernel
theorem dX12_chain_34 : decode cX12_chain 34 = .ok (.iload 4, 2) := by decide +kernel
theorem dX12_chain_36 : decode cX12_chain 36 = .ok (.aload_n 0, 1) := by decide +kernel
theorem dX12_chain_37 : decode cX12_chain 37 = .ok (.invokevirtual 367, 3) := by decide +kernel
theorem dX12_chain_40 : decode cX12_chain 40 = .ok (.if_icmp .ge 54, 3) := by decide +kernel
theorem dX12_chain_43 : decode cX12_chain 43 = .ok (.iload_n 2, 1) := by decide +kernel
theorem dX12_chain_44 : decode cX12_chain 44 = .ok (.ifCond .le 50, 3) := by decide +kernel
theorem dX12_chain_47 : decode cX12_chain 47 = .ok (.aload_n 0, 1) := by decide +kernel
theorem dX12_chain_48 : decode cX12_chain 48 = .ok (.iload_n 3, 1) := by decide +kernel
theorem dX12_chain_49 : decode cX12_chain 49 = .ok (.iload 4, 2) := by decide +kernel
theorem dX12_chain_51 : decode cX12_chain 51 = .ok (.invokevirtual 454, 3) := by decide +kernel
theorem dX12_chain_54 : decode cX12_chain 54 = .ok (.ifCond .eq 34, 3) := by decide +kernel
theorem dX12_chain_57 : decode cX12_chain 57 = .ok (.aload_n 0, 1) := by decide +kernel
theorem dX12_chain_58 : decode cX12_chain 58 = .ok (.getfield 103, 3) := by decide +kernel
theorem dX12_chain_61 : decode cX12_chain 61 = .ok (.iload 4, 2) := by decide +kernel
theorem dX12_chain_63 : decode cX12_chain 63 = .ok (.iaload, 1) := by decide +kernel
theorem dX12_chain_64 : decode cX12_chain 64 = .ok (.aload_n 0, 1) := by decide +kernel
theorem dX12_chain_65 : decode cX12_chain 65 = .ok (.getfield 103, 3) := by decide +kernel
theorem dX12_chain_68 : decode cX12_chain 68 = .ok (.iload_n 3, 1) := by decide +kernel
theorem dX12_chain_69 : decode cX12_chain 69 = .ok (.iaload, 1) := by decide +kernel
theorem dX12_chain_70 : decode cX12_chain 70 = .ok (.if_icmp .lt 18, 3) := by decide +kernel
theorem dX12_chain_73 : decode cX12_chain 73 = .ok (.aload_n 0, 1) := by decide +kernel
theorem dX12_chain_74 : decode cX12_chain 74 = .ok (.getfield 103, 3) := by decide +kernel
theorem dX12_chain_77 : decode cX12_chain 77 = .ok (.iload_n 3, 1) := by decide +kernel
theorem dX12_chain_78 : decode cX12_chain 78 = .ok (.aload_n 0, 1) := by decide +kernel
theorem dX12_chain_79 : decode cX12_chain 79 = .ok (.getfield 103, 3) := by decide +kernel
theorem dX12_chain_82 : decode cX12_chain 82 = .ok (.iload 4, 2) := by decide +kernel
theorem dX12_chain_84 : decode cX12_chain 84 = .ok (.iaload, 1) := by decide +kernel
theorem dX12_chain_85 : decode cX12_chain 85 = .ok (.iconst 1, 1) := by decide +kernel
theorem dX12_chain_86 : decode cX12_chain 86 = .ok (.iadd, 1) := by decide +kernel
theorem dX12_chain_87 : decode cX12_chain 87 = .ok (.iastore, 1) := by decide +kernel
theorem dX12_chain_88 : decode cX12_chain 88 = .ok (.iinc 4 1, 3) := by decide +kernel
theorem dX12_chain_91 : decode cX12_chain 91 = .ok (.goto (-57), 3) := by decide +kernel
theorem dX12_chain_94 : decode cX12_chain 94 = .ok (.aload_n 0, 1) := by decide +kernel
theorem dX12_chain_95 : decode cX12_chain 95 = .ok (.getfield 103, 3) := by decide +kernel
theorem dX12_chain_98 : decode cX12_chain 98 = .ok (.iload_n 3, 1) := by decide +kernel
theorem dX12_chain_99 : decode cX12_chain 99 = .ok (.iaload, 1) := by decide +kernel
theorem dX12_chain_100 : decode cX12_chain 100 = .ok (.iload_n 1, 1) := by decide +kernel
theorem dX12_chain_101 : decode cX12_chain 101 = .ok (.if_icmp .le 10, 3) := by decide +kernel
theorem dX12_chain_104 : decode cX12_chain 104 = .ok (.aload_n 0, 1) := by decide +kernel
theorem dX12_chain_105 : decode cX12_chain 105 = .ok (.getfield 103, 3) := by decide +kernel
theorem dX12_chain_108 : decode cX12_chain 108 = .ok (.iload_n 3, 1) := by decide +kernel
theorem dX12_chain_109 : decode cX12_chain 109 = .ok (.iaload, 1) := by decide +kernel
theorem dX12_chain_110 : decode cX12_chain 110 = .ok (.istore_n 1, 1) := by decide +kernel
theorem dX12_chain_111 : decode cX12_chain 111 = .ok (.iinc 3 1, 3) := by decide +kernel
theorem dX12_chain_114 : decode cX12_chain 114 = .ok (.goto (-102), 3) := by decide +kernel
theorem dX12_chain_117 : decode cX12_chain 117 = .ok (.iinc 2 1, 3) := by decide +kernel
theorem dX12_chain_120 : decode cX12_chain 120 = .ok (.goto (-116), 3) := by decide +kernel
theorem dX12_chain_123 : decode cX12_chain 123 = .ok (.aload_n 0, 1) := by decide +kernel
theorem dX12_chain_124 : decode cX12_chain 124 = .ok (.iconst 0, 1) := by decide +kernel
theorem dX12_chain_125 : decode cX12_chain 125 = .ok (.putfield 401, 3) := by decide +kernel
theorem dX12_chain_128 : decode cX12_chain 128 = .ok (.iconst 0, 1) := by decide +kernel
theorem dX12_chain_129 : decode cX12_chain 129 = .ok (.istore_n 2, 1) := by decide +kernel
theorem dX12_chain_130 : decode cX12_chain 130 = .ok (.iload_n 2, 1) := by decide +kernel
theorem dX12_chain_131 : decode cX12_chain 131 = .ok (.iload_n 1, 1) := by decide +kernel
theorem dX12_chain_132 : decode cX12_chain 132 = .ok (.if_icmp .ge 66, 3) := by decide +kernel
theorem dX12_chain_135 : decode cX12_chain 135 = .ok (.iconst 0, 1) := by decide +kernel
theorem dX12_chain_136 : decode cX12_chain 136 = .ok (.istore_n 3, 1) := by decide +kernel
theorem dX12_chain_137 : decode cX12_chain 137 = .ok (.aload_n 0, 1) := by decide +kernel
theorem dX12_chain_138 : decode cX12_chain 138 = .ok (.getfield 103, 3) := by decide +kernel
theorem dX12_chain_141 : decode cX12_chain 141 = .ok (.iload_n 3, 1) := by decide +kernel
theorem dX12_chain_142 : decode cX12_chain 142 = .ok (.iaload, 1) := by decide +kernel
theorem dX12_chain_143 : decode cX12_chain 143 = .ok (.iload_n 1, 1) := by decide +kernel
theorem dX12_chain_144 : decode cX12_chain 144 = .ok (.iload_n 2, 1) := by decide +kernel
theorem dX12_chain_145 : decode cX12_chain 145 = .ok (.isub, 1) := by decide +kernel
theorem dX12_chain_146 : decode cX12_chain 146 = .ok (.if_icmp .ne 23, 3) := by decide +kernel
theorem dX12_chain_149 : decode cX12_chain 149 = .ok (.iload_n 2, 1) := by decide +kernel
theorem dX12_chain_150 : decode cX12_chain 150 = .ok (.ifCond .le 25, 3) := by decide +kernel
theorem dX12_chain_153 : decode cX12_chain 153 = .ok (.aload_n 0, 1) := by decide +kernel
theorem dX12_chain_154 : decode cX12_chain 154 = .ok (.aload_n 0, 1) := by decide +kernel
theorem dX12_chain_155 : decode cX12_chain 155 = .ok (.getfield 100, 3) := by decide +kernel
theorem dX12_chain_158 : decode cX12_chain 158 = .ok (.iload_n 2, 1) := by decide +kernel
theorem dX12_chain_159 : decode cX12_chain 159 = .ok (.iconst 1, 1) := by decide +kernel
theorem dX12_chain_160 : decode cX12_chain 160 = .ok (.isub, 1) := by decide +kernel
theorem dX12_chain_161 : decode cX12_chain 161 = .ok (.iaload, 1) := by decide +kernel
theorem dX12_chain_162 : decode cX12_chain 162 = .ok (.iload_n 3, 1) := by decide +kernel
theorem dX12_chain_163 : decode cX12_chain 163 = .ok (.invokevirtual 454, 3) := by decide +kernel
theorem dX12_chain_166 : decode cX12_chain 166 = .ok (.ifCond .ne 9, 3) := by decide +kernel
theorem dX12_chain_169 : decode cX12_chain 169 = .ok (.iinc 3 1, 3) := by decide +kernel
theorem dX12_chain_172 : decode cX12_chain 172 = .ok (.goto (-35), 3) := by decide +kernel
theorem dX12_chain_175 : decode cX12_chain 175 = .ok (.aload_n 0, 1) := by decide +kernel
theorem dX12_chain_176 : decode cX12_chain 176 = .ok (.getfield 100, 3) := by decide +kernel
theorem dX12_chain_179 : decode cX12_chain 179 = .ok (.iload_n 2, 1) := by decide +kernel
theorem dX12_chain_180 : decode cX12_chain 180 = .ok (.iload_n 3, 1) := by decide +kernel
theorem dX12_chain_181 : decode cX12_chain 181 = .ok (.iastore, 1) := by decide +kernel
theorem dX12_chain_182 : decode cX12_chain 182 = .ok (.aload_n 0, 1) := by decide +kernel
theorem dX12_chain_183 : decode cX12_chain 183 = .ok (.dup, 1) := by decide +kernel
theorem dX12_chain_184 : decode cX12_chain 184 = .ok (.getfield 401, 3) := by decide +kernel
theorem dX12_chain_187 : decode cX12_chain 187 = .ok (.iconst 1, 1) := by decide +kernel
theorem dX12_chain_188 : decode cX12_chain 188 = .ok (.iadd, 1) := by decide +kernel
theorem dX12_chain_189 : decode cX12_chain 189 = .ok (.putfield 401, 3) := by decide +kernel
theorem dX12_chain_192 : decode cX12_chain 192 = .ok (.iinc 2 1, 3) := by decide +kernel
theorem dX12_chain_195 : decode cX12_chain 195 = .ok (.goto (-65), 3) := by decide +kernel
theorem dX12_chain_198 : decode cX12_chain 198 = .ok (.iload_n 1, 1) := by decide +kernel
theorem dX12_chain_199 : decode cX12_chain 199 = .ok (.ireturn, 1) := by decide +kernel
theorem dX12_lowest_0 : decode cX12_lowest 0 = .ok (.iconst 0, 1) := by decide +kernel
theorem dX12_lowest_1 : decode cX12_lowest 1 = .ok (.istore_n 1, 1) := by decide +kernel
theorem dX12_lowest_2 : decode cX12_lowest 2 = .ok (.iconst 0, 1) := by decide +kernel
theorem dX12_lowest_3 : decode cX12_lowest 3 = .ok (.istore_n 2, 1) := by decide +kernel
theorem dX12_lowest_4 : decode cX12_lowest 4 = .ok (.iload_n 2, 1) := by decide +kernel
theorem dX12_lowest_5 : decode cX12_lowest 5 = .ok (.aload_n 0, 1) := by decide +kernel
theorem dX12_lowest_6 : decode cX12_lowest 6 = .ok (.invokevirtual 367, 3) := by decide +kernel
theorem dX12_lowest_9 : decode cX12_lowest 9 = .ok (.if_icmp .ge 59, 3) := by decide +kernel
theorem dX12_lowest_12 : decode cX12_lowest 12 = .ok (.iconst 1, 1) := by decide +kernel
theorem dX12_lowest_13 : decode cX12_lowest 13 = .ok (.istore_n 3, 1) := by decide +kernel
theorem dX12_lowest_14 : decode cX12_lowest 14 = .ok (.iconst 0, 1) := by decide +kernel
theorem dX12_lowest_15 : decode cX12_lowest 15 = .ok (.istore 4, 2) := by decide +kernel
theorem dX12_lowest_17 : decode cX12_lowest 17 = .ok (.iload 4, 2) := by decide +kernel
theorem dX12_lowest_19 : decode cX12_lowest 19 = .ok (.aload_n 0, 1) := by decide +kernel
theorem dX12_lowest_20 : decode cX12_lowest 20 = .ok (.invokevirtual 367, 3) := by decide +kernel
theorem dX12_lowest_23 : decode cX12_lowest 23 = .ok (.if_icmp .ge 29, 3) := by decide +kernel
theorem dX12_lowest_26 : decode cX12_lowest 26 = .ok (.iload_n 3, 1) := by decide +kernel
theorem dX12_lowest_27 : decode cX12_lowest 27 = .ok (.ifCond .eq 17, 3) := by decide +kernel
theorem dX12_lowest_30 : decode cX12_lowest 30 = .ok (.aload_n 0, 1) := by decide +kernel
theorem dX12_lowest_31 : decode cX12_lowest 31 = .ok (.iload 4, 2) := by decide +kernel
theorem dX12_lowest_33 : decode cX12_lowest 33 = .ok (.iload_n 2, 1) := by decide +kernel
theorem dX12_lowest_34 : decode cX12_lowest 34 = .ok (.invokevirtual 454, 3) := by decide +kernel
