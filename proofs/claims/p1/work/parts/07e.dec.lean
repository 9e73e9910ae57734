theorem dX12_init_22 : decode cX12_init 22 = .ok (.aload_n 0, 1) := by decide +kernel
theorem dX12_init_23 : decode cX12_init 23 = .ok (.iconst (-1), 1) := by decide +kernel
theorem dX12_init_24 : decode cX12_init 24 = .ok (.putfield 16, 3) := by decide +kernel
theorem dX12_init_27 : decode cX12_init 27 = .ok (.aload_n 0, 1) := by decide +kernel
theorem dX12_init_28 : decode cX12_init 28 = .ok (.iconst 2, 1) := by decide +kernel
theorem dX12_init_29 : decode cX12_init 29 = .ok (.newarray .int, 2) := by decide +kernel
theorem dX12_init_31 : decode cX12_init 31 = .ok (.putfield 20, 3) := by decide +kernel
theorem dX12_init_34 : decode cX12_init 34 = .ok (.aload_n 0, 1) := by decide +kernel
theorem dX12_init_35 : decode cX12_init 35 = .ok (.iconst 2, 1) := by decide +kernel
theorem dX12_init_36 : decode cX12_init 36 = .ok (.newarray .int, 2) := by decide +kernel
theorem dX12_init_38 : decode cX12_init 38 = .ok (.putfield 24, 3) := by decide +kernel
theorem dX12_init_41 : decode cX12_init 41 = .ok (.aload_n 0, 1) := by decide +kernel
theorem dX12_init_42 : decode cX12_init 42 = .ok (.iconst 2, 1) := by decide +kernel
theorem dX12_init_43 : decode cX12_init 43 = .ok (.newarray .int, 2) := by decide +kernel
theorem dX12_init_45 : decode cX12_init 45 = .ok (.putfield 27, 3) := by decide +kernel
theorem dX12_init_48 : decode cX12_init 48 = .ok (.aload_n 0, 1) := by decide +kernel
theorem dX12_init_49 : decode cX12_init 49 = .ok (.iconst 2, 1) := by decide +kernel
theorem dX12_init_50 : decode cX12_init 50 = .ok (.newarray .int, 2) := by decide +kernel
theorem dX12_init_52 : decode cX12_init 52 = .ok (.putfield 30, 3) := by decide +kernel
theorem dX12_init_55 : decode cX12_init 55 = .ok (.aload_n 0, 1) := by decide +kernel
theorem dX12_init_56 : decode cX12_init 56 = .ok (.iconst 2, 1) := by decide +kernel
theorem dX12_init_57 : decode cX12_init 57 = .ok (.newarray .int, 2) := by decide +kernel
theorem dX12_init_59 : decode cX12_init 59 = .ok (.putfield 33, 3) := by decide +kernel
theorem dX12_init_62 : decode cX12_init 62 = .ok (.aload_n 0, 1) := by decide +kernel
theorem dX12_init_63 : decode cX12_init 63 = .ok (.iconst 2, 1) := by decide +kernel
theorem dX12_init_64 : decode cX12_init 64 = .ok (.newarray .int, 2) := by decide +kernel
theorem dX12_init_66 : decode cX12_init 66 = .ok (.putfield 36, 3) := by decide +kernel
theorem dX12_init_69 : decode cX12_init 69 = .ok (.aload_n 0, 1) := by decide +kernel
theorem dX12_init_70 : decode cX12_init 70 = .ok (.iconst 2, 1) := by decide +kernel
theorem dX12_init_71 : decode cX12_init 71 = .ok (.newarray .int, 2) := by decide +kernel
theorem dX12_init_73 : decode cX12_init 73 = .ok (.putfield 39, 3) := by decide +kernel
theorem dX12_init_76 : decode cX12_init 76 = .ok (.aload_n 0, 1) := by decide +kernel
theorem dX12_init_77 : decode cX12_init 77 = .ok (.iconst 2, 1) := by decide +kernel
theorem dX12_init_78 : decode cX12_init 78 = .ok (.newarray .int, 2) := by decide +kernel
theorem dX12_init_80 : decode cX12_init 80 = .ok (.putfield 42, 3) := by decide +kernel
theorem dX12_init_83 : decode cX12_init 83 = .ok (.aload_n 0, 1) := by decide +kernel
theorem dX12_init_84 : decode cX12_init 84 = .ok (.bipush 16, 2) := by decide +kernel
theorem dX12_init_86 : decode cX12_init 86 = .ok (.newarray .int, 2) := by decide +kernel
theorem dX12_init_88 : decode cX12_init 88 = .ok (.putfield 45, 3) := by decide +kernel
theorem dX12_init_91 : decode cX12_init 91 = .ok (.aload_n 0, 1) := by decide +kernel
theorem dX12_init_92 : decode cX12_init 92 = .ok (.bipush 12, 2) := by decide +kernel
theorem dX12_init_94 : decode cX12_init 94 = .ok (.newarray .int, 2) := by decide +kernel
theorem dX12_init_96 : decode cX12_init 96 = .ok (.putfield 48, 3) := by decide +kernel
theorem dX12_init_99 : decode cX12_init 99 = .ok (.aload_n 0, 1) := by decide +kernel
theorem dX12_init_100 : decode cX12_init 100 = .ok (.bipush 16, 2) := by decide +kernel
theorem dX12_init_102 : decode cX12_init 102 = .ok (.newarray .int, 2) := by decide +kernel
theorem dX12_init_104 : decode cX12_init 104 = .ok (.putfield 51, 3) := by decide +kernel
theorem dX12_init_107 : decode cX12_init 107 = .ok (.aload_n 0, 1) := by decide +kernel
theorem dX12_init_108 : decode cX12_init 108 = .ok (.bipush 16, 2) := by decide +kernel
theorem dX12_init_110 : decode cX12_init 110 = .ok (.newarray .int, 2) := by decide +kernel
theorem dX12_init_112 : decode cX12_init 112 = .ok (.putfield 54, 3) := by decide +kernel
theorem dX12_init_115 : decode cX12_init 115 = .ok (.aload_n 0, 1) := by decide +kernel
theorem dX12_init_116 : decode cX12_init 116 = .ok (.iconst 2, 1) := by decide +kernel
theorem dX12_init_117 : decode cX12_init 117 = .ok (.newarray .int, 2) := by decide +kernel
theorem dX12_init_119 : decode cX12_init 119 = .ok (.putfield 57, 3) := by decide +kernel
theorem dX12_init_122 : decode cX12_init 122 = .ok (.aload_n 0, 1) := by decide +kernel
theorem dX12_init_123 : decode cX12_init 123 = .ok (.iconst 2, 1) := by decide +kernel
theorem dX12_init_124 : decode cX12_init 124 = .ok (.newarray .int, 2) := by decide +kernel
theorem dX12_init_126 : decode cX12_init 126 = .ok (.putfield 60, 3) := by decide +kernel
theorem dX12_init_129 : decode cX12_init 129 = .ok (.aload_n 0, 1) := by decide +kernel
theorem dX12_init_130 : decode cX12_init 130 = .ok (.bipush 16, 2) := by decide +kernel
theorem dX12_init_132 : decode cX12_init 132 = .ok (.newarray .long, 2) := by decide +kernel
theorem dX12_init_134 : decode cX12_init 134 = .ok (.putfield 63, 3) := by decide +kernel
theorem dX12_init_137 : decode cX12_init 137 = .ok (.aload_n 0, 1) := by decide +kernel
theorem dX12_init_138 : decode cX12_init 138 = .ok (.bipush 12, 2) := by decide +kernel
theorem dX12_init_140 : decode cX12_init 140 = .ok (.newarray .long, 2) := by decide +kernel
theorem dX12_init_142 : decode cX12_init 142 = .ok (.putfield 67, 3) := by decide +kernel
theorem dX12_init_145 : decode cX12_init 145 = .ok (.aload_n 0, 1) := by decide +kernel
theorem dX12_init_146 : decode cX12_init 146 = .ok (.bipush 16, 2) := by decide +kernel
theorem dX12_init_148 : decode cX12_init 148 = .ok (.newarray .long, 2) := by decide +kernel
theorem dX12_init_150 : decode cX12_init 150 = .ok (.putfield 70, 3) := by decide +kernel
theorem dX12_init_153 : decode cX12_init 153 = .ok (.aload_n 0, 1) := by decide +kernel
theorem dX12_init_154 : decode cX12_init 154 = .ok (.sipush 1120, 3) := by decide +kernel
theorem dX12_init_157 : decode cX12_init 157 = .ok (.newarray .int, 2) := by decide +kernel
theorem dX12_init_159 : decode cX12_init 159 = .ok (.putfield 73, 3) := by decide +kernel
theorem dX12_init_162 : decode cX12_init 162 = .ok (.aload_n 0, 1) := by decide +kernel
theorem dX12_init_163 : decode cX12_init 163 = .ok (.sipush 1120, 3) := by decide +kernel
theorem dX12_init_166 : decode cX12_init 166 = .ok (.newarray .int, 2) := by decide +kernel
theorem dX12_init_168 : decode cX12_init 168 = .ok (.putfield 76, 3) := by decide +kernel
theorem dX12_init_171 : decode cX12_init 171 = .ok (.aload_n 0, 1) := by decide +kernel
theorem dX12_init_172 : decode cX12_init 172 = .ok (.bipush 90, 2) := by decide +kernel
theorem dX12_init_174 : decode cX12_init 174 = .ok (.newarray .int, 2) := by decide +kernel
theorem dX12_init_176 : decode cX12_init 176 = .ok (.putfield 79, 3) := by decide +kernel
theorem dX12_init_179 : decode cX12_init 179 = .ok (.aload_n 0, 1) := by decide +kernel
theorem dX12_init_180 : decode cX12_init 180 = .ok (.bipush 90, 2) := by decide +kernel
theorem dX12_init_182 : decode cX12_init 182 = .ok (.newarray .int, 2) := by decide +kernel
theorem dX12_init_184 : decode cX12_init 184 = .ok (.putfield 82, 3) := by decide +kernel
theorem dX12_init_187 : decode cX12_init 187 = .ok (.aload_n 0, 1) := by decide +kernel
theorem dX12_init_188 : decode cX12_init 188 = .ok (.bipush 60, 2) := by decide +kernel
theorem dX12_init_190 : decode cX12_init 190 = .ok (.newarray .int, 2) := by decide +kernel
theorem dX12_init_192 : decode cX12_init 192 = .ok (.putfield 85, 3) := by decide +kernel
theorem dX12_init_195 : decode cX12_init 195 = .ok (.aload_n 0, 1) := by decide +kernel
theorem dX12_init_196 : decode cX12_init 196 = .ok (.bipush 114, 2) := by decide +kernel
theorem dX12_init_198 : decode cX12_init 198 = .ok (.newarray .int, 2) := by decide +kernel
theorem dX12_init_200 : decode cX12_init 200 = .ok (.putfield 88, 3) := by decide +kernel
theorem dX12_init_203 : decode cX12_init 203 = .ok (.aload_n 0, 1) := by decide +kernel
theorem dX12_init_204 : decode cX12_init 204 = .ok (.bipush 48, 2) := by decide +kernel
theorem dX12_init_206 : decode cX12_init 206 = .ok (.newarray .int, 2) := by decide +kernel
theorem dX12_init_208 : decode cX12_init 208 = .ok (.putfield 91, 3) := by decide +kernel
theorem dX12_init_211 : decode cX12_init 211 = .ok (.aload_n 0, 1) := by decide +kernel
theorem dX12_init_212 : decode cX12_init 212 = .ok (.sipush 4674, 3) := by decide +kernel
theorem dX12_init_215 : decode cX12_init 215 = .ok (.newarray .int, 2) := by decide +kernel
theorem dX12_init_217 : decode cX12_init 217 = .ok (.putfield 94, 3) := by decide +kernel
theorem dX12_init_220 : decode cX12_init 220 = .ok (.aload_n 0, 1) := by decide +kernel
theorem dX12_init_221 : decode cX12_init 221 = .ok (.sipush 4096, 3) := by decide +kernel
theorem dX12_init_224 : decode cX12_init 224 = .ok (.newarray .int, 2) := by decide +kernel
theorem dX12_init_226 : decode cX12_init 226 = .ok (.putfield 97, 3) := by decide +kernel
theorem dX12_init_229 : decode cX12_init 229 = .ok (.aload_n 0, 1) := by decide +kernel
theorem dX12_init_230 : decode cX12_init 230 = .ok (.bipush 8, 2) := by decide +kernel
theorem dX12_init_232 : decode cX12_init 232 = .ok (.newarray .int, 2) := by decide +kernel
theorem dX12_init_234 : decode cX12_init 234 = .ok (.putfield 100, 3) := by decide +kernel
theorem dX12_init_237 : decode cX12_init 237 = .ok (.aload_n 0, 1) := by decide +kernel
theorem dX12_init_238 : decode cX12_init 238 = .ok (.bipush 8, 2) := by decide +kernel
theorem dX12_init_240 : decode cX12_init 240 = .ok (.newarray .int, 2) := by decide +kernel
theorem dX12_init_242 : decode cX12_init 242 = .ok (.putfield 103, 3) := by decide +kernel
theorem dX12_init_245 : decode cX12_init 245 = .ok (.aload_n 0, 1) := by decide +kernel
theorem dX12_init_246 : decode cX12_init 246 = .ok (.bipush 16, 2) := by decide +kernel
theorem dX12_init_248 : decode cX12_init 248 = .ok (.newarray .int, 2) := by decide +kernel
theorem dX12_init_250 : decode cX12_init 250 = .ok (.putfield 106, 3) := by decide +kernel
theorem dX12_init_253 : decode cX12_init 253 = .ok (.aload_n 0, 1) := by decide +kernel
theorem dX12_init_254 : decode cX12_init 254 = .ok (.bipush 30, 2) := by decide +kernel
theorem dX12_init_256 : decode cX12_init 256 = .ok (.newarray .int, 2) := by decide +kernel
theorem dX12_init_258 : decode cX12_init 258 = .ok (.putfield 109, 3) := by decide +kernel
theorem dX12_init_261 : decode cX12_init 261 = .ok (.aload_n 0, 1) := by decide +kernel
theorem dX12_init_262 : decode cX12_init 262 = .ok (.bipush 30, 2) := by decide +kernel
theorem dX12_init_264 : decode cX12_init 264 = .ok (.newarray .int, 2) := by decide +kernel
theorem dX12_init_266 : decode cX12_init 266 = .ok (.putfield 112, 3) := by decide +kernel
theorem dX12_init_269 : decode cX12_init 269 = .ok (.aload_n 0, 1) := by decide +kernel
theorem dX12_init_270 : decode cX12_init 270 = .ok (.bipush 30, 2) := by decide +kernel
theorem dX12_init_272 : decode cX12_init 272 = .ok (.newarray .int, 2) := by decide +kernel
theorem dX12_init_274 : decode cX12_init 274 = .ok (.putfield 115, 3) := by decide +kernel
theorem dX12_init_277 : decode cX12_init 277 = .ok (.aload_n 0, 1) := by decide +kernel
theorem dX12_init_278 : decode cX12_init 278 = .ok (.bipush 30, 2) := by decide +kernel
theorem dX12_init_280 : decode cX12_init 280 = .ok (.newarray .int, 2) := by decide +kernel
theorem dX12_init_282 : decode cX12_init 282 = .ok (.putfield 118, 3) := by decide +kernel
theorem dX12_init_285 : decode cX12_init 285 = .ok (.aload_n 0, 1) := by decide +kernel
theorem dX12_init_286 : decode cX12_init 286 = .ok (.bipush 30, 2) := by decide +kernel
theorem dX12_init_288 : decode cX12_init 288 = .ok (.newarray .int, 2) := by decide +kernel
theorem dX12_init_290 : decode cX12_init 290 = .ok (.putfield 121, 3) := by decide +kernel
theorem dX12_init_293 : decode cX12_init 293 = .ok (.aload_n 0, 1) := by decide +kernel
theorem dX12_init_294 : decode cX12_init 294 = .ok (.bipush 12, 2) := by decide +kernel
theorem dX12_init_296 : decode cX12_init 296 = .ok (.newarray .int, 2) := by decide +kernel
theorem dX12_init_298 : decode cX12_init 298 = .ok (.putfield 124, 3) := by decide +kernel
theorem dX12_init_301 : decode cX12_init 301 = .ok (.aload_n 0, 1) := by decide +kernel
theorem dX12_init_302 : decode cX12_init 302 = .ok (.sipush 342, 3) := by decide +kernel
theorem dX12_init_305 : decode cX12_init 305 = .ok (.newarray .int, 2) := by decide +kernel
theorem dX12_init_307 : decode cX12_init 307 = .ok (.putfield 127, 3) := by decide +kernel
theorem dX12_init_310 : decode cX12_init 310 = .ok (.aload_n 0, 1) := by decide +kernel
theorem dX12_init_311 : decode cX12_init 311 = .ok (.iconst 3, 1) := by decide +kernel
theorem dX12_init_312 : decode cX12_init 312 = .ok (.newarray .boolean, 2) := by decide +kernel
theorem dX12_init_314 : decode cX12_init 314 = .ok (.putfield 130, 3) := by decide +kernel
theorem dX12_init_317 : decode cX12_init 317 = .ok (.aload_n 0, 1) := by decide +kernel
theorem dX12_init_318 : decode cX12_init 318 = .ok (.invokevirtual 134, 3) := by decide +kernel
theorem dX12_init_321 : decode cX12_init 321 = .ok (.aload_n 0, 1) := by decide +kernel
theorem dX12_init_322 : decode cX12_init 322 = .ok (.invokevirtual 137, 3) := by decide +kernel
theorem dX12_init_325 : decode cX12_init 325 = .ok (.return_, 1) := by decide +kernel
theorem dX12_iron_0 : decode cX12_iron 0 = .ok (.aload_n 0, 1) := by decide +kernel
theorem dX12_iron_1 : decode cX12_iron 1 = .ok (.iload_n 1, 1) := by decide +kernel
theorem dX12_iron_2 : decode cX12_iron 2 = .ok (.invokevirtual 417, 3) := by decide +kernel
theorem dX12_iron_5 : decode cX12_iron 5 = .ok (.ifCond .eq 11, 3) := by decide +kernel
theorem dX12_iron_16 : decode cX12_iron 16 = .ok (.iconst (-1), 1) := by decide +kernel
theorem dX12_iron_17 : decode cX12_iron 17 = .ok (.ireturn, 1) := by decide +kernel
theorem dX12_isBeast_0 : decode cX12_isBeast 0 = .ok (.iload_n 1, 1) := by decide +kernel
theorem dX12_isBeast_1 : decode cX12_isBeast 1 = .ok (.iconst 0, 1) := by decide +kernel
theorem dX12_isBeast_2 : decode cX12_isBeast 2 = .ok (.aload_n 0, 1) := by decide +kernel
theorem dX12_isBeast_3 : decode cX12_isBeast 3 = .ok (.invokevirtual 377, 3) := by decide +kernel
theorem dX12_isBeast_6 : decode cX12_isBeast 6 = .ok (.iconst 1, 1) := by decide +kernel
theorem dX12_isBeast_7 : decode cX12_isBeast 7 = .ok (.isub, 1) := by decide +kernel
theorem dX12_isBeast_8 : decode cX12_isBeast 8 = .ok (.invokestatic 370, 3) := by decide +kernel
theorem dX12_isBeast_11 : decode cX12_isBeast 11 = .ok (.ireturn, 1) := by decide +kernel
theorem dX12_isGood_0 : decode cX12_isGood 0 = .ok (.aload_n 0, 1) := by decide +kernel
theorem dX12_isGood_1 : decode cX12_isGood 1 = .ok (.getfield 143, 3) := by decide +kernel
theorem dX12_isGood_4 : decode cX12_isGood 4 = .ok (.ifCond .ne 7, 3) := by decide +kernel
theorem dX12_isGood_7 : decode cX12_isGood 7 = .ok (.iconst 1, 1) := by decide +kernel
theorem dX12_isGood_8 : decode cX12_isGood 8 = .ok (.goto 4, 3) := by decide +kernel
theorem dX12_isGood_12 : decode cX12_isGood 12 = .ok (.ireturn, 1) := by decide +kernel
theorem dX12_isHerd_0 : decode cX12_isHerd 0 = .ok (.iload_n 1, 1) := by decide +kernel
theorem dX12_isHerd_1 : decode cX12_isHerd 1 = .ok (.iconst 0, 1) := by decide +kernel
theorem dX12_isHerd_2 : decode cX12_isHerd 2 = .ok (.aload_n 0, 1) := by decide +kernel
theorem dX12_isHerd_3 : decode cX12_isHerd 3 = .ok (.invokevirtual 367, 3) := by decide +kernel
theorem dX12_isHerd_6 : decode cX12_isHerd 6 = .ok (.iconst 1, 1) := by decide +kernel
theorem dX12_isHerd_7 : decode cX12_isHerd 7 = .ok (.isub, 1) := by decide +kernel
theorem dX12_isHerd_8 : decode cX12_isHerd 8 = .ok (.invokestatic 370, 3) := by decide +kernel
theorem dX12_isHerd_11 : decode cX12_isHerd 11 = .ok (.ireturn, 1) := by decide +kernel
theorem dX12_isIn_0 : decode cX12_isIn 0 = .ok (.iload_n 0, 1) := by decide +kernel
theorem dX12_isIn_1 : decode cX12_isIn 1 = .ok (.iload_n 1, 1) := by decide +kernel
theorem dX12_isIn_2 : decode cX12_isIn 2 = .ok (.if_icmp .lt 12, 3) := by decide +kernel
theorem dX12_isIn_5 : decode cX12_isIn 5 = .ok (.iload_n 0, 1) := by decide +kernel
theorem dX12_isIn_6 : decode cX12_isIn 6 = .ok (.iload_n 2, 1) := by decide +kernel
theorem dX12_isIn_7 : decode cX12_isIn 7 = .ok (.if_icmp .gt 7, 3) := by decide +kernel
theorem dX12_isIn_10 : decode cX12_isIn 10 = .ok (.iconst 1, 1) := by decide +kernel
theorem dX12_isIn_11 : decode cX12_isIn 11 = .ok (.goto 4, 3) := by decide +kernel
theorem dX12_isIn_14 : decode cX12_isIn 14 = .ok (.iconst 0, 1) := by decide +kernel
theorem dX12_isIn_15 : decode cX12_isIn 15 = .ok (.ireturn, 1) := by decide +kernel
theorem dX12_isIron_0 : decode cX12_isIron 0 = .ok (.iload_n 1, 1) := by decide +kernel
theorem dX12_isIron_1 : decode cX12_isIron 1 = .ok (.iconst 0, 1) := by decide +kernel
theorem dX12_isIron_2 : decode cX12_isIron 2 = .ok (.aload_n 0, 1) := by decide +kernel
theorem dX12_isIron_3 : decode cX12_isIron 3 = .ok (.invokevirtual 374, 3) := by decide +kernel
theorem dX12_isIron_6 : decode cX12_isIron 6 = .ok (.iconst 1, 1) := by decide +kernel
theorem dX12_isIron_7 : decode cX12_isIron 7 = .ok (.isub, 1) := by decide +kernel
theorem dX12_isIron_8 : decode cX12_isIron 8 = .ok (.invokestatic 370, 3) := by decide +kernel
theorem dX12_isIron_11 : decode cX12_isIron 11 = .ok (.ireturn, 1) := by decide +kernel
theorem dX12_isMark_0 : decode cX12_isMark 0 = .ok (.iload_n 0, 1) := by decide +kernel
theorem dX12_isMark_1 : decode cX12_isMark 1 = .ok (.ifCond .lt 14, 3) := by decide +kernel
theorem dX12_isMark_4 : decode cX12_isMark 4 = .ok (.iload_n 0, 1) := by decide +kernel
theorem dX12_isMark_5 : decode cX12_isMark 5 = .ok (.sipush 4096, 3) := by decide +kernel
theorem dX12_isMark_8 : decode cX12_isMark 8 = .ok (.if_icmp .ge 7, 3) := by decide +kernel
theorem dX12_isMark_11 : decode cX12_isMark 11 = .ok (.iconst 1, 1) := by decide +kernel
theorem dX12_isMark_12 : decode cX12_isMark 12 = .ok (.goto 4, 3) := by decide +kernel
theorem dX12_isMark_15 : decode cX12_isMark 15 = .ok (.iconst 0, 1) := by decide +kernel
theorem dX12_isMark_16 : decode cX12_isMark 16 = .ok (.ireturn, 1) := by decide +kernel
theorem dX12_isUnder_0 : decode cX12_isUnder 0 = .ok (.iconst 0, 1) := by decide +kernel
theorem dX12_isUnder_1 : decode cX12_isUnder 1 = .ok (.istore_n 3, 1) := by decide +kernel
theorem dX12_isUnder_2 : decode cX12_isUnder 2 = .ok (.iload_n 3, 1) := by decide +kernel
theorem dX12_isUnder_3 : decode cX12_isUnder 3 = .ok (.aload_n 0, 1) := by decide +kernel
theorem dX12_isUnder_4 : decode cX12_isUnder 4 = .ok (.invokevirtual 358, 3) := by decide +kernel
theorem dX12_isUnder_7 : decode cX12_isUnder 7 = .ok (.if_icmp .ge 24, 3) := by decide +kernel
theorem dX12_isUnder_10 : decode cX12_isUnder 10 = .ok (.aload_n 0, 1) := by decide +kernel
theorem dX12_isUnder_11 : decode cX12_isUnder 11 = .ok (.iload_n 1, 1) := by decide +kernel
theorem dX12_isUnder_12 : decode cX12_isUnder 12 = .ok (.iload_n 3, 1) := by decide +kernel
theorem dX12_isUnder_13 : decode cX12_isUnder 13 = .ok (.invokevirtual 361, 3) := by decide +kernel
theorem dX12_isUnder_16 : decode cX12_isUnder 16 = .ok (.iload_n 2, 1) := by decide +kernel
theorem dX12_isUnder_17 : decode cX12_isUnder 17 = .ok (.iconst (-1), 1) := by decide +kernel
theorem dX12_isUnder_18 : decode cX12_isUnder 18 = .ok (.ixor, 1) := by decide +kernel
theorem dX12_isUnder_19 : decode cX12_isUnder 19 = .ok (.iand, 1) := by decide +kernel
theorem dX12_isUnder_20 : decode cX12_isUnder 20 = .ok (.ifCond .ne 5, 3) := by decide +kernel
theorem dX12_isUnder_23 : decode cX12_isUnder 23 = .ok (.iconst 1, 1) := by decide +kernel
theorem dX12_isUnder_24 : decode cX12_isUnder 24 = .ok (.ireturn, 1) := by decide +kernel
theorem dX12_isUnder_25 : decode cX12_isUnder 25 = .ok (.iinc 3 1, 3) := by decide +kernel
theorem dX12_isUnder_28 : decode cX12_isUnder 28 = .ok (.goto (-26), 3) := by decide +kernel
theorem dX12_isUnder_31 : decode cX12_isUnder 31 = .ok (.iconst 0, 1) := by decide +kernel
theorem dX12_isUnder_32 : decode cX12_isUnder 32 = .ok (.ireturn, 1) := by decide +kernel
theorem dX12_keepAct_0 : decode cX12_keepAct 0 = .ok (.aload_n 0, 1) := by decide +kernel
theorem dX12_keepAct_1 : decode cX12_keepAct 1 = .ok (.getfield 392, 3) := by decide +kernel
theorem dX12_keepAct_4 : decode cX12_keepAct 4 = .ok (.bipush 40, 2) := by decide +kernel
theorem dX12_keepAct_6 : decode cX12_keepAct 6 = .ok (.if_icmp .ne 43, 3) := by decide +kernel
theorem dX12_keepAct_49 : decode cX12_keepAct 49 = .ok (.iconst 0, 1) := by decide +kernel
theorem dX12_keepAct_50 : decode cX12_keepAct 50 = .ok (.istore_n 1, 1) := by decide +kernel
theorem dX12_keepAct_51 : decode cX12_keepAct 51 = .ok (.iload_n 1, 1) := by decide +kernel
theorem dX12_keepAct_52 : decode cX12_keepAct 52 = .ok (.bipush 114, 2) := by decide +kernel
theorem dX12_keepAct_54 : decode cX12_keepAct 54 = .ok (.if_icmp .ge 29, 3) := by decide +kernel
theorem dX12_keepAct_57 : decode cX12_keepAct 57 = .ok (.aload_n 0, 1) := by decide +kernel
theorem dX12_keepAct_58 : decode cX12_keepAct 58 = .ok (.getfield 94, 3) := by decide +kernel
theorem dX12_keepAct_61 : decode cX12_keepAct 61 = .ok (.bipush 114, 2) := by decide +kernel
theorem dX12_keepAct_63 : decode cX12_keepAct 63 = .ok (.aload_n 0, 1) := by decide +kernel
theorem dX12_keepAct_64 : decode cX12_keepAct 64 = .ok (.getfield 392, 3) := by decide +kernel
theorem dX12_keepAct_67 : decode cX12_keepAct 67 = .ok (.imul, 1) := by decide +kernel
theorem dX12_keepAct_68 : decode cX12_keepAct 68 = .ok (.iload_n 1, 1) := by decide +kernel
theorem dX12_keepAct_69 : decode cX12_keepAct 69 = .ok (.iadd, 1) := by decide +kernel
theorem dX12_keepAct_70 : decode cX12_keepAct 70 = .ok (.aload_n 0, 1) := by decide +kernel
theorem dX12_keepAct_71 : decode cX12_keepAct 71 = .ok (.getfield 88, 3) := by decide +kernel
theorem dX12_keepAct_74 : decode cX12_keepAct 74 = .ok (.iload_n 1, 1) := by decide +kernel
theorem dX12_keepAct_75 : decode cX12_keepAct 75 = .ok (.iaload, 1) := by decide +kernel
theorem dX12_keepAct_76 : decode cX12_keepAct 76 = .ok (.iastore, 1) := by decide +kernel
theorem dX12_keepAct_77 : decode cX12_keepAct 77 = .ok (.iinc 1 1, 3) := by decide +kernel
theorem dX12_keepAct_80 : decode cX12_keepAct 80 = .ok (.goto (-29), 3) := by decide +kernel
theorem dX12_keepAct_83 : decode cX12_keepAct 83 = .ok (.aload_n 0, 1) := by decide +kernel
theorem dX12_keepAct_84 : decode cX12_keepAct 84 = .ok (.dup, 1) := by decide +kernel
theorem dX12_keepAct_85 : decode cX12_keepAct 85 = .ok (.getfield 392, 3) := by decide +kernel
theorem dX12_keepAct_88 : decode cX12_keepAct 88 = .ok (.iconst 1, 1) := by decide +kernel
theorem dX12_keepAct_89 : decode cX12_keepAct 89 = .ok (.iadd, 1) := by decide +kernel
theorem dX12_keepAct_90 : decode cX12_keepAct 90 = .ok (.putfield 392, 3) := by decide +kernel
theorem dX12_keepAct_93 : decode cX12_keepAct 93 = .ok (.aload_n 0, 1) := by decide +kernel
theorem dX12_keepAct_94 : decode cX12_keepAct 94 = .ok (.iconst 0, 1) := by decide +kernel
theorem dX12_keepAct_95 : decode cX12_keepAct 95 = .ok (.putfield 395, 3) := by decide +kernel
theorem dX12_keepAct_98 : decode cX12_keepAct 98 = .ok (.return_, 1) := by decide +kernel
theorem dX12_king_0 : decode cX12_king 0 = .ok (.iload_n 1, 1) := by decide +kernel
theorem dX12_king_1 : decode cX12_king 1 = .ok (.iconst 0, 1) := by decide +kernel
theorem dX12_king_2 : decode cX12_king 2 = .ok (.iconst 1, 1) := by decide +kernel
theorem dX12_king_3 : decode cX12_king 3 = .ok (.invokestatic 370, 3) := by decide +kernel
theorem dX12_king_6 : decode cX12_king 6 = .ok (.ifCond .ne 5, 3) := by decide +kernel
theorem dX12_king_9 : decode cX12_king 9 = .ok (.iconst (-1), 1) := by decide +kernel
theorem dX12_king_10 : decode cX12_king 10 = .ok (.ireturn, 1) := by decide +kernel
theorem dX12_king_11 : decode cX12_king 11 = .ok (.iconst (-1), 1) := by decide +kernel
theorem dX12_king_12 : decode cX12_king 12 = .ok (.istore_n 2, 1) := by decide +kernel
theorem dX12_king_13 : decode cX12_king 13 = .ok (.iconst (-1), 1) := by decide +kernel
theorem dX12_king_14 : decode cX12_king 14 = .ok (.istore_n 3, 1) := by decide +kernel
theorem dX12_king_15 : decode cX12_king 15 = .ok (.iconst 0, 1) := by decide +kernel
theorem dX12_king_16 : decode cX12_king 16 = .ok (.istore 4, 2) := by decide +kernel
theorem dX12_king_18 : decode cX12_king 18 = .ok (.iload 4, 2) := by decide +kernel
theorem dX12_king_20 : decode cX12_king 20 = .ok (.aload_n 0, 1) := by decide +kernel
theorem dX12_king_21 : decode cX12_king 21 = .ok (.invokevirtual 367, 3) := by decide +kernel
theorem dX12_king_24 : decode cX12_king 24 = .ok (.if_icmp .ge 85, 3) := by decide +kernel
theorem dX12_king_109 : decode cX12_king 109 = .ok (.iload_n 1, 1) := by decide +kernel
theorem dX12_king_110 : decode cX12_king 110 = .ok (.ifCond .ne 7, 3) := by decide +kernel
theorem dX12_king_113 : decode cX12_king 113 = .ok (.iload_n 2, 1) := by decide +kernel
theorem dX12_king_114 : decode cX12_king 114 = .ok (.goto 4, 3) := by decide +kernel
theorem dX12_king_117 : decode cX12_king 117 = .ok (.iload_n 3, 1) := by decide +kernel
theorem dX12_king_118 : decode cX12_king 118 = .ok (.ireturn, 1) := by decide +kernel
theorem dX12_later_0 : decode cX12_later 0 = .ok (.iload_n 1, 1) := by decide +kernel
theorem dX12_later_1 : decode cX12_later 1 = .ok (.iconst 0, 1) := by decide +kernel
theorem dX12_later_2 : decode cX12_later 2 = .ok (.sipush 1000, 3) := by decide +kernel
theorem dX12_later_5 : decode cX12_later 5 = .ok (.invokestatic 370, 3) := by decide +kernel
theorem dX12_later_8 : decode cX12_later 8 = .ok (.ifCond .eq 15, 3) := by decide +kernel
theorem dX12_later_11 : decode cX12_later 11 = .ok (.aload_n 0, 1) := by decide +kernel
theorem dX12_later_12 : decode cX12_later 12 = .ok (.getfield 478, 3) := by decide +kernel
theorem dX12_later_15 : decode cX12_later 15 = .ok (.iload_n 1, 1) := by decide +kernel
theorem dX12_later_16 : decode cX12_later 16 = .ok (.iadd, 1) := by decide +kernel
theorem dX12_later_17 : decode cX12_later 17 = .ok (.ldc_w 481, 3) := by decide +kernel
theorem dX12_later_20 : decode cX12_later 20 = .ok (.if_icmp .le 5, 3) := by decide +kernel
theorem dX12_later_23 : decode cX12_later 23 = .ok (.iconst (-1), 1) := by decide +kernel
theorem dX12_later_24 : decode cX12_later 24 = .ok (.ireturn, 1) := by decide +kernel
theorem dX12_later_25 : decode cX12_later 25 = .ok (.aload_n 0, 1) := by decide +kernel
theorem dX12_later_26 : decode cX12_later 26 = .ok (.dup, 1) := by decide +kernel
theorem dX12_later_27 : decode cX12_later 27 = .ok (.getfield 478, 3) := by decide +kernel
theorem dX12_later_30 : decode cX12_later 30 = .ok (.iload_n 1, 1) := by decide +kernel
theorem dX12_later_31 : decode cX12_later 31 = .ok (.iadd, 1) := by decide +kernel
theorem dX12_later_32 : decode cX12_later 32 = .ok (.putfield 478, 3) := by decide +kernel
theorem dX12_later_35 : decode cX12_later 35 = .ok (.aload_n 0, 1) := by decide +kernel
theorem dX12_later_36 : decode cX12_later 36 = .ok (.getfield 478, 3) := by decide +kernel
theorem dX12_later_39 : decode cX12_later 39 = .ok (.ireturn, 1) := by decide +kernel
theorem dX12_law_0 : decode cX12_law 0 = .ok (.iload_n 1, 1) := by decide +kernel
theorem dX12_law_1 : decode cX12_law 1 = .ok (.iconst 0, 1) := by decide +kernel
theorem dX12_law_2 : decode cX12_law 2 = .ok (.bipush 99, 2) := by decide +kernel
theorem dX12_law_4 : decode cX12_law 4 = .ok (.invokestatic 370, 3) := by decide +kernel
theorem dX12_law_7 : decode cX12_law 7 = .ok (.ifCond .eq 12, 3) := by decide +kernel
theorem dX12_law_10 : decode cX12_law 10 = .ok (.aload_n 0, 1) := by decide +kernel
theorem dX12_law_11 : decode cX12_law 11 = .ok (.iconst 0, 1) := by decide +kernel
theorem dX12_law_12 : decode cX12_law 12 = .ok (.iload_n 1, 1) := by decide +kernel
theorem dX12_law_13 : decode cX12_law 13 = .ok (.invokevirtual 435, 3) := by decide +kernel
theorem dX12_law_16 : decode cX12_law 16 = .ok (.goto 4, 3) := by decide +kernel
theorem dX12_law_19 : decode cX12_law 19 = .ok (.iconst (-1), 1) := by decide +kernel
theorem dX12_law_20 : decode cX12_law 20 = .ok (.ireturn, 1) := by decide +kernel
theorem dX12_layPlaced_0 : decode cX12_layPlaced 0 = .ok (.iconst 0, 1) := by decide +kernel
theorem dX12_layPlaced_1 : decode cX12_layPlaced 1 = .ok (.istore_n 1, 1) := by decide +kernel
theorem dX12_layPlaced_2 : decode cX12_layPlaced 2 = .ok (.iload_n 1, 1) := by decide +kernel
theorem dX12_layPlaced_3 : decode cX12_layPlaced 3 = .ok (.aload_n 0, 1) := by decide +kernel
theorem dX12_layPlaced_4 : decode cX12_layPlaced 4 = .ok (.invokevirtual 374, 3) := by decide +kernel
theorem dX12_layPlaced_7 : decode cX12_layPlaced 7 = .ok (.aload_n 0, 1) := by decide +kernel
theorem dX12_layPlaced_8 : decode cX12_layPlaced 8 = .ok (.invokevirtual 358, 3) := by decide +kernel
theorem dX12_layPlaced_11 : decode cX12_layPlaced 11 = .ok (.imul, 1) := by decide +kernel
theorem dX12_layPlaced_12 : decode cX12_layPlaced 12 = .ok (.if_icmp .ge 35, 3) := by decide +kernel
theorem dX12_layPlaced_47 : decode cX12_layPlaced 47 = .ok (.return_, 1) := by decide +kernel
theorem dX12_layRows_0 : decode cX12_layRows 0 = .ok (.aload_n 0, 1) := by decide +kernel
theorem dX12_layRows_1 : decode cX12_layRows 1 = .ok (.iconst 0, 1) := by decide +kernel
theorem dX12_layRows_2 : decode cX12_layRows 2 = .ok (.putfield 482, 3) := by decide +kernel
theorem dX12_layRows_5 : decode cX12_layRows 5 = .ok (.iconst 0, 1) := by decide +kernel
theorem dX12_layRows_6 : decode cX12_layRows 6 = .ok (.istore_n 2, 1) := by decide +kernel
theorem dX12_layRows_7 : decode cX12_layRows 7 = .ok (.iload_n 2, 1) := by decide +kernel
theorem dX12_layRows_8 : decode cX12_layRows 8 = .ok (.bipush 12, 2) := by decide +kernel
theorem dX12_layRows_10 : decode cX12_layRows 10 = .ok (.if_icmp .ge 16, 3) := by decide +kernel
theorem dX12_layRows_13 : decode cX12_layRows 13 = .ok (.aload_n 0, 1) := by decide +kernel
theorem dX12_layRows_14 : decode cX12_layRows 14 = .ok (.getfield 124, 3) := by decide +kernel
theorem dX12_layRows_17 : decode cX12_layRows 17 = .ok (.iload_n 2, 1) := by decide +kernel
theorem dX12_layRows_18 : decode cX12_layRows 18 = .ok (.iconst 0, 1) := by decide +kernel
theorem dX12_layRows_19 : decode cX12_layRows 19 = .ok (.iastore, 1) := by decide +kernel
theorem dX12_layRows_20 : decode cX12_layRows 20 = .ok (.iinc 2 1, 3) := by decide +kernel
theorem dX12_layRows_23 : decode cX12_layRows 23 = .ok (.goto (-16), 3) := by decide +kernel
theorem dX12_layRows_26 : decode cX12_layRows 26 = .ok (.aload_n 0, 1) := by decide +kernel
theorem dX12_layRows_27 : decode cX12_layRows 27 = .ok (.invokevirtual 374, 3) := by decide +kernel
theorem dX12_layRows_30 : decode cX12_layRows 30 = .ok (.aload_n 0, 1) := by decide +kernel
theorem dX12_layRows_31 : decode cX12_layRows 31 = .ok (.invokevirtual 358, 3) := by decide +kernel
theorem dX12_layRows_34 : decode cX12_layRows 34 = .ok (.imul, 1) := by decide +kernel
theorem dX12_layRows_35 : decode cX12_layRows 35 = .ok (.istore_n 2, 1) := by decide +kernel
theorem dX12_layRows_36 : decode cX12_layRows 36 = .ok (.iconst 0, 1) := by decide +kernel
theorem dX12_layRows_37 : decode cX12_layRows 37 = .ok (.istore_n 3, 1) := by decide +kernel
theorem dX12_layRows_38 : decode cX12_layRows 38 = .ok (.iload_n 3, 1) := by decide +kernel
theorem dX12_layRows_39 : decode cX12_layRows 39 = .ok (.iload_n 2, 1) := by decide +kernel
theorem dX12_layRows_40 : decode cX12_layRows 40 = .ok (.iload_n 2, 1) := by decide +kernel
theorem dX12_layRows_41 : decode cX12_layRows 41 = .ok (.imul, 1) := by decide +kernel
theorem dX12_layRows_42 : decode cX12_layRows 42 = .ok (.if_icmp .ge 107, 3) := by decide +kernel
theorem dX12_layRows_149 : decode cX12_layRows 149 = .ok (.return_, 1) := by decide +kernel
theorem dX12_lies_0 : decode cX12_lies 0 = .ok (.iload_n 1, 1) := by decide +kernel
theorem dX12_lies_1 : decode cX12_lies 1 = .ok (.iconst 0, 1) := by decide +kernel
theorem dX12_lies_2 : decode cX12_lies 2 = .ok (.aload_n 0, 1) := by decide +kernel
theorem dX12_lies_3 : decode cX12_lies 3 = .ok (.getfield 401, 3) := by decide +kernel
theorem dX12_lies_6 : decode cX12_lies 6 = .ok (.iconst 1, 1) := by decide +kernel
theorem dX12_lies_7 : decode cX12_lies 7 = .ok (.isub, 1) := by decide +kernel
theorem dX12_lies_8 : decode cX12_lies 8 = .ok (.invokestatic 370, 3) := by decide +kernel
theorem dX12_lies_11 : decode cX12_lies 11 = .ok (.ifCond .eq 12, 3) := by decide +kernel
theorem dX12_lies_23 : decode cX12_lies 23 = .ok (.iconst (-1), 1) := by decide +kernel
theorem dX12_lies_24 : decode cX12_lies 24 = .ok (.ireturn, 1) := by decide +kernel
theorem dX12_lowest_0 : decode cX12_lowest 0 = .ok (.iconst 0, 1) := by decide +kernel
theorem dX12_lowest_1 : decode cX12_lowest 1 = .ok (.istore_n 1, 1) := by decide +kernel
theorem dX12_lowest_2 : decode cX12_lowest 2 = .ok (.iconst 0, 1) := by decide +kernel
theorem dX12_lowest_3 : decode cX12_lowest 3 = .ok (.istore_n 2, 1) := by decide +kernel
theorem dX12_lowest_4 : decode cX12_lowest 4 = .ok (.iload_n 2, 1) := by decide +kernel
theorem dX12_lowest_5 : decode cX12_lowest 5 = .ok (.aload_n 0, 1) := by decide +kernel
theorem dX12_lowest_6 : decode cX12_lowest 6 = .ok (.invokevirtual 367, 3) := by decide +kernel
theorem dX12_lowest_9 : decode cX12_lowest 9 = .ok (.if_icmp .ge 59, 3) := by decide +kernel
theorem dX12_lowest_68 : decode cX12_lowest 68 = .ok (.iload_n 1, 1) := by decide +kernel
theorem dX12_lowest_69 : decode cX12_lowest 69 = .ok (.ireturn, 1) := by decide +kernel
theorem dX12_nearest_0 : decode cX12_nearest 0 = .ok (.iload_n 1, 1) := by decide +kernel
theorem dX12_nearest_1 : decode cX12_nearest 1 = .ok (.invokestatic 426, 3) := by decide +kernel
theorem dX12_nearest_4 : decode cX12_nearest 4 = .ok (.ifCond .eq 12, 3) := by decide +kernel
theorem dX12_nearest_7 : decode cX12_nearest 7 = .ok (.iload_n 2, 1) := by decide +kernel
theorem dX12_nearest_8 : decode cX12_nearest 8 = .ok (.iconst 0, 1) := by decide +kernel
theorem dX12_nearest_9 : decode cX12_nearest 9 = .ok (.iconst 1, 1) := by decide +kernel
theorem dX12_nearest_10 : decode cX12_nearest 10 = .ok (.invokestatic 370, 3) := by decide +kernel
theorem dX12_nearest_13 : decode cX12_nearest 13 = .ok (.ifCond .ne 5, 3) := by decide +kernel
theorem dX12_nearest_16 : decode cX12_nearest 16 = .ok (.iconst (-1), 1) := by decide +kernel
theorem dX12_nearest_17 : decode cX12_nearest 17 = .ok (.ireturn, 1) := by decide +kernel
theorem dX12_nearest_18 : decode cX12_nearest 18 = .ok (.iconst (-1), 1) := by decide +kernel
theorem dX12_nearest_19 : decode cX12_nearest 19 = .ok (.istore_n 3, 1) := by decide +kernel
theorem dX12_nearest_20 : decode cX12_nearest 20 = .ok (.iconst 0, 1) := by decide +kernel
theorem dX12_nearest_21 : decode cX12_nearest 21 = .ok (.istore 4, 2) := by decide +kernel
theorem dX12_nearest_23 : decode cX12_nearest 23 = .ok (.iload 4, 2) := by decide +kernel
theorem dX12_nearest_25 : decode cX12_nearest 25 = .ok (.aload_n 0, 1) := by decide +kernel
theorem dX12_nearest_26 : decode cX12_nearest 26 = .ok (.invokevirtual 367, 3) := by decide +kernel
theorem dX12_nearest_29 : decode cX12_nearest 29 = .ok (.if_icmp .ge 40, 3) := by decide +kernel
theorem dX12_nearest_69 : decode cX12_nearest 69 = .ok (.iload_n 3, 1) := by decide +kernel
theorem dX12_nearest_70 : decode cX12_nearest 70 = .ok (.ifCond .ge 7, 3) := by decide +kernel
theorem dX12_nearest_73 : decode cX12_nearest 73 = .ok (.iconst (-1), 1) := by decide +kernel
theorem dX12_nearest_74 : decode cX12_nearest 74 = .ok (.goto 21, 3) := by decide +kernel
theorem dX12_nearest_95 : decode cX12_nearest 95 = .ok (.ireturn, 1) := by decide +kernel
theorem dX12_norm_0 : decode cX12_norm 0 = .ok (.iload_n 1, 1) := by decide +kernel
theorem dX12_norm_1 : decode cX12_norm 1 = .ok (.invokestatic 426, 3) := by decide +kernel
theorem dX12_norm_4 : decode cX12_norm 4 = .ok (.ifCond .eq 11, 3) := by decide +kernel
theorem dX12_norm_7 : decode cX12_norm 7 = .ok (.aload_n 0, 1) := by decide +kernel
theorem dX12_norm_8 : decode cX12_norm 8 = .ok (.iload_n 1, 1) := by decide +kernel
theorem dX12_norm_9 : decode cX12_norm 9 = .ok (.invokevirtual 364, 3) := by decide +kernel
theorem dX12_norm_12 : decode cX12_norm 12 = .ok (.goto 4, 3) := by decide +kernel
theorem dX12_norm_15 : decode cX12_norm 15 = .ok (.iconst (-1), 1) := by decide +kernel
theorem dX12_norm_16 : decode cX12_norm 16 = .ok (.ireturn, 1) := by decide +kernel
theorem dX12_normOf_0 : decode cX12_normOf 0 = .ok (.iload_n 1, 1) := by decide +kernel
theorem dX12_normOf_1 : decode cX12_normOf 1 = .ok (.istore_n 2, 1) := by decide +kernel
theorem dX12_normOf_2 : decode cX12_normOf 2 = .ok (.iconst 1, 1) := by decide +kernel
theorem dX12_normOf_3 : decode cX12_normOf 3 = .ok (.istore_n 3, 1) := by decide +kernel
theorem dX12_normOf_4 : decode cX12_normOf 4 = .ok (.iload_n 3, 1) := by decide +kernel
theorem dX12_normOf_5 : decode cX12_normOf 5 = .ok (.aload_n 0, 1) := by decide +kernel
theorem dX12_normOf_6 : decode cX12_normOf 6 = .ok (.invokevirtual 358, 3) := by decide +kernel
theorem dX12_normOf_9 : decode cX12_normOf 9 = .ok (.if_icmp .ge 26, 3) := by decide +kernel
theorem dX12_normOf_35 : decode cX12_normOf 35 = .ok (.iload_n 2, 1) := by decide +kernel
theorem dX12_normOf_36 : decode cX12_normOf 36 = .ok (.ireturn, 1) := by decide +kernel
theorem dX12_odds_0 : decode cX12_odds 0 = .ok (.iload_n 1, 1) := by decide +kernel
theorem dX12_odds_1 : decode cX12_odds 1 = .ok (.iconst 0, 1) := by decide +kernel
theorem dX12_odds_2 : decode cX12_odds 2 = .ok (.iconst 4, 1) := by decide +kernel
theorem dX12_odds_3 : decode cX12_odds 3 = .ok (.invokestatic 370, 3) := by decide +kernel
theorem dX12_odds_6 : decode cX12_odds 6 = .ok (.ifCond .eq 12, 3) := by decide +kernel
theorem dX12_odds_9 : decode cX12_odds 9 = .ok (.iload_n 2, 1) := by decide +kernel
theorem dX12_odds_10 : decode cX12_odds 10 = .ok (.iconst 0, 1) := by decide +kernel
theorem dX12_odds_11 : decode cX12_odds 11 = .ok (.iconst 1, 1) := by decide +kernel
theorem dX12_odds_12 : decode cX12_odds 12 = .ok (.invokestatic 370, 3) := by decide +kernel
theorem dX12_odds_15 : decode cX12_odds 15 = .ok (.ifCond .ne 5, 3) := by decide +kernel
theorem dX12_odds_18 : decode cX12_odds 18 = .ok (.iconst (-1), 1) := by decide +kernel
theorem dX12_odds_19 : decode cX12_odds 19 = .ok (.ireturn, 1) := by decide +kernel
theorem dX12_odds_20 : decode cX12_odds 20 = .ok (.bipush 100, 2) := by decide +kernel
theorem dX12_odds_22 : decode cX12_odds 22 = .ok (.aload_n 0, 1) := by decide +kernel
theorem dX12_odds_23 : decode cX12_odds 23 = .ok (.getfield 36, 3) := by decide +kernel
theorem dX12_odds_26 : decode cX12_odds 26 = .ok (.aload_n 0, 1) := by decide +kernel
theorem dX12_odds_27 : decode cX12_odds 27 = .ok (.getfield 250, 3) := by decide +kernel
theorem dX12_odds_30 : decode cX12_odds 30 = .ok (.iaload, 1) := by decide +kernel
theorem dX12_odds_31 : decode cX12_odds 31 = .ok (.isub, 1) := by decide +kernel
theorem dX12_odds_32 : decode cX12_odds 32 = .ok (.iload_n 1, 1) := by decide +kernel
theorem dX12_odds_33 : decode cX12_odds 33 = .ok (.invokestatic 472, 3) := by decide +kernel
theorem dX12_odds_36 : decode cX12_odds 36 = .ok (.istore_n 3, 1) := by decide +kernel
theorem dX12_odds_37 : decode cX12_odds 37 = .ok (.bipush 100, 2) := by decide +kernel
theorem dX12_odds_39 : decode cX12_odds 39 = .ok (.iload_n 1, 1) := by decide +kernel
theorem dX12_odds_40 : decode cX12_odds 40 = .ok (.invokestatic 472, 3) := by decide +kernel
theorem dX12_odds_43 : decode cX12_odds 43 = .ok (.istore 4, 2) := by decide +kernel
theorem dX12_odds_45 : decode cX12_odds 45 = .ok (.iload_n 2, 1) := by decide +kernel
theorem dX12_odds_46 : decode cX12_odds 46 = .ok (.ifCond .ne 7, 3) := by decide +kernel
theorem dX12_odds_49 : decode cX12_odds 49 = .ok (.iload_n 3, 1) := by decide +kernel
theorem dX12_odds_50 : decode cX12_odds 50 = .ok (.goto 5, 3) := by decide +kernel
theorem dX12_odds_53 : decode cX12_odds 53 = .ok (.iload 4, 2) := by decide +kernel
theorem dX12_odds_55 : decode cX12_odds 55 = .ok (.iload 4, 2) := by decide +kernel
theorem dX12_odds_57 : decode cX12_odds 57 = .ok (.iload_n 3, 1) := by decide +kernel
theorem dX12_odds_58 : decode cX12_odds 58 = .ok (.invokestatic 475, 3) := by decide +kernel
theorem dX12_odds_61 : decode cX12_odds 61 = .ok (.idiv, 1) := by decide +kernel
theorem dX12_odds_62 : decode cX12_odds 62 = .ok (.ireturn, 1) := by decide +kernel
theorem dX12_oldest_0 : decode cX12_oldest 0 = .ok (.iconst (-1), 1) := by decide +kernel
theorem dX12_oldest_1 : decode cX12_oldest 1 = .ok (.istore_n 2, 1) := by decide +kernel
theorem dX12_oldest_2 : decode cX12_oldest 2 = .ok (.iconst 0, 1) := by decide +kernel
theorem dX12_oldest_3 : decode cX12_oldest 3 = .ok (.istore_n 3, 1) := by decide +kernel
theorem dX12_oldest_4 : decode cX12_oldest 4 = .ok (.iload_n 3, 1) := by decide +kernel
theorem dX12_oldest_5 : decode cX12_oldest 5 = .ok (.bipush 12, 2) := by decide +kernel
theorem dX12_oldest_7 : decode cX12_oldest 7 = .ok (.if_icmp .ge 59, 3) := by decide +kernel
theorem dX12_oldest_10 : decode cX12_oldest 10 = .ok (.aload_n 0, 1) := by decide +kernel
theorem dX12_oldest_11 : decode cX12_oldest 11 = .ok (.iload_n 1, 1) := by decide +kernel
theorem dX12_oldest_12 : decode cX12_oldest 12 = .ok (.invokevirtual 420, 3) := by decide +kernel
theorem dX12_oldest_15 : decode cX12_oldest 15 = .ok (.ifCond .eq 51, 3) := by decide +kernel
theorem dX12_oldest_66 : decode cX12_oldest 66 = .ok (.iload_n 2, 1) := by decide +kernel
theorem dX12_oldest_67 : decode cX12_oldest 67 = .ok (.ireturn, 1) := by decide +kernel
theorem dX12_origins_0 : decode cX12_origins 0 = .ok (.aload_n 0, 1) := by decide +kernel
theorem dX12_origins_1 : decode cX12_origins 1 = .ok (.iload_n 1, 1) := by decide +kernel
theorem dX12_origins_2 : decode cX12_origins 2 = .ok (.invokevirtual 420, 3) := by decide +kernel
theorem dX12_origins_5 : decode cX12_origins 5 = .ok (.ifCond .ne 5, 3) := by decide +kernel
theorem dX12_origins_8 : decode cX12_origins 8 = .ok (.iconst (-1), 1) := by decide +kernel
theorem dX12_origins_9 : decode cX12_origins 9 = .ok (.ireturn, 1) := by decide +kernel
theorem dX12_placed_0 : decode cX12_placed 0 = .ok (.iload_n 1, 1) := by decide +kernel
theorem dX12_placed_1 : decode cX12_placed 1 = .ok (.invokestatic 426, 3) := by decide +kernel
theorem dX12_placed_4 : decode cX12_placed 4 = .ok (.ifCond .eq 26, 3) := by decide +kernel
theorem dX12_placed_7 : decode cX12_placed 7 = .ok (.iload_n 2, 1) := by decide +kernel
theorem dX12_placed_8 : decode cX12_placed 8 = .ok (.iconst 0, 1) := by decide +kernel
theorem dX12_placed_9 : decode cX12_placed 9 = .ok (.aload_n 0, 1) := by decide +kernel
theorem dX12_placed_10 : decode cX12_placed 10 = .ok (.invokevirtual 358, 3) := by decide +kernel
theorem dX12_placed_13 : decode cX12_placed 13 = .ok (.iconst 1, 1) := by decide +kernel
theorem dX12_placed_14 : decode cX12_placed 14 = .ok (.isub, 1) := by decide +kernel
theorem dX12_placed_15 : decode cX12_placed 15 = .ok (.invokestatic 370, 3) := by decide +kernel
theorem dX12_placed_18 : decode cX12_placed 18 = .ok (.ifCond .eq 12, 3) := by decide +kernel
theorem dX12_placed_21 : decode cX12_placed 21 = .ok (.aload_n 0, 1) := by decide +kernel
theorem dX12_placed_22 : decode cX12_placed 22 = .ok (.iload_n 1, 1) := by decide +kernel
theorem dX12_placed_23 : decode cX12_placed 23 = .ok (.iload_n 2, 1) := by decide +kernel
theorem dX12_placed_24 : decode cX12_placed 24 = .ok (.invokevirtual 361, 3) := by decide +kernel
theorem dX12_placed_27 : decode cX12_placed 27 = .ok (.goto 4, 3) := by decide +kernel
theorem dX12_placed_30 : decode cX12_placed 30 = .ok (.iconst (-1), 1) := by decide +kernel
theorem dX12_placed_31 : decode cX12_placed 31 = .ok (.ireturn, 1) := by decide +kernel
theorem dX12_placedBy_0 : decode cX12_placedBy 0 = .ok (.iload_n 2, 1) := by decide +kernel
theorem dX12_placedBy_1 : decode cX12_placedBy 1 = .ok (.aload_n 0, 1) := by decide +kernel
theorem dX12_placedBy_2 : decode cX12_placedBy 2 = .ok (.getfield 20, 3) := by decide +kernel
theorem dX12_placedBy_5 : decode cX12_placedBy 5 = .ok (.aload_n 0, 1) := by decide +kernel
theorem dX12_placedBy_6 : decode cX12_placedBy 6 = .ok (.getfield 250, 3) := by decide +kernel
theorem dX12_placedBy_9 : decode cX12_placedBy 9 = .ok (.iaload, 1) := by decide +kernel
theorem dX12_placedBy_10 : decode cX12_placedBy 10 = .ok (.if_icmp .lt 10, 3) := by decide +kernel
theorem dX12_placedBy_20 : decode cX12_placedBy 20 = .ok (.iload_n 1, 1) := by decide +kernel
theorem dX12_placedBy_21 : decode cX12_placedBy 21 = .ok (.istore_n 3, 1) := by decide +kernel
theorem dX12_placedBy_22 : decode cX12_placedBy 22 = .ok (.iload_n 2, 1) := by decide +kernel
theorem dX12_placedBy_23 : decode cX12_placedBy 23 = .ok (.aload_n 0, 1) := by decide +kernel
theorem dX12_placedBy_24 : decode cX12_placedBy 24 = .ok (.getfield 20, 3) := by decide +kernel
theorem dX12_placedBy_27 : decode cX12_placedBy 27 = .ok (.aload_n 0, 1) := by decide +kernel
theorem dX12_placedBy_28 : decode cX12_placedBy 28 = .ok (.getfield 250, 3) := by decide +kernel
theorem dX12_placedBy_31 : decode cX12_placedBy 31 = .ok (.iaload, 1) := by decide +kernel
theorem dX12_placedBy_32 : decode cX12_placedBy 32 = .ok (.irem, 1) := by decide +kernel
theorem dX12_placedBy_33 : decode cX12_placedBy 33 = .ok (.iconst 4, 1) := by decide +kernel
theorem dX12_placedBy_34 : decode cX12_placedBy 34 = .ok (.aload_n 0, 1) := by decide +kernel
theorem dX12_placedBy_35 : decode cX12_placedBy 35 = .ok (.getfield 20, 3) := by decide +kernel
theorem dX12_placedBy_38 : decode cX12_placedBy 38 = .ok (.aload_n 0, 1) := by decide +kernel
theorem dX12_placedBy_39 : decode cX12_placedBy 39 = .ok (.getfield 250, 3) := by decide +kernel
theorem dX12_placedBy_42 : decode cX12_placedBy 42 = .ok (.iaload, 1) := by decide +kernel
theorem dX12_placedBy_43 : decode cX12_placedBy 43 = .ok (.idiv, 1) := by decide +kernel
theorem dX12_placedBy_44 : decode cX12_placedBy 44 = .ok (.imul, 1) := by decide +kernel
theorem dX12_placedBy_45 : decode cX12_placedBy 45 = .ok (.istore 4, 2) := by decide +kernel
theorem dX12_placedBy_47 : decode cX12_placedBy 47 = .ok (.iconst 0, 1) := by decide +kernel
theorem dX12_placedBy_48 : decode cX12_placedBy 48 = .ok (.istore 5, 2) := by decide +kernel
theorem dX12_placedBy_50 : decode cX12_placedBy 50 = .ok (.iload 5, 2) := by decide +kernel
theorem dX12_placedBy_52 : decode cX12_placedBy 52 = .ok (.iload 4, 2) := by decide +kernel
theorem dX12_placedBy_54 : decode cX12_placedBy 54 = .ok (.if_icmp .ge 14, 3) := by decide +kernel
theorem dX12_placedBy_68 : decode cX12_placedBy 68 = .ok (.iload_n 3, 1) := by decide +kernel
theorem dX12_placedBy_69 : decode cX12_placedBy 69 = .ok (.ireturn, 1) := by decide +kernel
theorem dX12_placements_0 : decode cX12_placements 0 = .ok (.aload_n 0, 1) := by decide +kernel
theorem dX12_placements_1 : decode cX12_placements 1 = .ok (.getfield 42, 3) := by decide +kernel
theorem dX12_placements_4 : decode cX12_placements 4 = .ok (.aload_n 0, 1) := by decide +kernel
theorem dX12_placements_5 : decode cX12_placements 5 = .ok (.getfield 250, 3) := by decide +kernel
theorem dX12_placements_8 : decode cX12_placements 8 = .ok (.iaload, 1) := by decide +kernel
theorem dX12_placements_9 : decode cX12_placements 9 = .ok (.iconst 2, 1) := by decide +kernel
theorem dX12_placements_10 : decode cX12_placements 10 = .ok (.invokestatic 256, 3) := by decide +kernel
theorem dX12_placements_13 : decode cX12_placements 13 = .ok (.ifCond .eq 17, 3) := by decide +kernel
theorem dX12_placements_30 : decode cX12_placements 30 = .ok (.aload_n 0, 1) := by decide +kernel
theorem dX12_placements_31 : decode cX12_placements 31 = .ok (.getfield 20, 3) := by decide +kernel
theorem dX12_placements_34 : decode cX12_placements 34 = .ok (.aload_n 0, 1) := by decide +kernel
theorem dX12_placements_35 : decode cX12_placements 35 = .ok (.getfield 250, 3) := by decide +kernel
theorem dX12_placements_38 : decode cX12_placements 38 = .ok (.iaload, 1) := by decide +kernel
theorem dX12_placements_39 : decode cX12_placements 39 = .ok (.ireturn, 1) := by decide +kernel
theorem dX12_power_0 : decode cX12_power 0 = .ok (.iconst 1, 1) := by decide +kernel
theorem dX12_power_1 : decode cX12_power 1 = .ok (.istore_n 2, 1) := by decide +kernel
theorem dX12_power_2 : decode cX12_power 2 = .ok (.iconst 0, 1) := by decide +kernel
theorem dX12_power_3 : decode cX12_power 3 = .ok (.istore_n 3, 1) := by decide +kernel
theorem dX12_power_4 : decode cX12_power 4 = .ok (.iload_n 3, 1) := by decide +kernel
theorem dX12_power_5 : decode cX12_power 5 = .ok (.iload_n 1, 1) := by decide +kernel
theorem dX12_power_6 : decode cX12_power 6 = .ok (.if_icmp .ge 13, 3) := by decide +kernel
theorem dX12_power_9 : decode cX12_power 9 = .ok (.iload_n 2, 1) := by decide +kernel
theorem dX12_power_10 : decode cX12_power 10 = .ok (.iload_n 0, 1) := by decide +kernel
theorem dX12_power_11 : decode cX12_power 11 = .ok (.imul, 1) := by decide +kernel
theorem dX12_power_12 : decode cX12_power 12 = .ok (.istore_n 2, 1) := by decide +kernel
theorem dX12_power_13 : decode cX12_power 13 = .ok (.iinc 3 1, 3) := by decide +kernel
theorem dX12_power_16 : decode cX12_power 16 = .ok (.goto (-12), 3) := by decide +kernel
theorem dX12_power_19 : decode cX12_power 19 = .ok (.iload_n 2, 1) := by decide +kernel
theorem dX12_power_20 : decode cX12_power 20 = .ok (.ireturn, 1) := by decide +kernel
theorem dX12_raid_0 : decode cX12_raid 0 = .ok (.aload_n 0, 1) := by decide +kernel
theorem dX12_raid_1 : decode cX12_raid 1 = .ok (.iconst 0, 1) := by decide +kernel
theorem dX12_raid_2 : decode cX12_raid 2 = .ok (.putfield 401, 3) := by decide +kernel
theorem dX12_raid_5 : decode cX12_raid 5 = .ok (.aload_n 0, 1) := by decide +kernel
theorem dX12_raid_6 : decode cX12_raid 6 = .ok (.iload_n 1, 1) := by decide +kernel
theorem dX12_raid_7 : decode cX12_raid 7 = .ok (.invokevirtual 414, 3) := by decide +kernel
theorem dX12_raid_10 : decode cX12_raid 10 = .ok (.ifCond .eq 23, 3) := by decide +kernel
theorem dX12_raid_33 : decode cX12_raid 33 = .ok (.iconst (-1), 1) := by decide +kernel
theorem dX12_raid_34 : decode cX12_raid 34 = .ok (.ireturn, 1) := by decide +kernel
theorem dX12_read_0 : decode cX12_read 0 = .ok (.aload_n 0, 1) := by decide +kernel
theorem dX12_read_1 : decode cX12_read 1 = .ok (.iload_n 1, 1) := by decide +kernel
theorem dX12_read_2 : decode cX12_read 2 = .ok (.invokevirtual 420, 3) := by decide +kernel
theorem dX12_read_5 : decode cX12_read 5 = .ok (.ifCond .ne 5, 3) := by decide +kernel
theorem dX12_read_8 : decode cX12_read 8 = .ok (.iconst (-1), 1) := by decide +kernel
theorem dX12_read_9 : decode cX12_read 9 = .ok (.ireturn, 1) := by decide +kernel
theorem dX12_redo_0 : decode cX12_redo 0 = .ok (.aload_n 0, 1) := by decide +kernel
theorem dX12_redo_1 : decode cX12_redo 1 = .ok (.getfield 395, 3) := by decide +kernel
theorem dX12_redo_4 : decode cX12_redo 4 = .ok (.ifCond .ne 5, 3) := by decide +kernel
theorem dX12_redo_7 : decode cX12_redo 7 = .ok (.iconst 0, 1) := by decide +kernel
theorem dX12_redo_8 : decode cX12_redo 8 = .ok (.ireturn, 1) := by decide +kernel
theorem dX12_rows_0 : decode cX12_rows 0 = .ok (.aload_n 0, 1) := by decide +kernel
theorem dX12_rows_1 : decode cX12_rows 1 = .ok (.iload_n 1, 1) := by decide +kernel
theorem dX12_rows_2 : decode cX12_rows 2 = .ok (.invokevirtual 488, 3) := by decide +kernel
theorem dX12_rows_5 : decode cX12_rows 5 = .ok (.aload_n 0, 1) := by decide +kernel
theorem dX12_rows_6 : decode cX12_rows 6 = .ok (.getfield 482, 3) := by decide +kernel
theorem dX12_rows_9 : decode cX12_rows 9 = .ok (.ireturn, 1) := by decide +kernel
theorem dX12_safe_0 : decode cX12_safe 0 = .ok (.iconst 1, 1) := by decide +kernel
theorem dX12_safe_1 : decode cX12_safe 1 = .ok (.aload_n 0, 1) := by decide +kernel
theorem dX12_safe_2 : decode cX12_safe 2 = .ok (.invokevirtual 367, 3) := by decide +kernel
theorem dX12_safe_5 : decode cX12_safe 5 = .ok (.ishl, 1) := by decide +kernel
theorem dX12_safe_6 : decode cX12_safe 6 = .ok (.iconst 1, 1) := by decide +kernel
theorem dX12_safe_7 : decode cX12_safe 7 = .ok (.isub, 1) := by decide +kernel
theorem dX12_safe_8 : decode cX12_safe 8 = .ok (.istore_n 1, 1) := by decide +kernel
theorem dX12_safe_9 : decode cX12_safe 9 = .ok (.iconst 0, 1) := by decide +kernel
theorem dX12_safe_10 : decode cX12_safe 10 = .ok (.istore_n 2, 1) := by decide +kernel
theorem dX12_safe_11 : decode cX12_safe 11 = .ok (.iload_n 2, 1) := by decide +kernel
theorem dX12_safe_12 : decode cX12_safe 12 = .ok (.aload_n 0, 1) := by decide +kernel
theorem dX12_safe_13 : decode cX12_safe 13 = .ok (.invokevirtual 367, 3) := by decide +kernel
theorem dX12_safe_16 : decode cX12_safe 16 = .ok (.if_icmp .ge 71, 3) := by decide +kernel
theorem dX12_safe_87 : decode cX12_safe 87 = .ok (.iload_n 1, 1) := by decide +kernel
theorem dX12_safe_88 : decode cX12_safe 88 = .ok (.ireturn, 1) := by decide +kernel
theorem dX12_season_0 : decode cX12_season 0 = .ok (.aload_n 0, 1) := by decide +kernel
