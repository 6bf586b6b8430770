theorem dX11_findRests_58 : decode cX11_findRests 58 = .ok (.iinc 3 1, 3) := by decide +kernel
theorem dX11_findRests_61 : decode cX11_findRests 61 = .ok (.iinc 5 1, 3) := by decide +kernel
theorem dX11_findRests_64 : decode cX11_findRests 64 = .ok (.goto (-50), 3) := by decide +kernel
theorem dX11_findRests_67 : decode cX11_findRests 67 = .ok (.iinc 4 1, 3) := by decide +kernel
theorem dX11_findRests_70 : decode cX11_findRests 70 = .ok (.goto (-65), 3) := by decide +kernel
theorem dX11_findRests_73 : decode cX11_findRests 73 = .ok (.iload_n 3, 1) := by decide +kernel
theorem dX11_findRests_74 : decode cX11_findRests 74 = .ok (.ireturn, 1) := by decide +kernel
theorem dX11_isBestFor_0 : decode cX11_isBestFor 0 = .ok (.iload_n 0, 1) := by decide +kernel
theorem dX11_isBestFor_1 : decode cX11_isBestFor 1 = .ok (.iload_n 1, 1) := by decide +kernel
theorem dX11_isBestFor_2 : decode cX11_isBestFor 2 = .ok (.iload_n 2, 1) := by decide +kernel
theorem dX11_isBestFor_3 : decode cX11_isBestFor 3 = .ok (.iload_n 3, 1) := by decide +kernel
theorem dX11_isBestFor_4 : decode cX11_isBestFor 4 = .ok (.invokestatic 350, 3) := by decide +kernel
theorem dX11_isBestFor_7 : decode cX11_isBestFor 7 = .ok (.istore 4, 2) := by decide +kernel
theorem dX11_isBestFor_9 : decode cX11_isBestFor 9 = .ok (.iconst 1, 1) := by decide +kernel
theorem dX11_isBestFor_10 : decode cX11_isBestFor 10 = .ok (.istore 5, 2) := by decide +kernel
theorem dX11_isBestFor_12 : decode cX11_isBestFor 12 = .ok (.iload 5, 2) := by decide +kernel
theorem dX11_isBestFor_14 : decode cX11_isBestFor 14 = .ok (.iconst 5, 1) := by decide +kernel
theorem dX11_isBestFor_15 : decode cX11_isBestFor 15 = .ok (.if_icmp .gt 24, 3) := by decide +kernel
theorem dX11_isBestFor_18 : decode cX11_isBestFor 18 = .ok (.iload 5, 2) := by decide +kernel
theorem dX11_isBestFor_20 : decode cX11_isBestFor 20 = .ok (.iload_n 1, 1) := by decide +kernel
theorem dX11_isBestFor_21 : decode cX11_isBestFor 21 = .ok (.iload_n 2, 1) := by decide +kernel
theorem dX11_isBestFor_22 : decode cX11_isBestFor 22 = .ok (.iload_n 3, 1) := by decide +kernel
theorem dX11_isBestFor_23 : decode cX11_isBestFor 23 = .ok (.invokestatic 350, 3) := by decide +kernel
theorem dX11_isBestFor_26 : decode cX11_isBestFor 26 = .ok (.iload 4, 2) := by decide +kernel
theorem dX11_isBestFor_28 : decode cX11_isBestFor 28 = .ok (.if_icmp .le 5, 3) := by decide +kernel
theorem dX11_isBestFor_31 : decode cX11_isBestFor 31 = .ok (.iconst 0, 1) := by decide +kernel
theorem dX11_isBestFor_32 : decode cX11_isBestFor 32 = .ok (.ireturn, 1) := by decide +kernel
theorem dX11_isBestFor_33 : decode cX11_isBestFor 33 = .ok (.iinc 5 1, 3) := by decide +kernel
theorem dX11_isBestFor_36 : decode cX11_isBestFor 36 = .ok (.goto (-24), 3) := by decide +kernel
theorem dX11_isBestFor_39 : decode cX11_isBestFor 39 = .ok (.iconst 1, 1) := by decide +kernel
theorem dX11_isBestFor_40 : decode cX11_isBestFor 40 = .ok (.ireturn, 1) := by decide +kernel
theorem dX11_greedGain_0 : decode cX11_greedGain 0 = .ok (.iconst 3, 1) := by decide +kernel
theorem dX11_greedGain_1 : decode cX11_greedGain 1 = .ok (.iload_n 0, 1) := by decide +kernel
theorem dX11_greedGain_2 : decode cX11_greedGain 2 = .ok (.imul, 1) := by decide +kernel
theorem dX11_greedGain_3 : decode cX11_greedGain 3 = .ok (.iload_n 3, 1) := by decide +kernel
theorem dX11_greedGain_4 : decode cX11_greedGain 4 = .ok (.iconst 0, 1) := by decide +kernel
theorem dX11_greedGain_5 : decode cX11_greedGain 5 = .ok (.iload_n 0, 1) := by decide +kernel
theorem dX11_greedGain_6 : decode cX11_greedGain 6 = .ok (.iload_n 1, 1) := by decide +kernel
theorem dX11_greedGain_7 : decode cX11_greedGain 7 = .ok (.iadd, 1) := by decide +kernel
theorem dX11_greedGain_8 : decode cX11_greedGain 8 = .ok (.iload_n 2, 1) := by decide +kernel
theorem dX11_greedGain_9 : decode cX11_greedGain 9 = .ok (.isub, 1) := by decide +kernel
theorem dX11_greedGain_10 : decode cX11_greedGain 10 = .ok (.invokestatic 354, 3) := by decide +kernel
theorem dX11_greedGain_13 : decode cX11_greedGain 13 = .ok (.imul, 1) := by decide +kernel
theorem dX11_greedGain_14 : decode cX11_greedGain 14 = .ok (.isub, 1) := by decide +kernel
theorem dX11_greedGain_15 : decode cX11_greedGain 15 = .ok (.ireturn, 1) := by decide +kernel
theorem dX11_nextDraw_0 : decode cX11_nextDraw 0 = .ok (.lload_n 0, 1) := by decide +kernel
theorem dX11_nextDraw_1 : decode cX11_nextDraw 1 = .ok (.ldc2_w 357, 3) := by decide +kernel
theorem dX11_nextDraw_4 : decode cX11_nextDraw 4 = .ok (.lmul, 1) := by decide +kernel
theorem dX11_nextDraw_5 : decode cX11_nextDraw 5 = .ok (.ldc2_w 359, 3) := by decide +kernel
theorem dX11_nextDraw_8 : decode cX11_nextDraw 8 = .ok (.ladd, 1) := by decide +kernel
theorem dX11_nextDraw_9 : decode cX11_nextDraw 9 = .ok (.ldc2_w 361, 3) := by decide +kernel
theorem dX11_nextDraw_12 : decode cX11_nextDraw 12 = .ok (.lrem, 1) := by decide +kernel
theorem dX11_nextDraw_13 : decode cX11_nextDraw 13 = .ok (.lreturn, 1) := by decide +kernel
theorem dX11_drawBelow_0 : decode cX11_drawBelow 0 = .ok (.iload_n 2, 1) := by decide +kernel
theorem dX11_drawBelow_1 : decode cX11_drawBelow 1 = .ok (.ifCond .le 15, 3) := by decide +kernel
theorem dX11_drawBelow_4 : decode cX11_drawBelow 4 = .ok (.lload_n 0, 1) := by decide +kernel
theorem dX11_drawBelow_5 : decode cX11_drawBelow 5 = .ok (.ldc2_w 363, 3) := by decide +kernel
theorem dX11_drawBelow_8 : decode cX11_drawBelow 8 = .ok (.ldiv, 1) := by decide +kernel
theorem dX11_drawBelow_9 : decode cX11_drawBelow 9 = .ok (.iload_n 2, 1) := by decide +kernel
theorem dX11_drawBelow_10 : decode cX11_drawBelow 10 = .ok (.i2l, 1) := by decide +kernel
theorem dX11_drawBelow_11 : decode cX11_drawBelow 11 = .ok (.lrem, 1) := by decide +kernel
theorem dX11_drawBelow_12 : decode cX11_drawBelow 12 = .ok (.l2i, 1) := by decide +kernel
theorem dX11_drawBelow_13 : decode cX11_drawBelow 13 = .ok (.goto 4, 3) := by decide +kernel
theorem dX11_drawBelow_16 : decode cX11_drawBelow 16 = .ok (.iconst 0, 1) := by decide +kernel
theorem dX11_drawBelow_17 : decode cX11_drawBelow 17 = .ok (.ireturn, 1) := by decide +kernel
theorem dX11_sum_0 : decode cX11_sum 0 = .ok (.iconst 0, 1) := by decide +kernel
theorem dX11_sum_1 : decode cX11_sum 1 = .ok (.istore_n 2, 1) := by decide +kernel
theorem dX11_sum_2 : decode cX11_sum 2 = .ok (.iconst 0, 1) := by decide +kernel
theorem dX11_sum_3 : decode cX11_sum 3 = .ok (.istore_n 3, 1) := by decide +kernel
theorem dX11_sum_4 : decode cX11_sum 4 = .ok (.iload_n 3, 1) := by decide +kernel
theorem dX11_sum_5 : decode cX11_sum 5 = .ok (.iload_n 1, 1) := by decide +kernel
theorem dX11_sum_6 : decode cX11_sum 6 = .ok (.if_icmp .ge 21, 3) := by decide +kernel
theorem dX11_sum_9 : decode cX11_sum 9 = .ok (.iload_n 3, 1) := by decide +kernel
theorem dX11_sum_10 : decode cX11_sum 10 = .ok (.aload_n 0, 1) := by decide +kernel
theorem dX11_sum_11 : decode cX11_sum 11 = .ok (.arraylength, 1) := by decide +kernel
theorem dX11_sum_12 : decode cX11_sum 12 = .ok (.if_icmp .ge 15, 3) := by decide +kernel
theorem dX11_sum_15 : decode cX11_sum 15 = .ok (.iload_n 2, 1) := by decide +kernel
theorem dX11_sum_16 : decode cX11_sum 16 = .ok (.aload_n 0, 1) := by decide +kernel
theorem dX11_sum_17 : decode cX11_sum 17 = .ok (.iload_n 3, 1) := by decide +kernel
theorem dX11_sum_18 : decode cX11_sum 18 = .ok (.iaload, 1) := by decide +kernel
theorem dX11_sum_19 : decode cX11_sum 19 = .ok (.iadd, 1) := by decide +kernel
theorem dX11_sum_20 : decode cX11_sum 20 = .ok (.istore_n 2, 1) := by decide +kernel
theorem dX11_sum_21 : decode cX11_sum 21 = .ok (.iinc 3 1, 3) := by decide +kernel
theorem dX11_sum_24 : decode cX11_sum 24 = .ok (.goto (-20), 3) := by decide +kernel
theorem dX11_sum_27 : decode cX11_sum 27 = .ok (.iload_n 2, 1) := by decide +kernel
theorem dX11_sum_28 : decode cX11_sum 28 = .ok (.ireturn, 1) := by decide +kernel
theorem dX12_init_0 : decode cX12_init 0 = .ok (.aload_n 0, 1) := by decide +kernel
theorem dX12_init_1 : decode cX12_init 1 = .ok (.invokespecial 1, 3) := by decide +kernel
theorem dX12_init_4 : decode cX12_init 4 = .ok (.aload_n 0, 1) := by decide +kernel
theorem dX12_init_5 : decode cX12_init 5 = .ok (.sipush 1000, 3) := by decide +kernel
theorem dX12_init_8 : decode cX12_init 8 = .ok (.newarray .int, 2) := by decide +kernel
theorem dX12_init_10 : decode cX12_init 10 = .ok (.putfield 7, 3) := by decide +kernel
theorem dX12_init_13 : decode cX12_init 13 = .ok (.aload_n 0, 1) := by decide +kernel
theorem dX12_init_14 : decode cX12_init 14 = .ok (.bipush 10, 2) := by decide +kernel
theorem dX12_init_16 : decode cX12_init 16 = .ok (.newarray .int, 2) := by decide +kernel
theorem dX12_init_18 : decode cX12_init 18 = .ok (.putfield 13, 3) := by decide +kernel
theorem dX12_init_21 : decode cX12_init 21 = .ok (.aload_n 0, 1) := by decide +kernel
theorem dX12_init_22 : decode cX12_init 22 = .ok (.bipush 12, 2) := by decide +kernel
theorem dX12_init_24 : decode cX12_init 24 = .ok (.newarray .long, 2) := by decide +kernel
theorem dX12_init_26 : decode cX12_init 26 = .ok (.putfield 16, 3) := by decide +kernel
theorem dX12_init_29 : decode cX12_init 29 = .ok (.aload_n 0, 1) := by decide +kernel
theorem dX12_init_30 : decode cX12_init 30 = .ok (.bipush 10, 2) := by decide +kernel
theorem dX12_init_32 : decode cX12_init 32 = .ok (.newarray .long, 2) := by decide +kernel
theorem dX12_init_34 : decode cX12_init 34 = .ok (.putfield 20, 3) := by decide +kernel
theorem dX12_init_37 : decode cX12_init 37 = .ok (.aload_n 0, 1) := by decide +kernel
theorem dX12_init_38 : decode cX12_init 38 = .ok (.bipush 12, 2) := by decide +kernel
theorem dX12_init_40 : decode cX12_init 40 = .ok (.newarray .int, 2) := by decide +kernel
theorem dX12_init_42 : decode cX12_init 42 = .ok (.putfield 23, 3) := by decide +kernel
theorem dX12_init_45 : decode cX12_init 45 = .ok (.aload_n 0, 1) := by decide +kernel
theorem dX12_init_46 : decode cX12_init 46 = .ok (.bipush 12, 2) := by decide +kernel
theorem dX12_init_48 : decode cX12_init 48 = .ok (.newarray .int, 2) := by decide +kernel
theorem dX12_init_50 : decode cX12_init 50 = .ok (.putfield 26, 3) := by decide +kernel
theorem dX12_init_53 : decode cX12_init 53 = .ok (.aload_n 0, 1) := by decide +kernel
theorem dX12_init_54 : decode cX12_init 54 = .ok (.bipush 12, 2) := by decide +kernel
theorem dX12_init_56 : decode cX12_init 56 = .ok (.newarray .int, 2) := by decide +kernel
theorem dX12_init_58 : decode cX12_init 58 = .ok (.putfield 29, 3) := by decide +kernel
theorem dX12_init_61 : decode cX12_init 61 = .ok (.aload_n 0, 1) := by decide +kernel
theorem dX12_init_62 : decode cX12_init 62 = .ok (.bipush 12, 2) := by decide +kernel
theorem dX12_init_64 : decode cX12_init 64 = .ok (.newarray .int, 2) := by decide +kernel
theorem dX12_init_66 : decode cX12_init 66 = .ok (.putfield 32, 3) := by decide +kernel
theorem dX12_init_69 : decode cX12_init 69 = .ok (.aload_n 0, 1) := by decide +kernel
theorem dX12_init_70 : decode cX12_init 70 = .ok (.bipush 12, 2) := by decide +kernel
theorem dX12_init_72 : decode cX12_init 72 = .ok (.newarray .int, 2) := by decide +kernel
theorem dX12_init_74 : decode cX12_init 74 = .ok (.putfield 35, 3) := by decide +kernel
theorem dX12_init_77 : decode cX12_init 77 = .ok (.aload_n 0, 1) := by decide +kernel
theorem dX12_init_78 : decode cX12_init 78 = .ok (.bipush 12, 2) := by decide +kernel
theorem dX12_init_80 : decode cX12_init 80 = .ok (.newarray .int, 2) := by decide +kernel
theorem dX12_init_82 : decode cX12_init 82 = .ok (.putfield 38, 3) := by decide +kernel
theorem dX12_init_85 : decode cX12_init 85 = .ok (.aload_n 0, 1) := by decide +kernel
theorem dX12_init_86 : decode cX12_init 86 = .ok (.bipush 10, 2) := by decide +kernel
theorem dX12_init_88 : decode cX12_init 88 = .ok (.newarray .int, 2) := by decide +kernel
theorem dX12_init_90 : decode cX12_init 90 = .ok (.putfield 41, 3) := by decide +kernel
theorem dX12_init_93 : decode cX12_init 93 = .ok (.aload_n 0, 1) := by decide +kernel
theorem dX12_init_94 : decode cX12_init 94 = .ok (.bipush 10, 2) := by decide +kernel
theorem dX12_init_96 : decode cX12_init 96 = .ok (.newarray .int, 2) := by decide +kernel
theorem dX12_init_98 : decode cX12_init 98 = .ok (.putfield 44, 3) := by decide +kernel
theorem dX12_init_101 : decode cX12_init 101 = .ok (.aload_n 0, 1) := by decide +kernel
theorem dX12_init_102 : decode cX12_init 102 = .ok (.bipush 10, 2) := by decide +kernel
theorem dX12_init_104 : decode cX12_init 104 = .ok (.newarray .int, 2) := by decide +kernel
theorem dX12_init_106 : decode cX12_init 106 = .ok (.putfield 47, 3) := by decide +kernel
theorem dX12_init_109 : decode cX12_init 109 = .ok (.aload_n 0, 1) := by decide +kernel
theorem dX12_init_110 : decode cX12_init 110 = .ok (.bipush 12, 2) := by decide +kernel
theorem dX12_init_112 : decode cX12_init 112 = .ok (.newarray .int, 2) := by decide +kernel
theorem dX12_init_114 : decode cX12_init 114 = .ok (.putfield 50, 3) := by decide +kernel
theorem dX12_init_117 : decode cX12_init 117 = .ok (.aload_n 0, 1) := by decide +kernel
theorem dX12_init_118 : decode cX12_init 118 = .ok (.iconst 2, 1) := by decide +kernel
theorem dX12_init_119 : decode cX12_init 119 = .ok (.newarray .int, 2) := by decide +kernel
theorem dX12_init_121 : decode cX12_init 121 = .ok (.putfield 53, 3) := by decide +kernel
theorem dX12_init_124 : decode cX12_init 124 = .ok (.aload_n 0, 1) := by decide +kernel
theorem dX12_init_125 : decode cX12_init 125 = .ok (.iconst 2, 1) := by decide +kernel
theorem dX12_init_126 : decode cX12_init 126 = .ok (.newarray .int, 2) := by decide +kernel
theorem dX12_init_128 : decode cX12_init 128 = .ok (.putfield 56, 3) := by decide +kernel
theorem dX12_init_131 : decode cX12_init 131 = .ok (.aload_n 0, 1) := by decide +kernel
theorem dX12_init_132 : decode cX12_init 132 = .ok (.sipush 2000, 3) := by decide +kernel
theorem dX12_init_135 : decode cX12_init 135 = .ok (.newarray .int, 2) := by decide +kernel
theorem dX12_init_137 : decode cX12_init 137 = .ok (.putfield 59, 3) := by decide +kernel
theorem dX12_init_140 : decode cX12_init 140 = .ok (.aload_n 0, 1) := by decide +kernel
theorem dX12_init_141 : decode cX12_init 141 = .ok (.bipush 7, 2) := by decide +kernel
theorem dX12_init_143 : decode cX12_init 143 = .ok (.newarray .int, 2) := by decide +kernel
theorem dX12_init_145 : decode cX12_init 145 = .ok (.putfield 62, 3) := by decide +kernel
theorem dX12_init_148 : decode cX12_init 148 = .ok (.aload_n 0, 1) := by decide +kernel
theorem dX12_init_149 : decode cX12_init 149 = .ok (.bipush 7, 2) := by decide +kernel
theorem dX12_init_151 : decode cX12_init 151 = .ok (.newarray .boolean, 2) := by decide +kernel
theorem dX12_init_153 : decode cX12_init 153 = .ok (.putfield 65, 3) := by decide +kernel
theorem dX12_init_156 : decode cX12_init 156 = .ok (.aload_n 0, 1) := by decide +kernel
theorem dX12_init_157 : decode cX12_init 157 = .ok (.bipush 7, 2) := by decide +kernel
theorem dX12_init_159 : decode cX12_init 159 = .ok (.newarray .int, 2) := by decide +kernel
theorem dX12_init_161 : decode cX12_init 161 = .ok (.putfield 69, 3) := by decide +kernel
theorem dX12_init_164 : decode cX12_init 164 = .ok (.aload_n 0, 1) := by decide +kernel
theorem dX12_init_165 : decode cX12_init 165 = .ok (.bipush 7, 2) := by decide +kernel
theorem dX12_init_167 : decode cX12_init 167 = .ok (.newarray .int, 2) := by decide +kernel
theorem dX12_init_169 : decode cX12_init 169 = .ok (.putfield 72, 3) := by decide +kernel
theorem dX12_init_172 : decode cX12_init 172 = .ok (.aload_n 0, 1) := by decide +kernel
theorem dX12_init_173 : decode cX12_init 173 = .ok (.bipush 7, 2) := by decide +kernel
theorem dX12_init_175 : decode cX12_init 175 = .ok (.newarray .int, 2) := by decide +kernel
theorem dX12_init_177 : decode cX12_init 177 = .ok (.putfield 75, 3) := by decide +kernel
theorem dX12_init_180 : decode cX12_init 180 = .ok (.aload_n 0, 1) := by decide +kernel
theorem dX12_init_181 : decode cX12_init 181 = .ok (.bipush 7, 2) := by decide +kernel
theorem dX12_init_183 : decode cX12_init 183 = .ok (.newarray .int, 2) := by decide +kernel
theorem dX12_init_185 : decode cX12_init 185 = .ok (.putfield 78, 3) := by decide +kernel
theorem dX12_init_188 : decode cX12_init 188 = .ok (.aload_n 0, 1) := by decide +kernel
theorem dX12_init_189 : decode cX12_init 189 = .ok (.bipush 7, 2) := by decide +kernel
theorem dX12_init_191 : decode cX12_init 191 = .ok (.newarray .int, 2) := by decide +kernel
theorem dX12_init_193 : decode cX12_init 193 = .ok (.putfield 81, 3) := by decide +kernel
theorem dX12_init_196 : decode cX12_init 196 = .ok (.aload_n 0, 1) := by decide +kernel
theorem dX12_init_197 : decode cX12_init 197 = .ok (.bipush 7, 2) := by decide +kernel
theorem dX12_init_199 : decode cX12_init 199 = .ok (.newarray .int, 2) := by decide +kernel
theorem dX12_init_201 : decode cX12_init 201 = .ok (.putfield 84, 3) := by decide +kernel
theorem dX12_init_204 : decode cX12_init 204 = .ok (.aload_n 0, 1) := by decide +kernel
theorem dX12_init_205 : decode cX12_init 205 = .ok (.bipush 7, 2) := by decide +kernel
theorem dX12_init_207 : decode cX12_init 207 = .ok (.newarray .int, 2) := by decide +kernel
theorem dX12_init_209 : decode cX12_init 209 = .ok (.putfield 87, 3) := by decide +kernel
theorem dX12_init_212 : decode cX12_init 212 = .ok (.aload_n 0, 1) := by decide +kernel
theorem dX12_init_213 : decode cX12_init 213 = .ok (.bipush 7, 2) := by decide +kernel
theorem dX12_init_215 : decode cX12_init 215 = .ok (.newarray .int, 2) := by decide +kernel
theorem dX12_init_217 : decode cX12_init 217 = .ok (.putfield 90, 3) := by decide +kernel
theorem dX12_init_220 : decode cX12_init 220 = .ok (.aload_n 0, 1) := by decide +kernel
theorem dX12_init_221 : decode cX12_init 221 = .ok (.bipush 7, 2) := by decide +kernel
theorem dX12_init_223 : decode cX12_init 223 = .ok (.newarray .int, 2) := by decide +kernel
theorem dX12_init_225 : decode cX12_init 225 = .ok (.putfield 93, 3) := by decide +kernel
theorem dX12_init_228 : decode cX12_init 228 = .ok (.aload_n 0, 1) := by decide +kernel
theorem dX12_init_229 : decode cX12_init 229 = .ok (.bipush 20, 2) := by decide +kernel
theorem dX12_init_231 : decode cX12_init 231 = .ok (.newarray .int, 2) := by decide +kernel
theorem dX12_init_233 : decode cX12_init 233 = .ok (.putfield 96, 3) := by decide +kernel
theorem dX12_init_236 : decode cX12_init 236 = .ok (.aload_n 0, 1) := by decide +kernel
theorem dX12_init_237 : decode cX12_init 237 = .ok (.bipush 6, 2) := by decide +kernel
theorem dX12_init_239 : decode cX12_init 239 = .ok (.newarray .int, 2) := by decide +kernel
theorem dX12_init_241 : decode cX12_init 241 = .ok (.putfield 99, 3) := by decide +kernel
theorem dX12_init_244 : decode cX12_init 244 = .ok (.aload_n 0, 1) := by decide +kernel
theorem dX12_init_245 : decode cX12_init 245 = .ok (.sipush 240, 3) := by decide +kernel
theorem dX12_init_248 : decode cX12_init 248 = .ok (.newarray .int, 2) := by decide +kernel
theorem dX12_init_250 : decode cX12_init 250 = .ok (.putfield 102, 3) := by decide +kernel
theorem dX12_init_253 : decode cX12_init 253 = .ok (.aload_n 0, 1) := by decide +kernel
theorem dX12_init_254 : decode cX12_init 254 = .ok (.sipush 240, 3) := by decide +kernel
theorem dX12_init_257 : decode cX12_init 257 = .ok (.newarray .int, 2) := by decide +kernel
theorem dX12_init_259 : decode cX12_init 259 = .ok (.putfield 105, 3) := by decide +kernel
theorem dX12_init_262 : decode cX12_init 262 = .ok (.aload_n 0, 1) := by decide +kernel
theorem dX12_init_263 : decode cX12_init 263 = .ok (.sipush 240, 3) := by decide +kernel
theorem dX12_init_266 : decode cX12_init 266 = .ok (.newarray .int, 2) := by decide +kernel
theorem dX12_init_268 : decode cX12_init 268 = .ok (.putfield 108, 3) := by decide +kernel
theorem dX12_init_271 : decode cX12_init 271 = .ok (.aload_n 0, 1) := by decide +kernel
theorem dX12_init_272 : decode cX12_init 272 = .ok (.sipush 240, 3) := by decide +kernel
theorem dX12_init_275 : decode cX12_init 275 = .ok (.newarray .boolean, 2) := by decide +kernel
theorem dX12_init_277 : decode cX12_init 277 = .ok (.putfield 111, 3) := by decide +kernel
theorem dX12_init_280 : decode cX12_init 280 = .ok (.aload_n 0, 1) := by decide +kernel
theorem dX12_init_281 : decode cX12_init 281 = .ok (.bipush 30, 2) := by decide +kernel
theorem dX12_init_283 : decode cX12_init 283 = .ok (.newarray .int, 2) := by decide +kernel
theorem dX12_init_285 : decode cX12_init 285 = .ok (.putfield 114, 3) := by decide +kernel
theorem dX12_init_288 : decode cX12_init 288 = .ok (.aload_n 0, 1) := by decide +kernel
theorem dX12_init_289 : decode cX12_init 289 = .ok (.bipush 21, 2) := by decide +kernel
theorem dX12_init_291 : decode cX12_init 291 = .ok (.newarray .int, 2) := by decide +kernel
theorem dX12_init_293 : decode cX12_init 293 = .ok (.putfield 117, 3) := by decide +kernel
theorem dX12_init_296 : decode cX12_init 296 = .ok (.aload_n 0, 1) := by decide +kernel
theorem dX12_init_297 : decode cX12_init 297 = .ok (.bipush 21, 2) := by decide +kernel
theorem dX12_init_299 : decode cX12_init 299 = .ok (.newarray .int, 2) := by decide +kernel
theorem dX12_init_301 : decode cX12_init 301 = .ok (.putfield 120, 3) := by decide +kernel
theorem dX12_init_304 : decode cX12_init 304 = .ok (.aload_n 0, 1) := by decide +kernel
theorem dX12_init_305 : decode cX12_init 305 = .ok (.bipush 84, 2) := by decide +kernel
theorem dX12_init_307 : decode cX12_init 307 = .ok (.newarray .int, 2) := by decide +kernel
theorem dX12_init_309 : decode cX12_init 309 = .ok (.putfield 123, 3) := by decide +kernel
theorem dX12_init_312 : decode cX12_init 312 = .ok (.aload_n 0, 1) := by decide +kernel
theorem dX12_init_313 : decode cX12_init 313 = .ok (.bipush 84, 2) := by decide +kernel
theorem dX12_init_315 : decode cX12_init 315 = .ok (.newarray .int, 2) := by decide +kernel
theorem dX12_init_317 : decode cX12_init 317 = .ok (.putfield 126, 3) := by decide +kernel
theorem dX12_init_320 : decode cX12_init 320 = .ok (.aload_n 0, 1) := by decide +kernel
theorem dX12_init_321 : decode cX12_init 321 = .ok (.sipush 336, 3) := by decide +kernel
theorem dX12_init_324 : decode cX12_init 324 = .ok (.newarray .int, 2) := by decide +kernel
theorem dX12_init_326 : decode cX12_init 326 = .ok (.putfield 129, 3) := by decide +kernel
theorem dX12_init_329 : decode cX12_init 329 = .ok (.aload_n 0, 1) := by decide +kernel
theorem dX12_init_330 : decode cX12_init 330 = .ok (.iconst 4, 1) := by decide +kernel
theorem dX12_init_331 : decode cX12_init 331 = .ok (.newarray .boolean, 2) := by decide +kernel
theorem dX12_init_333 : decode cX12_init 333 = .ok (.putfield 132, 3) := by decide +kernel
theorem dX12_init_336 : decode cX12_init 336 = .ok (.aload_n 0, 1) := by decide +kernel
theorem dX12_init_337 : decode cX12_init 337 = .ok (.bipush 6, 2) := by decide +kernel
theorem dX12_init_339 : decode cX12_init 339 = .ok (.newarray .int, 2) := by decide +kernel
theorem dX12_init_341 : decode cX12_init 341 = .ok (.putfield 135, 3) := by decide +kernel
theorem dX12_init_344 : decode cX12_init 344 = .ok (.aload_n 0, 1) := by decide +kernel
theorem dX12_init_345 : decode cX12_init 345 = .ok (.bipush 6, 2) := by decide +kernel
theorem dX12_init_347 : decode cX12_init 347 = .ok (.newarray .int, 2) := by decide +kernel
theorem dX12_init_349 : decode cX12_init 349 = .ok (.putfield 138, 3) := by decide +kernel
theorem dX12_init_352 : decode cX12_init 352 = .ok (.aload_n 0, 1) := by decide +kernel
theorem dX12_init_353 : decode cX12_init 353 = .ok (.bipush 6, 2) := by decide +kernel
theorem dX12_init_355 : decode cX12_init 355 = .ok (.newarray .int, 2) := by decide +kernel
theorem dX12_init_357 : decode cX12_init 357 = .ok (.putfield 141, 3) := by decide +kernel
theorem dX12_init_360 : decode cX12_init 360 = .ok (.aload_n 0, 1) := by decide +kernel
theorem dX12_init_361 : decode cX12_init 361 = .ok (.bipush 64, 2) := by decide +kernel
theorem dX12_init_363 : decode cX12_init 363 = .ok (.newarray .int, 2) := by decide +kernel
theorem dX12_init_365 : decode cX12_init 365 = .ok (.putfield 144, 3) := by decide +kernel
theorem dX12_init_368 : decode cX12_init 368 = .ok (.aload_n 0, 1) := by decide +kernel
theorem dX12_init_369 : decode cX12_init 369 = .ok (.bipush 6, 2) := by decide +kernel
theorem dX12_init_371 : decode cX12_init 371 = .ok (.newarray .int, 2) := by decide +kernel
theorem dX12_init_373 : decode cX12_init 373 = .ok (.putfield 147, 3) := by decide +kernel
theorem dX12_init_376 : decode cX12_init 376 = .ok (.aload_n 0, 1) := by decide +kernel
theorem dX12_init_377 : decode cX12_init 377 = .ok (.bipush 6, 2) := by decide +kernel
theorem dX12_init_379 : decode cX12_init 379 = .ok (.newarray .int, 2) := by decide +kernel
theorem dX12_init_381 : decode cX12_init 381 = .ok (.putfield 150, 3) := by decide +kernel
theorem dX12_init_384 : decode cX12_init 384 = .ok (.aload_n 0, 1) := by decide +kernel
theorem dX12_init_385 : decode cX12_init 385 = .ok (.getfield 13, 3) := by decide +kernel
theorem dX12_init_388 : decode cX12_init 388 = .ok (.iconst 4, 1) := by decide +kernel
theorem dX12_init_389 : decode cX12_init 389 = .ok (.iconst 2, 1) := by decide +kernel
theorem dX12_init_390 : decode cX12_init 390 = .ok (.iastore, 1) := by decide +kernel
theorem dX12_init_391 : decode cX12_init 391 = .ok (.aload_n 0, 1) := by decide +kernel
theorem dX12_init_392 : decode cX12_init 392 = .ok (.invokevirtual 153, 3) := by decide +kernel
theorem dX12_init_395 : decode cX12_init 395 = .ok (.return_, 1) := by decide +kernel
theorem dX12_thrown_0 : decode cX12_thrown 0 = .ok (.aload_n 0, 1) := by decide +kernel
theorem dX12_thrown_1 : decode cX12_thrown 1 = .ok (.getfield 156, 3) := by decide +kernel
theorem dX12_thrown_4 : decode cX12_thrown 4 = .ok (.ireturn, 1) := by decide +kernel
theorem dX12_within_0 : decode cX12_within 0 = .ok (.iload_n 0, 1) := by decide +kernel
theorem dX12_within_1 : decode cX12_within 1 = .ok (.iload_n 1, 1) := by decide +kernel
theorem dX12_within_2 : decode cX12_within 2 = .ok (.if_icmp .lt 12, 3) := by decide +kernel
theorem dX12_within_5 : decode cX12_within 5 = .ok (.iload_n 0, 1) := by decide +kernel
theorem dX12_within_6 : decode cX12_within 6 = .ok (.iload_n 2, 1) := by decide +kernel
theorem dX12_within_7 : decode cX12_within 7 = .ok (.if_icmp .gt 7, 3) := by decide +kernel
theorem dX12_within_10 : decode cX12_within 10 = .ok (.iconst 1, 1) := by decide +kernel
theorem dX12_within_11 : decode cX12_within 11 = .ok (.goto 4, 3) := by decide +kernel
theorem dX12_within_14 : decode cX12_within 14 = .ok (.iconst 0, 1) := by decide +kernel
theorem dX12_within_15 : decode cX12_within 15 = .ok (.ireturn, 1) := by decide +kernel
theorem dX12_bits_0 : decode cX12_bits 0 = .ok (.iconst 0, 1) := by decide +kernel
theorem dX12_bits_1 : decode cX12_bits 1 = .ok (.istore_n 1, 1) := by decide +kernel
theorem dX12_bits_2 : decode cX12_bits 2 = .ok (.iconst 0, 1) := by decide +kernel
theorem dX12_bits_3 : decode cX12_bits 3 = .ok (.istore_n 2, 1) := by decide +kernel
theorem dX12_bits_4 : decode cX12_bits 4 = .ok (.iload_n 2, 1) := by decide +kernel
theorem dX12_bits_5 : decode cX12_bits 5 = .ok (.bipush 6, 2) := by decide +kernel
theorem dX12_bits_7 : decode cX12_bits 7 = .ok (.if_icmp .ge 17, 3) := by decide +kernel
theorem dX12_bits_10 : decode cX12_bits 10 = .ok (.iload_n 1, 1) := by decide +kernel
theorem dX12_bits_11 : decode cX12_bits 11 = .ok (.iload_n 0, 1) := by decide +kernel
theorem dX12_bits_12 : decode cX12_bits 12 = .ok (.iload_n 2, 1) := by decide +kernel
theorem dX12_bits_13 : decode cX12_bits 13 = .ok (.ishr, 1) := by decide +kernel
theorem dX12_bits_14 : decode cX12_bits 14 = .ok (.iconst 1, 1) := by decide +kernel
theorem dX12_bits_15 : decode cX12_bits 15 = .ok (.iand, 1) := by decide +kernel
theorem dX12_bits_16 : decode cX12_bits 16 = .ok (.iadd, 1) := by decide +kernel
theorem dX12_bits_17 : decode cX12_bits 17 = .ok (.istore_n 1, 1) := by decide +kernel
theorem dX12_bits_18 : decode cX12_bits 18 = .ok (.iinc 2 1, 3) := by decide +kernel
theorem dX12_bits_21 : decode cX12_bits 21 = .ok (.goto (-17), 3) := by decide +kernel
theorem dX12_bits_24 : decode cX12_bits 24 = .ok (.iload_n 1, 1) := by decide +kernel
theorem dX12_bits_25 : decode cX12_bits 25 = .ok (.ireturn, 1) := by decide +kernel
theorem dX12_feed_0 : decode cX12_feed 0 = .ok (.aload_n 0, 1) := by decide +kernel
theorem dX12_feed_1 : decode cX12_feed 1 = .ok (.iconst 0, 1) := by decide +kernel
theorem dX12_feed_2 : decode cX12_feed 2 = .ok (.putfield 156, 3) := by decide +kernel
theorem dX12_feed_5 : decode cX12_feed 5 = .ok (.iconst 0, 1) := by decide +kernel
theorem dX12_feed_6 : decode cX12_feed 6 = .ok (.istore 7, 2) := by decide +kernel
theorem dX12_feed_8 : decode cX12_feed 8 = .ok (.iload 7, 2) := by decide +kernel
theorem dX12_feed_10 : decode cX12_feed 10 = .ok (.bipush 24, 2) := by decide +kernel
theorem dX12_feed_12 : decode cX12_feed 12 = .ok (.if_icmp .ge 108, 3) := by decide +kernel
theorem dX12_feed_15 : decode cX12_feed 15 = .ok (.iload 7, 2) := by decide +kernel
theorem dX12_feed_17 : decode cX12_feed 17 = .ok (.bipush 8, 2) := by decide +kernel
theorem dX12_feed_19 : decode cX12_feed 19 = .ok (.if_icmp .ge 7, 3) := by decide +kernel
theorem dX12_feed_22 : decode cX12_feed 22 = .ok (.lload_n 1, 1) := by decide +kernel
theorem dX12_feed_23 : decode cX12_feed 23 = .ok (.goto 16, 3) := by decide +kernel
theorem dX12_feed_26 : decode cX12_feed 26 = .ok (.iload 7, 2) := by decide +kernel
theorem dX12_feed_28 : decode cX12_feed 28 = .ok (.bipush 16, 2) := by decide +kernel
theorem dX12_feed_30 : decode cX12_feed 30 = .ok (.if_icmp .ge 7, 3) := by decide +kernel
theorem dX12_feed_33 : decode cX12_feed 33 = .ok (.lload_n 3, 1) := by decide +kernel
theorem dX12_feed_34 : decode cX12_feed 34 = .ok (.goto 5, 3) := by decide +kernel
theorem dX12_feed_37 : decode cX12_feed 37 = .ok (.lload 5, 2) := by decide +kernel
theorem dX12_feed_39 : decode cX12_feed 39 = .ok (.lstore 8, 2) := by decide +kernel
theorem dX12_feed_41 : decode cX12_feed 41 = .ok (.lload 8, 2) := by decide +kernel
theorem dX12_feed_43 : decode cX12_feed 43 = .ok (.bipush 56, 2) := by decide +kernel
theorem dX12_feed_45 : decode cX12_feed 45 = .ok (.bipush 8, 2) := by decide +kernel
theorem dX12_feed_47 : decode cX12_feed 47 = .ok (.iload 7, 2) := by decide +kernel
theorem dX12_feed_49 : decode cX12_feed 49 = .ok (.bipush 7, 2) := by decide +kernel
theorem dX12_feed_51 : decode cX12_feed 51 = .ok (.iand, 1) := by decide +kernel
theorem dX12_feed_52 : decode cX12_feed 52 = .ok (.imul, 1) := by decide +kernel
theorem dX12_feed_53 : decode cX12_feed 53 = .ok (.isub, 1) := by decide +kernel
theorem dX12_feed_54 : decode cX12_feed 54 = .ok (.lushr, 1) := by decide +kernel
theorem dX12_feed_55 : decode cX12_feed 55 = .ok (.ldc2_w 160, 3) := by decide +kernel
theorem dX12_feed_58 : decode cX12_feed 58 = .ok (.land, 1) := by decide +kernel
theorem dX12_feed_59 : decode cX12_feed 59 = .ok (.l2i, 1) := by decide +kernel
theorem dX12_feed_60 : decode cX12_feed 60 = .ok (.istore 10, 2) := by decide +kernel
theorem dX12_feed_62 : decode cX12_feed 62 = .ok (.aload_n 0, 1) := by decide +kernel
theorem dX12_feed_63 : decode cX12_feed 63 = .ok (.getfield 162, 3) := by decide +kernel
theorem dX12_feed_66 : decode cX12_feed 66 = .ok (.sipush 1000, 3) := by decide +kernel
theorem dX12_feed_69 : decode cX12_feed 69 = .ok (.if_icmp .ge 45, 3) := by decide +kernel
theorem dX12_feed_72 : decode cX12_feed 72 = .ok (.iload 10, 2) := by decide +kernel
theorem dX12_feed_74 : decode cX12_feed 74 = .ok (.bipush 10, 2) := by decide +kernel
theorem dX12_feed_76 : decode cX12_feed 76 = .ok (.if_icmp .eq 17, 3) := by decide +kernel
theorem dX12_feed_79 : decode cX12_feed 79 = .ok (.iload 10, 2) := by decide +kernel
theorem dX12_feed_81 : decode cX12_feed 81 = .ok (.bipush 32, 2) := by decide +kernel
theorem dX12_feed_83 : decode cX12_feed 83 = .ok (.if_icmp .lt 31, 3) := by decide +kernel
theorem dX12_feed_86 : decode cX12_feed 86 = .ok (.iload 10, 2) := by decide +kernel
theorem dX12_feed_88 : decode cX12_feed 88 = .ok (.bipush 126, 2) := by decide +kernel
theorem dX12_feed_90 : decode cX12_feed 90 = .ok (.if_icmp .gt 24, 3) := by decide +kernel
theorem dX12_feed_93 : decode cX12_feed 93 = .ok (.aload_n 0, 1) := by decide +kernel
theorem dX12_feed_94 : decode cX12_feed 94 = .ok (.getfield 7, 3) := by decide +kernel
theorem dX12_feed_97 : decode cX12_feed 97 = .ok (.aload_n 0, 1) := by decide +kernel
theorem dX12_feed_98 : decode cX12_feed 98 = .ok (.getfield 162, 3) := by decide +kernel
theorem dX12_feed_101 : decode cX12_feed 101 = .ok (.iload 10, 2) := by decide +kernel
theorem dX12_feed_103 : decode cX12_feed 103 = .ok (.iastore, 1) := by decide +kernel
theorem dX12_feed_104 : decode cX12_feed 104 = .ok (.aload_n 0, 1) := by decide +kernel
theorem dX12_feed_105 : decode cX12_feed 105 = .ok (.dup, 1) := by decide +kernel
theorem dX12_feed_106 : decode cX12_feed 106 = .ok (.getfield 162, 3) := by decide +kernel
theorem dX12_feed_109 : decode cX12_feed 109 = .ok (.iconst 1, 1) := by decide +kernel
theorem dX12_feed_110 : decode cX12_feed 110 = .ok (.iadd, 1) := by decide +kernel
theorem dX12_feed_111 : decode cX12_feed 111 = .ok (.putfield 162, 3) := by decide +kernel
theorem dX12_feed_114 : decode cX12_feed 114 = .ok (.iinc 7 1, 3) := by decide +kernel
theorem dX12_feed_117 : decode cX12_feed 117 = .ok (.goto (-109), 3) := by decide +kernel
theorem dX12_feed_120 : decode cX12_feed 120 = .ok (.aload_n 0, 1) := by decide +kernel
theorem dX12_feed_121 : decode cX12_feed 121 = .ok (.getfield 162, 3) := by decide +kernel
theorem dX12_feed_124 : decode cX12_feed 124 = .ok (.ireturn, 1) := by decide +kernel
theorem dX12_nextToken_0 : decode cX12_nextToken 0 = .ok (.aload_n 0, 1) := by decide +kernel
theorem dX12_nextToken_1 : decode cX12_nextToken 1 = .ok (.getfield 168, 3) := by decide +kernel
theorem dX12_nextToken_4 : decode cX12_nextToken 4 = .ok (.aload_n 0, 1) := by decide +kernel
theorem dX12_nextToken_5 : decode cX12_nextToken 5 = .ok (.getfield 165, 3) := by decide +kernel
theorem dX12_nextToken_8 : decode cX12_nextToken 8 = .ok (.if_icmp .ge 44, 3) := by decide +kernel
theorem dX12_nextToken_11 : decode cX12_nextToken 11 = .ok (.aload_n 0, 1) := by decide +kernel
theorem dX12_nextToken_12 : decode cX12_nextToken 12 = .ok (.getfield 7, 3) := by decide +kernel
theorem dX12_nextToken_15 : decode cX12_nextToken 15 = .ok (.aload_n 0, 1) := by decide +kernel
theorem dX12_nextToken_16 : decode cX12_nextToken 16 = .ok (.getfield 168, 3) := by decide +kernel
theorem dX12_nextToken_19 : decode cX12_nextToken 19 = .ok (.iaload, 1) := by decide +kernel
theorem dX12_nextToken_20 : decode cX12_nextToken 20 = .ok (.bipush 32, 2) := by decide +kernel
theorem dX12_nextToken_22 : decode cX12_nextToken 22 = .ok (.if_icmp .eq 17, 3) := by decide +kernel
theorem dX12_nextToken_25 : decode cX12_nextToken 25 = .ok (.aload_n 0, 1) := by decide +kernel
theorem dX12_nextToken_26 : decode cX12_nextToken 26 = .ok (.getfield 7, 3) := by decide +kernel
theorem dX12_nextToken_29 : decode cX12_nextToken 29 = .ok (.aload_n 0, 1) := by decide +kernel
theorem dX12_nextToken_30 : decode cX12_nextToken 30 = .ok (.getfield 168, 3) := by decide +kernel
theorem dX12_nextToken_33 : decode cX12_nextToken 33 = .ok (.iaload, 1) := by decide +kernel
theorem dX12_nextToken_34 : decode cX12_nextToken 34 = .ok (.bipush 10, 2) := by decide +kernel
theorem dX12_nextToken_36 : decode cX12_nextToken 36 = .ok (.if_icmp .ne 16, 3) := by decide +kernel
theorem dX12_nextToken_39 : decode cX12_nextToken 39 = .ok (.aload_n 0, 1) := by decide +kernel
theorem dX12_nextToken_40 : decode cX12_nextToken 40 = .ok (.dup, 1) := by decide +kernel
theorem dX12_nextToken_41 : decode cX12_nextToken 41 = .ok (.getfield 168, 3) := by decide +kernel
theorem dX12_nextToken_44 : decode cX12_nextToken 44 = .ok (.iconst 1, 1) := by decide +kernel
theorem dX12_nextToken_45 : decode cX12_nextToken 45 = .ok (.iadd, 1) := by decide +kernel
theorem dX12_nextToken_46 : decode cX12_nextToken 46 = .ok (.putfield 168, 3) := by decide +kernel
theorem dX12_nextToken_49 : decode cX12_nextToken 49 = .ok (.goto (-49), 3) := by decide +kernel
theorem dX12_nextToken_52 : decode cX12_nextToken 52 = .ok (.aload_n 0, 1) := by decide +kernel
theorem dX12_nextToken_53 : decode cX12_nextToken 53 = .ok (.aload_n 0, 1) := by decide +kernel
theorem dX12_nextToken_54 : decode cX12_nextToken 54 = .ok (.getfield 168, 3) := by decide +kernel
theorem dX12_nextToken_57 : decode cX12_nextToken 57 = .ok (.putfield 171, 3) := by decide +kernel
theorem dX12_nextToken_60 : decode cX12_nextToken 60 = .ok (.aload_n 0, 1) := by decide +kernel
theorem dX12_nextToken_61 : decode cX12_nextToken 61 = .ok (.lconst 0, 1) := by decide +kernel
theorem dX12_nextToken_62 : decode cX12_nextToken 62 = .ok (.putfield 174, 3) := by decide +kernel
theorem dX12_nextToken_65 : decode cX12_nextToken 65 = .ok (.aload_n 0, 1) := by decide +kernel
theorem dX12_nextToken_66 : decode cX12_nextToken 66 = .ok (.iconst 0, 1) := by decide +kernel
theorem dX12_nextToken_67 : decode cX12_nextToken 67 = .ok (.putfield 178, 3) := by decide +kernel
theorem dX12_nextToken_70 : decode cX12_nextToken 70 = .ok (.aload_n 0, 1) := by decide +kernel
theorem dX12_nextToken_71 : decode cX12_nextToken 71 = .ok (.getfield 168, 3) := by decide +kernel
theorem dX12_nextToken_74 : decode cX12_nextToken 74 = .ok (.aload_n 0, 1) := by decide +kernel
theorem dX12_nextToken_75 : decode cX12_nextToken 75 = .ok (.getfield 165, 3) := by decide +kernel
theorem dX12_nextToken_78 : decode cX12_nextToken 78 = .ok (.if_icmp .ne 9, 3) := by decide +kernel
theorem dX12_nextToken_81 : decode cX12_nextToken 81 = .ok (.aload_n 0, 1) := by decide +kernel
theorem dX12_nextToken_82 : decode cX12_nextToken 82 = .ok (.iconst 0, 1) := by decide +kernel
theorem dX12_nextToken_83 : decode cX12_nextToken 83 = .ok (.putfield 181, 3) := by decide +kernel
theorem dX12_nextToken_86 : decode cX12_nextToken 86 = .ok (.return_, 1) := by decide +kernel
theorem dX12_nextToken_87 : decode cX12_nextToken 87 = .ok (.aload_n 0, 1) := by decide +kernel
theorem dX12_nextToken_88 : decode cX12_nextToken 88 = .ok (.getfield 7, 3) := by decide +kernel
theorem dX12_nextToken_91 : decode cX12_nextToken 91 = .ok (.aload_n 0, 1) := by decide +kernel
theorem dX12_nextToken_92 : decode cX12_nextToken 92 = .ok (.getfield 168, 3) := by decide +kernel
theorem dX12_nextToken_95 : decode cX12_nextToken 95 = .ok (.iaload, 1) := by decide +kernel
theorem dX12_nextToken_96 : decode cX12_nextToken 96 = .ok (.istore_n 1, 1) := by decide +kernel
theorem dX12_nextToken_97 : decode cX12_nextToken 97 = .ok (.iload_n 1, 1) := by decide +kernel
theorem dX12_nextToken_98 : decode cX12_nextToken 98 = .ok (.bipush 97, 2) := by decide +kernel
theorem dX12_nextToken_100 : decode cX12_nextToken 100 = .ok (.if_icmp .lt 112, 3) := by decide +kernel
theorem dX12_nextToken_103 : decode cX12_nextToken 103 = .ok (.iload_n 1, 1) := by decide +kernel
theorem dX12_nextToken_104 : decode cX12_nextToken 104 = .ok (.bipush 122, 2) := by decide +kernel
theorem dX12_nextToken_106 : decode cX12_nextToken 106 = .ok (.if_icmp .gt 106, 3) := by decide +kernel
theorem dX12_nextToken_109 : decode cX12_nextToken 109 = .ok (.aload_n 0, 1) := by decide +kernel
theorem dX12_nextToken_110 : decode cX12_nextToken 110 = .ok (.aload_n 0, 1) := by decide +kernel
theorem dX12_nextToken_111 : decode cX12_nextToken 111 = .ok (.getfield 168, 3) := by decide +kernel
theorem dX12_nextToken_114 : decode cX12_nextToken 114 = .ok (.invokevirtual 184, 3) := by decide +kernel
theorem dX12_nextToken_117 : decode cX12_nextToken 117 = .ok (.bipush 97, 2) := by decide +kernel
theorem dX12_nextToken_119 : decode cX12_nextToken 119 = .ok (.if_icmp .lt 69, 3) := by decide +kernel
theorem dX12_nextToken_122 : decode cX12_nextToken 122 = .ok (.aload_n 0, 1) := by decide +kernel
theorem dX12_nextToken_123 : decode cX12_nextToken 123 = .ok (.aload_n 0, 1) := by decide +kernel
theorem dX12_nextToken_124 : decode cX12_nextToken 124 = .ok (.getfield 168, 3) := by decide +kernel
theorem dX12_nextToken_127 : decode cX12_nextToken 127 = .ok (.invokevirtual 184, 3) := by decide +kernel
theorem dX12_nextToken_130 : decode cX12_nextToken 130 = .ok (.bipush 122, 2) := by decide +kernel
theorem dX12_nextToken_132 : decode cX12_nextToken 132 = .ok (.if_icmp .gt 56, 3) := by decide +kernel
theorem dX12_nextToken_135 : decode cX12_nextToken 135 = .ok (.aload_n 0, 1) := by decide +kernel
theorem dX12_nextToken_136 : decode cX12_nextToken 136 = .ok (.getfield 168, 3) := by decide +kernel
theorem dX12_nextToken_139 : decode cX12_nextToken 139 = .ok (.aload_n 0, 1) := by decide +kernel
theorem dX12_nextToken_140 : decode cX12_nextToken 140 = .ok (.getfield 171, 3) := by decide +kernel
theorem dX12_nextToken_143 : decode cX12_nextToken 143 = .ok (.isub, 1) := by decide +kernel
theorem dX12_nextToken_144 : decode cX12_nextToken 144 = .ok (.bipush 8, 2) := by decide +kernel
theorem dX12_nextToken_146 : decode cX12_nextToken 146 = .ok (.if_icmp .ge 29, 3) := by decide +kernel
theorem dX12_nextToken_149 : decode cX12_nextToken 149 = .ok (.aload_n 0, 1) := by decide +kernel
theorem dX12_nextToken_150 : decode cX12_nextToken 150 = .ok (.aload_n 0, 1) := by decide +kernel
theorem dX12_nextToken_151 : decode cX12_nextToken 151 = .ok (.getfield 174, 3) := by decide +kernel
theorem dX12_nextToken_154 : decode cX12_nextToken 154 = .ok (.ldc2_w 188, 3) := by decide +kernel
theorem dX12_nextToken_157 : decode cX12_nextToken 157 = .ok (.lmul, 1) := by decide +kernel
theorem dX12_nextToken_158 : decode cX12_nextToken 158 = .ok (.aload_n 0, 1) := by decide +kernel
theorem dX12_nextToken_159 : decode cX12_nextToken 159 = .ok (.aload_n 0, 1) := by decide +kernel
theorem dX12_nextToken_160 : decode cX12_nextToken 160 = .ok (.getfield 168, 3) := by decide +kernel
theorem dX12_nextToken_163 : decode cX12_nextToken 163 = .ok (.invokevirtual 184, 3) := by decide +kernel
theorem dX12_nextToken_166 : decode cX12_nextToken 166 = .ok (.i2l, 1) := by decide +kernel
theorem dX12_nextToken_167 : decode cX12_nextToken 167 = .ok (.ladd, 1) := by decide +kernel
theorem dX12_nextToken_168 : decode cX12_nextToken 168 = .ok (.ldc2_w 190, 3) := by decide +kernel
theorem dX12_nextToken_171 : decode cX12_nextToken 171 = .ok (.lsub, 1) := by decide +kernel
theorem dX12_nextToken_172 : decode cX12_nextToken 172 = .ok (.putfield 174, 3) := by decide +kernel
theorem dX12_nextToken_175 : decode cX12_nextToken 175 = .ok (.aload_n 0, 1) := by decide +kernel
theorem dX12_nextToken_176 : decode cX12_nextToken 176 = .ok (.dup, 1) := by decide +kernel
theorem dX12_nextToken_177 : decode cX12_nextToken 177 = .ok (.getfield 168, 3) := by decide +kernel
theorem dX12_nextToken_180 : decode cX12_nextToken 180 = .ok (.iconst 1, 1) := by decide +kernel
theorem dX12_nextToken_181 : decode cX12_nextToken 181 = .ok (.iadd, 1) := by decide +kernel
theorem dX12_nextToken_182 : decode cX12_nextToken 182 = .ok (.putfield 168, 3) := by decide +kernel
theorem dX12_nextToken_185 : decode cX12_nextToken 185 = .ok (.goto (-76), 3) := by decide +kernel
theorem dX12_nextToken_188 : decode cX12_nextToken 188 = .ok (.aload_n 0, 1) := by decide +kernel
theorem dX12_nextToken_189 : decode cX12_nextToken 189 = .ok (.aload_n 0, 1) := by decide +kernel
theorem dX12_nextToken_190 : decode cX12_nextToken 190 = .ok (.getfield 168, 3) := by decide +kernel
theorem dX12_nextToken_193 : decode cX12_nextToken 193 = .ok (.aload_n 0, 1) := by decide +kernel
theorem dX12_nextToken_194 : decode cX12_nextToken 194 = .ok (.getfield 171, 3) := by decide +kernel
theorem dX12_nextToken_197 : decode cX12_nextToken 197 = .ok (.isub, 1) := by decide +kernel
theorem dX12_nextToken_198 : decode cX12_nextToken 198 = .ok (.bipush 8, 2) := by decide +kernel
theorem dX12_nextToken_200 : decode cX12_nextToken 200 = .ok (.if_icmp .le 7, 3) := by decide +kernel
theorem dX12_nextToken_203 : decode cX12_nextToken 203 = .ok (.iconst 4, 1) := by decide +kernel
theorem dX12_nextToken_204 : decode cX12_nextToken 204 = .ok (.goto 4, 3) := by decide +kernel
theorem dX12_nextToken_207 : decode cX12_nextToken 207 = .ok (.iconst 1, 1) := by decide +kernel
theorem dX12_nextToken_208 : decode cX12_nextToken 208 = .ok (.putfield 181, 3) := by decide +kernel
theorem dX12_nextToken_211 : decode cX12_nextToken 211 = .ok (.return_, 1) := by decide +kernel
theorem dX12_nextToken_212 : decode cX12_nextToken 212 = .ok (.iload_n 1, 1) := by decide +kernel
theorem dX12_nextToken_213 : decode cX12_nextToken 213 = .ok (.bipush 48, 2) := by decide +kernel
theorem dX12_nextToken_215 : decode cX12_nextToken 215 = .ok (.if_icmp .lt 107, 3) := by decide +kernel
theorem dX12_nextToken_218 : decode cX12_nextToken 218 = .ok (.iload_n 1, 1) := by decide +kernel
theorem dX12_nextToken_219 : decode cX12_nextToken 219 = .ok (.bipush 57, 2) := by decide +kernel
theorem dX12_nextToken_221 : decode cX12_nextToken 221 = .ok (.if_icmp .gt 101, 3) := by decide +kernel
theorem dX12_nextToken_224 : decode cX12_nextToken 224 = .ok (.aload_n 0, 1) := by decide +kernel
theorem dX12_nextToken_225 : decode cX12_nextToken 225 = .ok (.aload_n 0, 1) := by decide +kernel
theorem dX12_nextToken_226 : decode cX12_nextToken 226 = .ok (.getfield 168, 3) := by decide +kernel
theorem dX12_nextToken_229 : decode cX12_nextToken 229 = .ok (.invokevirtual 184, 3) := by decide +kernel
theorem dX12_nextToken_232 : decode cX12_nextToken 232 = .ok (.bipush 48, 2) := by decide +kernel
theorem dX12_nextToken_234 : decode cX12_nextToken 234 = .ok (.if_icmp .lt 65, 3) := by decide +kernel
theorem dX12_nextToken_237 : decode cX12_nextToken 237 = .ok (.aload_n 0, 1) := by decide +kernel
theorem dX12_nextToken_238 : decode cX12_nextToken 238 = .ok (.aload_n 0, 1) := by decide +kernel
theorem dX12_nextToken_239 : decode cX12_nextToken 239 = .ok (.getfield 168, 3) := by decide +kernel
theorem dX12_nextToken_242 : decode cX12_nextToken 242 = .ok (.invokevirtual 184, 3) := by decide +kernel
theorem dX12_nextToken_245 : decode cX12_nextToken 245 = .ok (.bipush 57, 2) := by decide +kernel
theorem dX12_nextToken_247 : decode cX12_nextToken 247 = .ok (.if_icmp .gt 52, 3) := by decide +kernel
theorem dX12_nextToken_250 : decode cX12_nextToken 250 = .ok (.aload_n 0, 1) := by decide +kernel
theorem dX12_nextToken_251 : decode cX12_nextToken 251 = .ok (.getfield 168, 3) := by decide +kernel
theorem dX12_nextToken_254 : decode cX12_nextToken 254 = .ok (.aload_n 0, 1) := by decide +kernel
theorem dX12_nextToken_255 : decode cX12_nextToken 255 = .ok (.getfield 171, 3) := by decide +kernel
theorem dX12_nextToken_258 : decode cX12_nextToken 258 = .ok (.isub, 1) := by decide +kernel
theorem dX12_nextToken_259 : decode cX12_nextToken 259 = .ok (.iconst 4, 1) := by decide +kernel
theorem dX12_nextToken_260 : decode cX12_nextToken 260 = .ok (.if_icmp .ge 26, 3) := by decide +kernel
theorem dX12_nextToken_263 : decode cX12_nextToken 263 = .ok (.aload_n 0, 1) := by decide +kernel
theorem dX12_nextToken_264 : decode cX12_nextToken 264 = .ok (.aload_n 0, 1) := by decide +kernel
theorem dX12_nextToken_265 : decode cX12_nextToken 265 = .ok (.getfield 178, 3) := by decide +kernel
theorem dX12_nextToken_268 : decode cX12_nextToken 268 = .ok (.bipush 10, 2) := by decide +kernel
theorem dX12_nextToken_270 : decode cX12_nextToken 270 = .ok (.imul, 1) := by decide +kernel
theorem dX12_nextToken_271 : decode cX12_nextToken 271 = .ok (.aload_n 0, 1) := by decide +kernel
theorem dX12_nextToken_272 : decode cX12_nextToken 272 = .ok (.aload_n 0, 1) := by decide +kernel
theorem dX12_nextToken_273 : decode cX12_nextToken 273 = .ok (.getfield 168, 3) := by decide +kernel
theorem dX12_nextToken_276 : decode cX12_nextToken 276 = .ok (.invokevirtual 184, 3) := by decide +kernel
theorem dX12_nextToken_279 : decode cX12_nextToken 279 = .ok (.iadd, 1) := by decide +kernel
theorem dX12_nextToken_280 : decode cX12_nextToken 280 = .ok (.bipush 48, 2) := by decide +kernel
theorem dX12_nextToken_282 : decode cX12_nextToken 282 = .ok (.isub, 1) := by decide +kernel
theorem dX12_nextToken_283 : decode cX12_nextToken 283 = .ok (.putfield 178, 3) := by decide +kernel
theorem dX12_nextToken_286 : decode cX12_nextToken 286 = .ok (.aload_n 0, 1) := by decide +kernel
theorem dX12_nextToken_287 : decode cX12_nextToken 287 = .ok (.dup, 1) := by decide +kernel
theorem dX12_nextToken_288 : decode cX12_nextToken 288 = .ok (.getfield 168, 3) := by decide +kernel
theorem dX12_nextToken_291 : decode cX12_nextToken 291 = .ok (.iconst 1, 1) := by decide +kernel
theorem dX12_nextToken_292 : decode cX12_nextToken 292 = .ok (.iadd, 1) := by decide +kernel
theorem dX12_nextToken_293 : decode cX12_nextToken 293 = .ok (.putfield 168, 3) := by decide +kernel
theorem dX12_nextToken_296 : decode cX12_nextToken 296 = .ok (.goto (-72), 3) := by decide +kernel
theorem dX12_nextToken_299 : decode cX12_nextToken 299 = .ok (.aload_n 0, 1) := by decide +kernel
theorem dX12_nextToken_300 : decode cX12_nextToken 300 = .ok (.aload_n 0, 1) := by decide +kernel
theorem dX12_nextToken_301 : decode cX12_nextToken 301 = .ok (.getfield 168, 3) := by decide +kernel
theorem dX12_nextToken_304 : decode cX12_nextToken 304 = .ok (.aload_n 0, 1) := by decide +kernel
theorem dX12_nextToken_305 : decode cX12_nextToken 305 = .ok (.getfield 171, 3) := by decide +kernel
theorem dX12_nextToken_308 : decode cX12_nextToken 308 = .ok (.isub, 1) := by decide +kernel
theorem dX12_nextToken_309 : decode cX12_nextToken 309 = .ok (.iconst 4, 1) := by decide +kernel
theorem dX12_nextToken_310 : decode cX12_nextToken 310 = .ok (.if_icmp .le 7, 3) := by decide +kernel
theorem dX12_nextToken_313 : decode cX12_nextToken 313 = .ok (.iconst 4, 1) := by decide +kernel
theorem dX12_nextToken_314 : decode cX12_nextToken 314 = .ok (.goto 4, 3) := by decide +kernel
theorem dX12_nextToken_317 : decode cX12_nextToken 317 = .ok (.iconst 2, 1) := by decide +kernel
theorem dX12_nextToken_318 : decode cX12_nextToken 318 = .ok (.putfield 181, 3) := by decide +kernel
theorem dX12_nextToken_321 : decode cX12_nextToken 321 = .ok (.return_, 1) := by decide +kernel
theorem dX12_nextToken_322 : decode cX12_nextToken 322 = .ok (.aload_n 0, 1) := by decide +kernel
theorem dX12_nextToken_323 : decode cX12_nextToken 323 = .ok (.dup, 1) := by decide +kernel
theorem dX12_nextToken_324 : decode cX12_nextToken 324 = .ok (.getfield 168, 3) := by decide +kernel
theorem dX12_nextToken_327 : decode cX12_nextToken 327 = .ok (.iconst 1, 1) := by decide +kernel
theorem dX12_nextToken_328 : decode cX12_nextToken 328 = .ok (.iadd, 1) := by decide +kernel
theorem dX12_nextToken_329 : decode cX12_nextToken 329 = .ok (.putfield 168, 3) := by decide +kernel
theorem dX12_nextToken_332 : decode cX12_nextToken 332 = .ok (.aload_n 0, 1) := by decide +kernel
theorem dX12_nextToken_333 : decode cX12_nextToken 333 = .ok (.iload_n 1, 1) := by decide +kernel
theorem dX12_nextToken_334 : decode cX12_nextToken 334 = .ok (.bipush 40, 2) := by decide +kernel
theorem dX12_nextToken_336 : decode cX12_nextToken 336 = .ok (.if_icmp .lt 9, 3) := by decide +kernel
theorem dX12_nextToken_339 : decode cX12_nextToken 339 = .ok (.iload_n 1, 1) := by decide +kernel
theorem dX12_nextToken_340 : decode cX12_nextToken 340 = .ok (.bipush 43, 2) := by decide +kernel
theorem dX12_nextToken_342 : decode cX12_nextToken 342 = .ok (.if_icmp .le 21, 3) := by decide +kernel
theorem dX12_nextToken_345 : decode cX12_nextToken 345 = .ok (.iload_n 1, 1) := by decide +kernel
theorem dX12_nextToken_346 : decode cX12_nextToken 346 = .ok (.bipush 45, 2) := by decide +kernel
theorem dX12_nextToken_348 : decode cX12_nextToken 348 = .ok (.if_icmp .eq 15, 3) := by decide +kernel
theorem dX12_nextToken_351 : decode cX12_nextToken 351 = .ok (.iload_n 1, 1) := by decide +kernel
theorem dX12_nextToken_352 : decode cX12_nextToken 352 = .ok (.bipush 59, 2) := by decide +kernel
theorem dX12_nextToken_354 : decode cX12_nextToken 354 = .ok (.if_icmp .lt 13, 3) := by decide +kernel
theorem dX12_nextToken_357 : decode cX12_nextToken 357 = .ok (.iload_n 1, 1) := by decide +kernel
theorem dX12_nextToken_358 : decode cX12_nextToken 358 = .ok (.bipush 61, 2) := by decide +kernel
theorem dX12_nextToken_360 : decode cX12_nextToken 360 = .ok (.if_icmp .gt 7, 3) := by decide +kernel
theorem dX12_nextToken_363 : decode cX12_nextToken 363 = .ok (.iconst 3, 1) := by decide +kernel
theorem dX12_nextToken_364 : decode cX12_nextToken 364 = .ok (.goto 4, 3) := by decide +kernel
theorem dX12_nextToken_367 : decode cX12_nextToken 367 = .ok (.iconst 4, 1) := by decide +kernel
theorem dX12_nextToken_368 : decode cX12_nextToken 368 = .ok (.putfield 181, 3) := by decide +kernel
theorem dX12_nextToken_371 : decode cX12_nextToken 371 = .ok (.return_, 1) := by decide +kernel
theorem dX12_starts_0 : decode cX12_starts 0 = .ok (.aload_n 0, 1) := by decide +kernel
theorem dX12_starts_1 : decode cX12_starts 1 = .ok (.aload_n 0, 1) := by decide +kernel
theorem dX12_starts_2 : decode cX12_starts 2 = .ok (.getfield 162, 3) := by decide +kernel
theorem dX12_starts_5 : decode cX12_starts 5 = .ok (.putfield 165, 3) := by decide +kernel
theorem dX12_starts_8 : decode cX12_starts 8 = .ok (.aload_n 0, 1) := by decide +kernel
theorem dX12_starts_9 : decode cX12_starts 9 = .ok (.iconst 0, 1) := by decide +kernel
theorem dX12_starts_10 : decode cX12_starts 10 = .ok (.putfield 162, 3) := by decide +kernel
theorem dX12_starts_13 : decode cX12_starts 13 = .ok (.aload_n 0, 1) := by decide +kernel
theorem dX12_starts_14 : decode cX12_starts 14 = .ok (.iconst 0, 1) := by decide +kernel
theorem dX12_starts_15 : decode cX12_starts 15 = .ok (.putfield 168, 3) := by decide +kernel
theorem dX12_starts_18 : decode cX12_starts 18 = .ok (.aload_n 0, 1) := by decide +kernel
theorem dX12_starts_19 : decode cX12_starts 19 = .ok (.invokevirtual 229, 3) := by decide +kernel
theorem dX12_starts_22 : decode cX12_starts 22 = .ok (.return_, 1) := by decide +kernel
theorem dX12_readsAll_0 : decode cX12_readsAll 0 = .ok (.iconst 5, 1) := by decide +kernel
theorem dX12_readsAll_1 : decode cX12_readsAll 1 = .ok (.istore_n 1, 1) := by decide +kernel
theorem dX12_readsAll_2 : decode cX12_readsAll 2 = .ok (.iload_n 1, 1) := by decide +kernel
theorem dX12_readsAll_3 : decode cX12_readsAll 3 = .ok (.bipush 10, 2) := by decide +kernel
theorem dX12_readsAll_5 : decode cX12_readsAll 5 = .ok (.if_icmp .ge 26, 3) := by decide +kernel
theorem dX12_readsAll_8 : decode cX12_readsAll 8 = .ok (.aload_n 0, 1) := by decide +kernel
theorem dX12_readsAll_9 : decode cX12_readsAll 9 = .ok (.getfield 13, 3) := by decide +kernel
theorem dX12_readsAll_12 : decode cX12_readsAll 12 = .ok (.iload_n 1, 1) := by decide +kernel
theorem dX12_readsAll_13 : decode cX12_readsAll 13 = .ok (.iload_n 1, 1) := by decide +kernel
theorem dX12_readsAll_14 : decode cX12_readsAll 14 = .ok (.bipush 9, 2) := by decide +kernel
theorem dX12_readsAll_16 : decode cX12_readsAll 16 = .ok (.if_icmp .ne 7, 3) := by decide +kernel
theorem dX12_readsAll_19 : decode cX12_readsAll 19 = .ok (.iconst 2, 1) := by decide +kernel
theorem dX12_readsAll_20 : decode cX12_readsAll 20 = .ok (.goto 4, 3) := by decide +kernel
theorem dX12_readsAll_23 : decode cX12_readsAll 23 = .ok (.iconst 0, 1) := by decide +kernel
theorem dX12_readsAll_24 : decode cX12_readsAll 24 = .ok (.iastore, 1) := by decide +kernel
theorem dX12_readsAll_25 : decode cX12_readsAll 25 = .ok (.iinc 1 1, 3) := by decide +kernel
theorem dX12_readsAll_28 : decode cX12_readsAll 28 = .ok (.goto (-26), 3) := by decide +kernel
theorem dX12_readsAll_31 : decode cX12_readsAll 31 = .ok (.aload_n 0, 1) := by decide +kernel
theorem dX12_readsAll_32 : decode cX12_readsAll 32 = .ok (.getfield 53, 3) := by decide +kernel
theorem dX12_readsAll_35 : decode cX12_readsAll 35 = .ok (.iconst 1, 1) := by decide +kernel
theorem dX12_readsAll_36 : decode cX12_readsAll 36 = .ok (.sipush 1000, 3) := by decide +kernel
theorem dX12_readsAll_39 : decode cX12_readsAll 39 = .ok (.iastore, 1) := by decide +kernel
theorem dX12_readsAll_40 : decode cX12_readsAll 40 = .ok (.aload_n 0, 1) := by decide +kernel
theorem dX12_readsAll_41 : decode cX12_readsAll 41 = .ok (.getfield 56, 3) := by decide +kernel
theorem dX12_readsAll_44 : decode cX12_readsAll 44 = .ok (.iconst 1, 1) := by decide +kernel
theorem dX12_readsAll_45 : decode cX12_readsAll 45 = .ok (.sipush 1000, 3) := by decide +kernel
theorem dX12_readsAll_48 : decode cX12_readsAll 48 = .ok (.iastore, 1) := by decide +kernel
theorem dX12_readsAll_49 : decode cX12_readsAll 49 = .ok (.aload_n 0, 1) := by decide +kernel
theorem dX12_readsAll_50 : decode cX12_readsAll 50 = .ok (.iconst 0, 1) := by decide +kernel
theorem dX12_readsAll_51 : decode cX12_readsAll 51 = .ok (.putfield 319, 3) := by decide +kernel
theorem dX12_readsAll_54 : decode cX12_readsAll 54 = .ok (.aload_n 0, 1) := by decide +kernel
theorem dX12_readsAll_55 : decode cX12_readsAll 55 = .ok (.sipush 1000, 3) := by decide +kernel
theorem dX12_readsAll_58 : decode cX12_readsAll 58 = .ok (.putfield 195, 3) := by decide +kernel
theorem dX12_readsAll_61 : decode cX12_readsAll 61 = .ok (.aload_n 0, 1) := by decide +kernel
theorem dX12_readsAll_62 : decode cX12_readsAll 62 = .ok (.invokevirtual 341, 3) := by decide +kernel
theorem dX12_readsAll_65 : decode cX12_readsAll 65 = .ok (.aload_n 0, 1) := by decide +kernel
theorem dX12_readsAll_66 : decode cX12_readsAll 66 = .ok (.getfield 181, 3) := by decide +kernel
theorem dX12_readsAll_69 : decode cX12_readsAll 69 = .ok (.ifCond .eq 144, 3) := by decide +kernel
theorem dX12_readsAll_72 : decode cX12_readsAll 72 = .ok (.aload_n 0, 1) := by decide +kernel
theorem dX12_readsAll_73 : decode cX12_readsAll 73 = .ok (.ldc2_w 245, 3) := by decide +kernel
theorem dX12_readsAll_76 : decode cX12_readsAll 76 = .ok (.invokevirtual 214, 3) := by decide +kernel
theorem dX12_readsAll_79 : decode cX12_readsAll 79 = .ok (.ifCond .eq 10, 3) := by decide +kernel
theorem dX12_readsAll_82 : decode cX12_readsAll 82 = .ok (.aload_n 0, 1) := by decide +kernel
theorem dX12_readsAll_83 : decode cX12_readsAll 83 = .ok (.invokevirtual 344, 3) := by decide +kernel
theorem dX12_readsAll_86 : decode cX12_readsAll 86 = .ok (.goto 117, 3) := by decide +kernel
theorem dX12_readsAll_89 : decode cX12_readsAll 89 = .ok (.aload_n 0, 1) := by decide +kernel
theorem dX12_readsAll_90 : decode cX12_readsAll 90 = .ok (.ldc2_w 253, 3) := by decide +kernel
theorem dX12_readsAll_93 : decode cX12_readsAll 93 = .ok (.invokevirtual 214, 3) := by decide +kernel
theorem dX12_readsAll_96 : decode cX12_readsAll 96 = .ok (.ifCond .eq 10, 3) := by decide +kernel
theorem dX12_readsAll_99 : decode cX12_readsAll 99 = .ok (.aload_n 0, 1) := by decide +kernel
theorem dX12_readsAll_100 : decode cX12_readsAll 100 = .ok (.invokevirtual 347, 3) := by decide +kernel
theorem dX12_readsAll_103 : decode cX12_readsAll 103 = .ok (.goto 100, 3) := by decide +kernel
theorem dX12_readsAll_106 : decode cX12_readsAll 106 = .ok (.aload_n 0, 1) := by decide +kernel
theorem dX12_readsAll_107 : decode cX12_readsAll 107 = .ok (.ldc2_w 261, 3) := by decide +kernel
theorem dX12_readsAll_110 : decode cX12_readsAll 110 = .ok (.invokevirtual 214, 3) := by decide +kernel
theorem dX12_readsAll_113 : decode cX12_readsAll 113 = .ok (.ifCond .eq 10, 3) := by decide +kernel
theorem dX12_readsAll_116 : decode cX12_readsAll 116 = .ok (.aload_n 0, 1) := by decide +kernel
theorem dX12_readsAll_117 : decode cX12_readsAll 117 = .ok (.invokevirtual 350, 3) := by decide +kernel
theorem dX12_readsAll_120 : decode cX12_readsAll 120 = .ok (.goto 83, 3) := by decide +kernel
theorem dX12_readsAll_123 : decode cX12_readsAll 123 = .ok (.aload_n 0, 1) := by decide +kernel
theorem dX12_readsAll_124 : decode cX12_readsAll 124 = .ok (.ldc2_w 263, 3) := by decide +kernel
theorem dX12_readsAll_127 : decode cX12_readsAll 127 = .ok (.invokevirtual 214, 3) := by decide +kernel
theorem dX12_readsAll_130 : decode cX12_readsAll 130 = .ok (.ifCond .eq 10, 3) := by decide +kernel
theorem dX12_readsAll_133 : decode cX12_readsAll 133 = .ok (.aload_n 0, 1) := by decide +kernel
theorem dX12_readsAll_134 : decode cX12_readsAll 134 = .ok (.invokevirtual 353, 3) := by decide +kernel
theorem dX12_readsAll_137 : decode cX12_readsAll 137 = .ok (.goto 66, 3) := by decide +kernel
theorem dX12_readsAll_140 : decode cX12_readsAll 140 = .ok (.aload_n 0, 1) := by decide +kernel
theorem dX12_readsAll_141 : decode cX12_readsAll 141 = .ok (.ldc2_w 269, 3) := by decide +kernel
theorem dX12_readsAll_144 : decode cX12_readsAll 144 = .ok (.invokevirtual 214, 3) := by decide +kernel
theorem dX12_readsAll_147 : decode cX12_readsAll 147 = .ok (.ifCond .eq 14, 3) := by decide +kernel
theorem dX12_readsAll_150 : decode cX12_readsAll 150 = .ok (.aload_n 0, 1) := by decide +kernel
theorem dX12_readsAll_151 : decode cX12_readsAll 151 = .ok (.iconst 3, 1) := by decide +kernel
theorem dX12_readsAll_152 : decode cX12_readsAll 152 = .ok (.sipush 999, 3) := by decide +kernel
theorem dX12_readsAll_155 : decode cX12_readsAll 155 = .ok (.invokevirtual 356, 3) := by decide +kernel
theorem dX12_readsAll_158 : decode cX12_readsAll 158 = .ok (.goto 45, 3) := by decide +kernel
theorem dX12_readsAll_161 : decode cX12_readsAll 161 = .ok (.aload_n 0, 1) := by decide +kernel
theorem dX12_readsAll_162 : decode cX12_readsAll 162 = .ok (.ldc2_w 271, 3) := by decide +kernel
theorem dX12_readsAll_165 : decode cX12_readsAll 165 = .ok (.invokevirtual 214, 3) := by decide +kernel
theorem dX12_readsAll_168 : decode cX12_readsAll 168 = .ok (.ifCond .eq 13, 3) := by decide +kernel
theorem dX12_readsAll_171 : decode cX12_readsAll 171 = .ok (.aload_n 0, 1) := by decide +kernel
theorem dX12_readsAll_172 : decode cX12_readsAll 172 = .ok (.iconst 4, 1) := by decide +kernel
theorem dX12_readsAll_173 : decode cX12_readsAll 173 = .ok (.bipush 7, 2) := by decide +kernel
theorem dX12_readsAll_175 : decode cX12_readsAll 175 = .ok (.invokevirtual 356, 3) := by decide +kernel
theorem dX12_readsAll_178 : decode cX12_readsAll 178 = .ok (.goto 25, 3) := by decide +kernel
theorem dX12_readsAll_181 : decode cX12_readsAll 181 = .ok (.aload_n 0, 1) := by decide +kernel
theorem dX12_readsAll_182 : decode cX12_readsAll 182 = .ok (.ldc2_w 273, 3) := by decide +kernel
theorem dX12_readsAll_185 : decode cX12_readsAll 185 = .ok (.invokevirtual 214, 3) := by decide +kernel
theorem dX12_readsAll_188 : decode cX12_readsAll 188 = .ok (.ifCond .eq 10, 3) := by decide +kernel
theorem dX12_readsAll_191 : decode cX12_readsAll 191 = .ok (.aload_n 0, 1) := by decide +kernel
theorem dX12_readsAll_192 : decode cX12_readsAll 192 = .ok (.invokevirtual 359, 3) := by decide +kernel
theorem dX12_readsAll_195 : decode cX12_readsAll 195 = .ok (.goto 8, 3) := by decide +kernel
theorem dX12_readsAll_198 : decode cX12_readsAll 198 = .ok (.aload_n 0, 1) := by decide +kernel
theorem dX12_readsAll_199 : decode cX12_readsAll 199 = .ok (.iconst 1, 1) := by decide +kernel
theorem dX12_readsAll_200 : decode cX12_readsAll 200 = .ok (.invokevirtual 222, 3) := by decide +kernel
theorem dX12_readsAll_203 : decode cX12_readsAll 203 = .ok (.istore_n 1, 1) := by decide +kernel
theorem dX12_readsAll_204 : decode cX12_readsAll 204 = .ok (.iload_n 1, 1) := by decide +kernel
theorem dX12_readsAll_205 : decode cX12_readsAll 205 = .ok (.ifCond .ne 5, 3) := by decide +kernel
theorem dX12_readsAll_208 : decode cX12_readsAll 208 = .ok (.iconst 0, 1) := by decide +kernel
theorem dX12_readsAll_209 : decode cX12_readsAll 209 = .ok (.ireturn, 1) := by decide +kernel
theorem dX12_readsAll_210 : decode cX12_readsAll 210 = .ok (.goto (-145), 3) := by decide +kernel
theorem dX12_readsAll_213 : decode cX12_readsAll 213 = .ok (.iconst 1, 1) := by decide +kernel
theorem dX12_readsAll_214 : decode cX12_readsAll 214 = .ok (.ireturn, 1) := by decide +kernel
theorem dX12_moves_0 : decode cX12_moves 0 = .ok (.iconst 0, 1) := by decide +kernel
theorem dX12_moves_1 : decode cX12_moves 1 = .ok (.istore_n 2, 1) := by decide +kernel
theorem dX12_moves_2 : decode cX12_moves 2 = .ok (.iload_n 2, 1) := by decide +kernel
theorem dX12_moves_3 : decode cX12_moves 3 = .ok (.iload_n 1, 1) := by decide +kernel
theorem dX12_moves_4 : decode cX12_moves 4 = .ok (.if_icmp .ge 17, 3) := by decide +kernel
theorem dX12_moves_7 : decode cX12_moves 7 = .ok (.aload_n 0, 1) := by decide +kernel
theorem dX12_moves_8 : decode cX12_moves 8 = .ok (.iload_n 2, 1) := by decide +kernel
theorem dX12_moves_9 : decode cX12_moves 9 = .ok (.aload_n 0, 1) := by decide +kernel
theorem dX12_moves_10 : decode cX12_moves 10 = .ok (.iload_n 1, 1) := by decide +kernel
theorem dX12_moves_11 : decode cX12_moves 11 = .ok (.iload_n 2, 1) := by decide +kernel
theorem dX12_moves_12 : decode cX12_moves 12 = .ok (.iadd, 1) := by decide +kernel
theorem dX12_moves_13 : decode cX12_moves 13 = .ok (.iaload, 1) := by decide +kernel
theorem dX12_moves_14 : decode cX12_moves 14 = .ok (.iastore, 1) := by decide +kernel
theorem dX12_moves_15 : decode cX12_moves 15 = .ok (.iinc 2 1, 3) := by decide +kernel
theorem dX12_moves_18 : decode cX12_moves 18 = .ok (.goto (-16), 3) := by decide +kernel
theorem dX12_moves_21 : decode cX12_moves 21 = .ok (.return_, 1) := by decide +kernel
theorem dX12_movesNames_0 : decode cX12_movesNames 0 = .ok (.iconst 0, 1) := by decide +kernel
theorem dX12_movesNames_1 : decode cX12_movesNames 1 = .ok (.istore_n 2, 1) := by decide +kernel
theorem dX12_movesNames_2 : decode cX12_movesNames 2 = .ok (.iload_n 2, 1) := by decide +kernel
theorem dX12_movesNames_3 : decode cX12_movesNames 3 = .ok (.iload_n 1, 1) := by decide +kernel
theorem dX12_movesNames_4 : decode cX12_movesNames 4 = .ok (.if_icmp .ge 17, 3) := by decide +kernel
theorem dX12_movesNames_7 : decode cX12_movesNames 7 = .ok (.aload_n 0, 1) := by decide +kernel
theorem dX12_movesNames_8 : decode cX12_movesNames 8 = .ok (.iload_n 2, 1) := by decide +kernel
theorem dX12_movesNames_9 : decode cX12_movesNames 9 = .ok (.aload_n 0, 1) := by decide +kernel
theorem dX12_movesNames_10 : decode cX12_movesNames 10 = .ok (.iload_n 1, 1) := by decide +kernel
theorem dX12_movesNames_11 : decode cX12_movesNames 11 = .ok (.iload_n 2, 1) := by decide +kernel
theorem dX12_movesNames_12 : decode cX12_movesNames 12 = .ok (.iadd, 1) := by decide +kernel
theorem dX12_movesNames_13 : decode cX12_movesNames 13 = .ok (.laload, 1) := by decide +kernel
theorem dX12_movesNames_14 : decode cX12_movesNames 14 = .ok (.lastore, 1) := by decide +kernel
theorem dX12_movesNames_15 : decode cX12_movesNames 15 = .ok (.iinc 2 1, 3) := by decide +kernel
theorem dX12_movesNames_18 : decode cX12_movesNames 18 = .ok (.goto (-16), 3) := by decide +kernel
theorem dX12_movesNames_21 : decode cX12_movesNames 21 = .ok (.return_, 1) := by decide +kernel
theorem dX12_lays_0 : decode cX12_lays 0 = .ok (.aload_n 0, 1) := by decide +kernel
theorem dX12_lays_1 : decode cX12_lays 1 = .ok (.getfield 13, 3) := by decide +kernel
theorem dX12_lays_4 : decode cX12_lays 4 = .ok (.iconst 5, 1) := by decide +kernel
theorem dX12_lays_5 : decode cX12_lays 5 = .ok (.invokestatic 362, 3) := by decide +kernel
theorem dX12_lays_8 : decode cX12_lays 8 = .ok (.aload_n 0, 1) := by decide +kernel
theorem dX12_lays_9 : decode cX12_lays 9 = .ok (.getfield 16, 3) := by decide +kernel
theorem dX12_lays_12 : decode cX12_lays 12 = .ok (.bipush 6, 2) := by decide +kernel
theorem dX12_lays_14 : decode cX12_lays 14 = .ok (.invokestatic 366, 3) := by decide +kernel
theorem dX12_lays_17 : decode cX12_lays 17 = .ok (.aload_n 0, 1) := by decide +kernel
theorem dX12_lays_18 : decode cX12_lays 18 = .ok (.getfield 20, 3) := by decide +kernel
theorem dX12_lays_21 : decode cX12_lays 21 = .ok (.iconst 5, 1) := by decide +kernel
theorem dX12_lays_22 : decode cX12_lays 22 = .ok (.invokestatic 366, 3) := by decide +kernel
theorem dX12_lays_25 : decode cX12_lays 25 = .ok (.aload_n 0, 1) := by decide +kernel
theorem dX12_lays_26 : decode cX12_lays 26 = .ok (.getfield 23, 3) := by decide +kernel
theorem dX12_lays_29 : decode cX12_lays 29 = .ok (.bipush 6, 2) := by decide +kernel
theorem dX12_lays_31 : decode cX12_lays 31 = .ok (.invokestatic 362, 3) := by decide +kernel
theorem dX12_lays_34 : decode cX12_lays 34 = .ok (.aload_n 0, 1) := by decide +kernel
theorem dX12_lays_35 : decode cX12_lays 35 = .ok (.getfield 26, 3) := by decide +kernel
theorem dX12_lays_38 : decode cX12_lays 38 = .ok (.bipush 6, 2) := by decide +kernel
theorem dX12_lays_40 : decode cX12_lays 40 = .ok (.invokestatic 362, 3) := by decide +kernel
theorem dX12_lays_43 : decode cX12_lays 43 = .ok (.aload_n 0, 1) := by decide +kernel
theorem dX12_lays_44 : decode cX12_lays 44 = .ok (.getfield 29, 3) := by decide +kernel
theorem dX12_lays_47 : decode cX12_lays 47 = .ok (.bipush 6, 2) := by decide +kernel
theorem dX12_lays_49 : decode cX12_lays 49 = .ok (.invokestatic 362, 3) := by decide +kernel
theorem dX12_lays_52 : decode cX12_lays 52 = .ok (.aload_n 0, 1) := by decide +kernel
theorem dX12_lays_53 : decode cX12_lays 53 = .ok (.getfield 32, 3) := by decide +kernel
theorem dX12_lays_56 : decode cX12_lays 56 = .ok (.bipush 6, 2) := by decide +kernel
theorem dX12_lays_58 : decode cX12_lays 58 = .ok (.invokestatic 362, 3) := by decide +kernel
theorem dX12_lays_61 : decode cX12_lays 61 = .ok (.aload_n 0, 1) := by decide +kernel
theorem dX12_lays_62 : decode cX12_lays 62 = .ok (.getfield 35, 3) := by decide +kernel
theorem dX12_lays_65 : decode cX12_lays 65 = .ok (.bipush 6, 2) := by decide +kernel
theorem dX12_lays_67 : decode cX12_lays 67 = .ok (.invokestatic 362, 3) := by decide +kernel
theorem dX12_lays_70 : decode cX12_lays 70 = .ok (.aload_n 0, 1) := by decide +kernel
theorem dX12_lays_71 : decode cX12_lays 71 = .ok (.getfield 38, 3) := by decide +kernel
theorem dX12_lays_74 : decode cX12_lays 74 = .ok (.bipush 6, 2) := by decide +kernel
theorem dX12_lays_76 : decode cX12_lays 76 = .ok (.invokestatic 362, 3) := by decide +kernel
theorem dX12_lays_79 : decode cX12_lays 79 = .ok (.aload_n 0, 1) := by decide +kernel
theorem dX12_lays_80 : decode cX12_lays 80 = .ok (.getfield 41, 3) := by decide +kernel
theorem dX12_lays_83 : decode cX12_lays 83 = .ok (.iconst 5, 1) := by decide +kernel
theorem dX12_lays_84 : decode cX12_lays 84 = .ok (.invokestatic 362, 3) := by decide +kernel
theorem dX12_lays_87 : decode cX12_lays 87 = .ok (.aload_n 0, 1) := by decide +kernel
theorem dX12_lays_88 : decode cX12_lays 88 = .ok (.getfield 44, 3) := by decide +kernel
theorem dX12_lays_91 : decode cX12_lays 91 = .ok (.iconst 5, 1) := by decide +kernel
theorem dX12_lays_92 : decode cX12_lays 92 = .ok (.invokestatic 362, 3) := by decide +kernel
theorem dX12_lays_95 : decode cX12_lays 95 = .ok (.aload_n 0, 1) := by decide +kernel
theorem dX12_lays_96 : decode cX12_lays 96 = .ok (.getfield 47, 3) := by decide +kernel
theorem dX12_lays_99 : decode cX12_lays 99 = .ok (.iconst 5, 1) := by decide +kernel
theorem dX12_lays_100 : decode cX12_lays 100 = .ok (.invokestatic 362, 3) := by decide +kernel
theorem dX12_lays_103 : decode cX12_lays 103 = .ok (.aload_n 0, 1) := by decide +kernel
theorem dX12_lays_104 : decode cX12_lays 104 = .ok (.getfield 50, 3) := by decide +kernel
theorem dX12_lays_107 : decode cX12_lays 107 = .ok (.bipush 6, 2) := by decide +kernel
theorem dX12_lays_109 : decode cX12_lays 109 = .ok (.invokestatic 362, 3) := by decide +kernel
theorem dX12_lays_112 : decode cX12_lays 112 = .ok (.aload_n 0, 1) := by decide +kernel
theorem dX12_lays_113 : decode cX12_lays 113 = .ok (.getfield 59, 3) := by decide +kernel
theorem dX12_lays_116 : decode cX12_lays 116 = .ok (.sipush 1000, 3) := by decide +kernel
theorem dX12_lays_119 : decode cX12_lays 119 = .ok (.invokestatic 362, 3) := by decide +kernel
theorem dX12_lays_122 : decode cX12_lays 122 = .ok (.aload_n 0, 1) := by decide +kernel
theorem dX12_lays_123 : decode cX12_lays 123 = .ok (.getfield 53, 3) := by decide +kernel
theorem dX12_lays_126 : decode cX12_lays 126 = .ok (.iconst 0, 1) := by decide +kernel
theorem dX12_lays_127 : decode cX12_lays 127 = .ok (.aload_n 0, 1) := by decide +kernel
theorem dX12_lays_128 : decode cX12_lays 128 = .ok (.getfield 53, 3) := by decide +kernel
theorem dX12_lays_131 : decode cX12_lays 131 = .ok (.iconst 1, 1) := by decide +kernel
theorem dX12_lays_132 : decode cX12_lays 132 = .ok (.iaload, 1) := by decide +kernel
theorem dX12_lays_133 : decode cX12_lays 133 = .ok (.sipush 1000, 3) := by decide +kernel
theorem dX12_lays_136 : decode cX12_lays 136 = .ok (.isub, 1) := by decide +kernel
theorem dX12_lays_137 : decode cX12_lays 137 = .ok (.iastore, 1) := by decide +kernel
theorem dX12_lays_138 : decode cX12_lays 138 = .ok (.aload_n 0, 1) := by decide +kernel
theorem dX12_lays_139 : decode cX12_lays 139 = .ok (.getfield 56, 3) := by decide +kernel
theorem dX12_lays_142 : decode cX12_lays 142 = .ok (.iconst 0, 1) := by decide +kernel
theorem dX12_lays_143 : decode cX12_lays 143 = .ok (.aload_n 0, 1) := by decide +kernel
theorem dX12_lays_144 : decode cX12_lays 144 = .ok (.getfield 56, 3) := by decide +kernel
theorem dX12_lays_147 : decode cX12_lays 147 = .ok (.iconst 1, 1) := by decide +kernel
theorem dX12_lays_148 : decode cX12_lays 148 = .ok (.iaload, 1) := by decide +kernel
theorem dX12_lays_149 : decode cX12_lays 149 = .ok (.sipush 1000, 3) := by decide +kernel
theorem dX12_lays_152 : decode cX12_lays 152 = .ok (.isub, 1) := by decide +kernel
theorem dX12_lays_153 : decode cX12_lays 153 = .ok (.iastore, 1) := by decide +kernel
theorem dX12_lays_154 : decode cX12_lays 154 = .ok (.return_, 1) := by decide +kernel
theorem dX12_copies_0 : decode cX12_copies 0 = .ok (.iconst 0, 1) := by decide +kernel
theorem dX12_copies_1 : decode cX12_copies 1 = .ok (.istore 4, 2) := by decide +kernel
theorem dX12_copies_3 : decode cX12_copies 3 = .ok (.iload 4, 2) := by decide +kernel
theorem dX12_copies_5 : decode cX12_copies 5 = .ok (.bipush 21, 2) := by decide +kernel
theorem dX12_copies_7 : decode cX12_copies 7 = .ok (.if_icmp .ge 21, 3) := by decide +kernel
theorem dX12_copies_10 : decode cX12_copies 10 = .ok (.aload_n 2, 1) := by decide +kernel
theorem dX12_copies_11 : decode cX12_copies 11 = .ok (.iload_n 3, 1) := by decide +kernel
theorem dX12_copies_12 : decode cX12_copies 12 = .ok (.iload 4, 2) := by decide +kernel
theorem dX12_copies_14 : decode cX12_copies 14 = .ok (.iadd, 1) := by decide +kernel
theorem dX12_copies_15 : decode cX12_copies 15 = .ok (.aload_n 0, 1) := by decide +kernel
theorem dX12_copies_16 : decode cX12_copies 16 = .ok (.iload_n 1, 1) := by decide +kernel
theorem dX12_copies_17 : decode cX12_copies 17 = .ok (.iload 4, 2) := by decide +kernel
theorem dX12_copies_19 : decode cX12_copies 19 = .ok (.iadd, 1) := by decide +kernel
theorem dX12_copies_20 : decode cX12_copies 20 = .ok (.iaload, 1) := by decide +kernel
theorem dX12_copies_21 : decode cX12_copies 21 = .ok (.iastore, 1) := by decide +kernel
theorem dX12_copies_22 : decode cX12_copies 22 = .ok (.iinc 4 1, 3) := by decide +kernel
theorem dX12_copies_25 : decode cX12_copies 25 = .ok (.goto (-22), 3) := by decide +kernel
theorem dX12_copies_28 : decode cX12_copies 28 = .ok (.return_, 1) := by decide +kernel
theorem dX12_laysLines_0 : decode cX12_laysLines 0 = .ok (.aload_n 0, 1) := by decide +kernel
theorem dX12_laysLines_1 : decode cX12_laysLines 1 = .ok (.getfield 99, 3) := by decide +kernel
theorem dX12_laysLines_4 : decode cX12_laysLines 4 = .ok (.iload_n 2, 1) := by decide +kernel
theorem dX12_laysLines_5 : decode cX12_laysLines 5 = .ok (.aload_n 0, 1) := by decide +kernel
theorem dX12_laysLines_6 : decode cX12_laysLines 6 = .ok (.getfield 99, 3) := by decide +kernel
theorem dX12_laysLines_9 : decode cX12_laysLines 9 = .ok (.iload_n 1, 1) := by decide +kernel
theorem dX12_laysLines_10 : decode cX12_laysLines 10 = .ok (.iaload, 1) := by decide +kernel
theorem dX12_laysLines_11 : decode cX12_laysLines 11 = .ok (.iastore, 1) := by decide +kernel
theorem dX12_laysLines_12 : decode cX12_laysLines 12 = .ok (.iconst 0, 1) := by decide +kernel
theorem dX12_laysLines_13 : decode cX12_laysLines 13 = .ok (.istore_n 3, 1) := by decide +kernel
theorem dX12_laysLines_14 : decode cX12_laysLines 14 = .ok (.iload_n 3, 1) := by decide +kernel
theorem dX12_laysLines_15 : decode cX12_laysLines 15 = .ok (.bipush 40, 2) := by decide +kernel
theorem dX12_laysLines_17 : decode cX12_laysLines 17 = .ok (.if_icmp .ge 97, 3) := by decide +kernel
theorem dX12_laysLines_20 : decode cX12_laysLines 20 = .ok (.aload_n 0, 1) := by decide +kernel
theorem dX12_laysLines_21 : decode cX12_laysLines 21 = .ok (.getfield 102, 3) := by decide +kernel
theorem dX12_laysLines_24 : decode cX12_laysLines 24 = .ok (.bipush 40, 2) := by decide +kernel
theorem dX12_laysLines_26 : decode cX12_laysLines 26 = .ok (.iload_n 2, 1) := by decide +kernel
theorem dX12_laysLines_27 : decode cX12_laysLines 27 = .ok (.imul, 1) := by decide +kernel
theorem dX12_laysLines_28 : decode cX12_laysLines 28 = .ok (.iload_n 3, 1) := by decide +kernel
theorem dX12_laysLines_29 : decode cX12_laysLines 29 = .ok (.iadd, 1) := by decide +kernel
theorem dX12_laysLines_30 : decode cX12_laysLines 30 = .ok (.aload_n 0, 1) := by decide +kernel
theorem dX12_laysLines_31 : decode cX12_laysLines 31 = .ok (.getfield 102, 3) := by decide +kernel
theorem dX12_laysLines_34 : decode cX12_laysLines 34 = .ok (.bipush 40, 2) := by decide +kernel
theorem dX12_laysLines_36 : decode cX12_laysLines 36 = .ok (.iload_n 1, 1) := by decide +kernel
theorem dX12_laysLines_37 : decode cX12_laysLines 37 = .ok (.imul, 1) := by decide +kernel
theorem dX12_laysLines_38 : decode cX12_laysLines 38 = .ok (.iload_n 3, 1) := by decide +kernel
theorem dX12_laysLines_39 : decode cX12_laysLines 39 = .ok (.iadd, 1) := by decide +kernel
theorem dX12_laysLines_40 : decode cX12_laysLines 40 = .ok (.iaload, 1) := by decide +kernel
theorem dX12_laysLines_41 : decode cX12_laysLines 41 = .ok (.iastore, 1) := by decide +kernel
theorem dX12_laysLines_42 : decode cX12_laysLines 42 = .ok (.aload_n 0, 1) := by decide +kernel
theorem dX12_laysLines_43 : decode cX12_laysLines 43 = .ok (.getfield 105, 3) := by decide +kernel
theorem dX12_laysLines_46 : decode cX12_laysLines 46 = .ok (.bipush 40, 2) := by decide +kernel
theorem dX12_laysLines_48 : decode cX12_laysLines 48 = .ok (.iload_n 2, 1) := by decide +kernel
theorem dX12_laysLines_49 : decode cX12_laysLines 49 = .ok (.imul, 1) := by decide +kernel
theorem dX12_laysLines_50 : decode cX12_laysLines 50 = .ok (.iload_n 3, 1) := by decide +kernel
theorem dX12_laysLines_51 : decode cX12_laysLines 51 = .ok (.iadd, 1) := by decide +kernel
theorem dX12_laysLines_52 : decode cX12_laysLines 52 = .ok (.aload_n 0, 1) := by decide +kernel
theorem dX12_laysLines_53 : decode cX12_laysLines 53 = .ok (.getfield 105, 3) := by decide +kernel
theorem dX12_laysLines_56 : decode cX12_laysLines 56 = .ok (.bipush 40, 2) := by decide +kernel
theorem dX12_laysLines_58 : decode cX12_laysLines 58 = .ok (.iload_n 1, 1) := by decide +kernel
theorem dX12_laysLines_59 : decode cX12_laysLines 59 = .ok (.imul, 1) := by decide +kernel
theorem dX12_laysLines_60 : decode cX12_laysLines 60 = .ok (.iload_n 3, 1) := by decide +kernel
theorem dX12_laysLines_61 : decode cX12_laysLines 61 = .ok (.iadd, 1) := by decide +kernel
theorem dX12_laysLines_62 : decode cX12_laysLines 62 = .ok (.iaload, 1) := by decide +kernel
theorem dX12_laysLines_63 : decode cX12_laysLines 63 = .ok (.iastore, 1) := by decide +kernel
theorem dX12_laysLines_64 : decode cX12_laysLines 64 = .ok (.aload_n 0, 1) := by decide +kernel
theorem dX12_laysLines_65 : decode cX12_laysLines 65 = .ok (.getfield 108, 3) := by decide +kernel
theorem dX12_laysLines_68 : decode cX12_laysLines 68 = .ok (.bipush 40, 2) := by decide +kernel
theorem dX12_laysLines_70 : decode cX12_laysLines 70 = .ok (.iload_n 2, 1) := by decide +kernel
theorem dX12_laysLines_71 : decode cX12_laysLines 71 = .ok (.imul, 1) := by decide +kernel
theorem dX12_laysLines_72 : decode cX12_laysLines 72 = .ok (.iload_n 3, 1) := by decide +kernel
theorem dX12_laysLines_73 : decode cX12_laysLines 73 = .ok (.iadd, 1) := by decide +kernel
theorem dX12_laysLines_74 : decode cX12_laysLines 74 = .ok (.aload_n 0, 1) := by decide +kernel
theorem dX12_laysLines_75 : decode cX12_laysLines 75 = .ok (.getfield 108, 3) := by decide +kernel
theorem dX12_laysLines_78 : decode cX12_laysLines 78 = .ok (.bipush 40, 2) := by decide +kernel
theorem dX12_laysLines_80 : decode cX12_laysLines 80 = .ok (.iload_n 1, 1) := by decide +kernel
theorem dX12_laysLines_81 : decode cX12_laysLines 81 = .ok (.imul, 1) := by decide +kernel
theorem dX12_laysLines_82 : decode cX12_laysLines 82 = .ok (.iload_n 3, 1) := by decide +kernel
theorem dX12_laysLines_83 : decode cX12_laysLines 83 = .ok (.iadd, 1) := by decide +kernel
theorem dX12_laysLines_84 : decode cX12_laysLines 84 = .ok (.iaload, 1) := by decide +kernel
theorem dX12_laysLines_85 : decode cX12_laysLines 85 = .ok (.iastore, 1) := by decide +kernel
theorem dX12_laysLines_86 : decode cX12_laysLines 86 = .ok (.aload_n 0, 1) := by decide +kernel
theorem dX12_laysLines_87 : decode cX12_laysLines 87 = .ok (.getfield 111, 3) := by decide +kernel
theorem dX12_laysLines_90 : decode cX12_laysLines 90 = .ok (.bipush 40, 2) := by decide +kernel
theorem dX12_laysLines_92 : decode cX12_laysLines 92 = .ok (.iload_n 2, 1) := by decide +kernel
theorem dX12_laysLines_93 : decode cX12_laysLines 93 = .ok (.imul, 1) := by decide +kernel
theorem dX12_laysLines_94 : decode cX12_laysLines 94 = .ok (.iload_n 3, 1) := by decide +kernel
theorem dX12_laysLines_95 : decode cX12_laysLines 95 = .ok (.iadd, 1) := by decide +kernel
theorem dX12_laysLines_96 : decode cX12_laysLines 96 = .ok (.aload_n 0, 1) := by decide +kernel
theorem dX12_laysLines_97 : decode cX12_laysLines 97 = .ok (.getfield 111, 3) := by decide +kernel
theorem dX12_laysLines_100 : decode cX12_laysLines 100 = .ok (.bipush 40, 2) := by decide +kernel
theorem dX12_laysLines_102 : decode cX12_laysLines 102 = .ok (.iload_n 1, 1) := by decide +kernel
theorem dX12_laysLines_103 : decode cX12_laysLines 103 = .ok (.imul, 1) := by decide +kernel
theorem dX12_laysLines_104 : decode cX12_laysLines 104 = .ok (.iload_n 3, 1) := by decide +kernel
theorem dX12_laysLines_105 : decode cX12_laysLines 105 = .ok (.iadd, 1) := by decide +kernel
theorem dX12_laysLines_106 : decode cX12_laysLines 106 = .ok (.baload, 1) := by decide +kernel
theorem dX12_laysLines_107 : decode cX12_laysLines 107 = .ok (.bastore, 1) := by decide +kernel
theorem dX12_laysLines_108 : decode cX12_laysLines 108 = .ok (.iinc 3 1, 3) := by decide +kernel
theorem dX12_laysLines_111 : decode cX12_laysLines 111 = .ok (.goto (-97), 3) := by decide +kernel
theorem dX12_laysLines_114 : decode cX12_laysLines 114 = .ok (.return_, 1) := by decide +kernel
theorem dX12_laysTold_0 : decode cX12_laysTold 0 = .ok (.iconst 0, 1) := by decide +kernel
theorem dX12_laysTold_1 : decode cX12_laysTold 1 = .ok (.istore_n 3, 1) := by decide +kernel
theorem dX12_laysTold_2 : decode cX12_laysTold 2 = .ok (.iload_n 3, 1) := by decide +kernel
theorem dX12_laysTold_3 : decode cX12_laysTold 3 = .ok (.bipush 6, 2) := by decide +kernel
theorem dX12_laysTold_5 : decode cX12_laysTold 5 = .ok (.if_icmp .ge 31, 3) := by decide +kernel
theorem dX12_laysTold_8 : decode cX12_laysTold 8 = .ok (.aload_n 0, 1) := by decide +kernel
theorem dX12_laysTold_9 : decode cX12_laysTold 9 = .ok (.getfield 114, 3) := by decide +kernel
theorem dX12_laysTold_12 : decode cX12_laysTold 12 = .ok (.bipush 6, 2) := by decide +kernel
theorem dX12_laysTold_14 : decode cX12_laysTold 14 = .ok (.iload_n 2, 1) := by decide +kernel
theorem dX12_laysTold_15 : decode cX12_laysTold 15 = .ok (.imul, 1) := by decide +kernel
theorem dX12_laysTold_16 : decode cX12_laysTold 16 = .ok (.iload_n 3, 1) := by decide +kernel
theorem dX12_laysTold_17 : decode cX12_laysTold 17 = .ok (.iadd, 1) := by decide +kernel
theorem dX12_laysTold_18 : decode cX12_laysTold 18 = .ok (.aload_n 0, 1) := by decide +kernel
theorem dX12_laysTold_19 : decode cX12_laysTold 19 = .ok (.getfield 114, 3) := by decide +kernel
theorem dX12_laysTold_22 : decode cX12_laysTold 22 = .ok (.bipush 6, 2) := by decide +kernel
theorem dX12_laysTold_24 : decode cX12_laysTold 24 = .ok (.iload_n 1, 1) := by decide +kernel
theorem dX12_laysTold_25 : decode cX12_laysTold 25 = .ok (.imul, 1) := by decide +kernel
theorem dX12_laysTold_26 : decode cX12_laysTold 26 = .ok (.iload_n 3, 1) := by decide +kernel
theorem dX12_laysTold_27 : decode cX12_laysTold 27 = .ok (.iadd, 1) := by decide +kernel
theorem dX12_laysTold_28 : decode cX12_laysTold 28 = .ok (.iaload, 1) := by decide +kernel
theorem dX12_laysTold_29 : decode cX12_laysTold 29 = .ok (.iastore, 1) := by decide +kernel
theorem dX12_laysTold_30 : decode cX12_laysTold 30 = .ok (.iinc 3 1, 3) := by decide +kernel
theorem dX12_laysTold_33 : decode cX12_laysTold 33 = .ok (.goto (-31), 3) := by decide +kernel
theorem dX12_laysTold_36 : decode cX12_laysTold 36 = .ok (.return_, 1) := by decide +kernel
theorem dX12_fresh_0 : decode cX12_fresh 0 = .ok (.iconst 0, 1) := by decide +kernel
theorem dX12_fresh_1 : decode cX12_fresh 1 = .ok (.istore_n 1, 1) := by decide +kernel
theorem dX12_fresh_2 : decode cX12_fresh 2 = .ok (.iload_n 1, 1) := by decide +kernel
theorem dX12_fresh_3 : decode cX12_fresh 3 = .ok (.bipush 21, 2) := by decide +kernel
theorem dX12_fresh_5 : decode cX12_fresh 5 = .ok (.if_icmp .ge 16, 3) := by decide +kernel
theorem dX12_fresh_8 : decode cX12_fresh 8 = .ok (.aload_n 0, 1) := by decide +kernel
theorem dX12_fresh_9 : decode cX12_fresh 9 = .ok (.getfield 117, 3) := by decide +kernel
theorem dX12_fresh_12 : decode cX12_fresh 12 = .ok (.iload_n 1, 1) := by decide +kernel
theorem dX12_fresh_13 : decode cX12_fresh 13 = .ok (.iconst 0, 1) := by decide +kernel
theorem dX12_fresh_14 : decode cX12_fresh 14 = .ok (.iastore, 1) := by decide +kernel
theorem dX12_fresh_15 : decode cX12_fresh 15 = .ok (.iinc 1 1, 3) := by decide +kernel
theorem dX12_fresh_18 : decode cX12_fresh 18 = .ok (.goto (-16), 3) := by decide +kernel
theorem dX12_fresh_21 : decode cX12_fresh 21 = .ok (.aload_n 0, 1) := by decide +kernel
theorem dX12_fresh_22 : decode cX12_fresh 22 = .ok (.getfield 117, 3) := by decide +kernel
theorem dX12_fresh_25 : decode cX12_fresh 25 = .ok (.iconst 1, 1) := by decide +kernel
theorem dX12_fresh_26 : decode cX12_fresh 26 = .ok (.aload_n 0, 1) := by decide +kernel
theorem dX12_fresh_27 : decode cX12_fresh 27 = .ok (.getfield 13, 3) := by decide +kernel
theorem dX12_fresh_30 : decode cX12_fresh 30 = .ok (.iconst 3, 1) := by decide +kernel
theorem dX12_fresh_31 : decode cX12_fresh 31 = .ok (.iaload, 1) := by decide +kernel
theorem dX12_fresh_32 : decode cX12_fresh 32 = .ok (.iastore, 1) := by decide +kernel
theorem dX12_fresh_33 : decode cX12_fresh 33 = .ok (.iconst 0, 1) := by decide +kernel
theorem dX12_fresh_34 : decode cX12_fresh 34 = .ok (.istore_n 1, 1) := by decide +kernel
theorem dX12_fresh_35 : decode cX12_fresh 35 = .ok (.iload_n 1, 1) := by decide +kernel
theorem dX12_fresh_36 : decode cX12_fresh 36 = .ok (.bipush 6, 2) := by decide +kernel
theorem dX12_fresh_38 : decode cX12_fresh 38 = .ok (.if_icmp .ge 43, 3) := by decide +kernel
theorem dX12_fresh_41 : decode cX12_fresh 41 = .ok (.aload_n 0, 1) := by decide +kernel
theorem dX12_fresh_42 : decode cX12_fresh 42 = .ok (.getfield 117, 3) := by decide +kernel
theorem dX12_fresh_45 : decode cX12_fresh 45 = .ok (.iconst 3, 1) := by decide +kernel
theorem dX12_fresh_46 : decode cX12_fresh 46 = .ok (.iload_n 1, 1) := by decide +kernel
theorem dX12_fresh_47 : decode cX12_fresh 47 = .ok (.iadd, 1) := by decide +kernel
theorem dX12_fresh_48 : decode cX12_fresh 48 = .ok (.iload_n 1, 1) := by decide +kernel
theorem dX12_fresh_49 : decode cX12_fresh 49 = .ok (.aload_n 0, 1) := by decide +kernel
theorem dX12_fresh_50 : decode cX12_fresh 50 = .ok (.getfield 13, 3) := by decide +kernel
theorem dX12_fresh_53 : decode cX12_fresh 53 = .ok (.iconst 0, 1) := by decide +kernel
theorem dX12_fresh_54 : decode cX12_fresh 54 = .ok (.iaload, 1) := by decide +kernel
theorem dX12_fresh_55 : decode cX12_fresh 55 = .ok (.if_icmp .ge 8, 3) := by decide +kernel
theorem dX12_fresh_58 : decode cX12_fresh 58 = .ok (.bipush 50, 2) := by decide +kernel
theorem dX12_fresh_60 : decode cX12_fresh 60 = .ok (.goto 4, 3) := by decide +kernel
theorem dX12_fresh_63 : decode cX12_fresh 63 = .ok (.iconst 0, 1) := by decide +kernel
theorem dX12_fresh_64 : decode cX12_fresh 64 = .ok (.iastore, 1) := by decide +kernel
theorem dX12_fresh_65 : decode cX12_fresh 65 = .ok (.aload_n 0, 1) := by decide +kernel
theorem dX12_fresh_66 : decode cX12_fresh 66 = .ok (.getfield 117, 3) := by decide +kernel
theorem dX12_fresh_69 : decode cX12_fresh 69 = .ok (.bipush 9, 2) := by decide +kernel
theorem dX12_fresh_71 : decode cX12_fresh 71 = .ok (.iload_n 1, 1) := by decide +kernel
theorem dX12_fresh_72 : decode cX12_fresh 72 = .ok (.iadd, 1) := by decide +kernel
theorem dX12_fresh_73 : decode cX12_fresh 73 = .ok (.iconst (-1), 1) := by decide +kernel
theorem dX12_fresh_74 : decode cX12_fresh 74 = .ok (.iastore, 1) := by decide +kernel
theorem dX12_fresh_75 : decode cX12_fresh 75 = .ok (.iinc 1 1, 3) := by decide +kernel
theorem dX12_fresh_78 : decode cX12_fresh 78 = .ok (.goto (-43), 3) := by decide +kernel
theorem dX12_fresh_81 : decode cX12_fresh 81 = .ok (.return_, 1) := by decide +kernel
theorem dX12_forgets_0 : decode cX12_forgets 0 = .ok (.iconst 0, 1) := by decide +kernel
theorem dX12_forgets_1 : decode cX12_forgets 1 = .ok (.istore_n 1, 1) := by decide +kernel
theorem dX12_forgets_2 : decode cX12_forgets 2 = .ok (.iload_n 1, 1) := by decide +kernel
theorem dX12_forgets_3 : decode cX12_forgets 3 = .ok (.bipush 6, 2) := by decide +kernel
theorem dX12_forgets_5 : decode cX12_forgets 5 = .ok (.if_icmp .ge 16, 3) := by decide +kernel
theorem dX12_forgets_8 : decode cX12_forgets 8 = .ok (.aload_n 0, 1) := by decide +kernel
theorem dX12_forgets_9 : decode cX12_forgets 9 = .ok (.getfield 114, 3) := by decide +kernel
theorem dX12_forgets_12 : decode cX12_forgets 12 = .ok (.iload_n 1, 1) := by decide +kernel
theorem dX12_forgets_13 : decode cX12_forgets 13 = .ok (.iconst (-1), 1) := by decide +kernel
theorem dX12_forgets_14 : decode cX12_forgets 14 = .ok (.iastore, 1) := by decide +kernel
theorem dX12_forgets_15 : decode cX12_forgets 15 = .ok (.iinc 1 1, 3) := by decide +kernel
theorem dX12_forgets_18 : decode cX12_forgets 18 = .ok (.goto (-16), 3) := by decide +kernel
theorem dX12_forgets_21 : decode cX12_forgets 21 = .ok (.return_, 1) := by decide +kernel
theorem dX12_commune_0 : decode cX12_commune 0 = .ok (.aload_n 0, 1) := by decide +kernel
theorem dX12_commune_1 : decode cX12_commune 1 = .ok (.iconst 0, 1) := by decide +kernel
theorem dX12_commune_2 : decode cX12_commune 2 = .ok (.putfield 156, 3) := by decide +kernel
theorem dX12_commune_5 : decode cX12_commune 5 = .ok (.aload_n 0, 1) := by decide +kernel
theorem dX12_commune_6 : decode cX12_commune 6 = .ok (.invokevirtual 376, 3) := by decide +kernel
theorem dX12_commune_9 : decode cX12_commune 9 = .ok (.ifCond .ne 8, 3) := by decide +kernel
theorem dX12_commune_12 : decode cX12_commune 12 = .ok (.aload_n 0, 1) := by decide +kernel
theorem dX12_commune_13 : decode cX12_commune 13 = .ok (.getfield 192, 3) := by decide +kernel
theorem dX12_commune_16 : decode cX12_commune 16 = .ok (.ireturn, 1) := by decide +kernel
theorem dX12_commune_17 : decode cX12_commune 17 = .ok (.aload_n 0, 1) := by decide +kernel
theorem dX12_commune_18 : decode cX12_commune 18 = .ok (.invokevirtual 379, 3) := by decide +kernel
theorem dX12_commune_21 : decode cX12_commune 21 = .ok (.aload_n 0, 1) := by decide +kernel
theorem dX12_commune_22 : decode cX12_commune 22 = .ok (.invokevirtual 153, 3) := by decide +kernel
theorem dX12_commune_25 : decode cX12_commune 25 = .ok (.aload_n 0, 1) := by decide +kernel
theorem dX12_commune_26 : decode cX12_commune 26 = .ok (.invokevirtual 382, 3) := by decide +kernel
theorem dX12_commune_29 : decode cX12_commune 29 = .ok (.aload_n 0, 1) := by decide +kernel
theorem dX12_commune_30 : decode cX12_commune 30 = .ok (.getfield 99, 3) := by decide +kernel
theorem dX12_commune_33 : decode cX12_commune 33 = .ok (.iconst 0, 1) := by decide +kernel
theorem dX12_commune_34 : decode cX12_commune 34 = .ok (.iconst 0, 1) := by decide +kernel
theorem dX12_commune_35 : decode cX12_commune 35 = .ok (.iastore, 1) := by decide +kernel
theorem dX12_commune_36 : decode cX12_commune 36 = .ok (.aload_n 0, 1) := by decide +kernel
theorem dX12_commune_37 : decode cX12_commune 37 = .ok (.iconst 0, 1) := by decide +kernel
theorem dX12_commune_38 : decode cX12_commune 38 = .ok (.putfield 385, 3) := by decide +kernel
theorem dX12_commune_41 : decode cX12_commune 41 = .ok (.iconst 0, 1) := by decide +kernel
theorem dX12_commune_42 : decode cX12_commune 42 = .ok (.istore_n 1, 1) := by decide +kernel
theorem dX12_commune_43 : decode cX12_commune 43 = .ok (.iload_n 1, 1) := by decide +kernel
theorem dX12_commune_44 : decode cX12_commune 44 = .ok (.iconst 4, 1) := by decide +kernel
theorem dX12_commune_45 : decode cX12_commune 45 = .ok (.if_icmp .ge 16, 3) := by decide +kernel
theorem dX12_commune_48 : decode cX12_commune 48 = .ok (.aload_n 0, 1) := by decide +kernel
theorem dX12_commune_49 : decode cX12_commune 49 = .ok (.getfield 132, 3) := by decide +kernel
theorem dX12_commune_52 : decode cX12_commune 52 = .ok (.iload_n 1, 1) := by decide +kernel
theorem dX12_commune_53 : decode cX12_commune 53 = .ok (.iconst 0, 1) := by decide +kernel
theorem dX12_commune_54 : decode cX12_commune 54 = .ok (.bastore, 1) := by decide +kernel
theorem dX12_commune_55 : decode cX12_commune 55 = .ok (.iinc 1 1, 3) := by decide +kernel
theorem dX12_commune_58 : decode cX12_commune 58 = .ok (.goto (-15), 3) := by decide +kernel
theorem dX12_commune_61 : decode cX12_commune 61 = .ok (.iconst 0, 1) := by decide +kernel
theorem dX12_commune_62 : decode cX12_commune 62 = .ok (.ireturn, 1) := by decide +kernel
theorem dX12_weeks_0 : decode cX12_weeks 0 = .ok (.aload_n 0, 1) := by decide +kernel
theorem dX12_weeks_1 : decode cX12_weeks 1 = .ok (.iconst 0, 1) := by decide +kernel
theorem dX12_weeks_2 : decode cX12_weeks 2 = .ok (.putfield 156, 3) := by decide +kernel
theorem dX12_weeks_5 : decode cX12_weeks 5 = .ok (.aload_n 0, 1) := by decide +kernel
theorem dX12_weeks_6 : decode cX12_weeks 6 = .ok (.getfield 99, 3) := by decide +kernel
theorem dX12_weeks_9 : decode cX12_weeks 9 = .ok (.iconst 5, 1) := by decide +kernel
theorem dX12_weeks_10 : decode cX12_weeks 10 = .ok (.iconst 0, 1) := by decide +kernel
theorem dX12_weeks_11 : decode cX12_weeks 11 = .ok (.iastore, 1) := by decide +kernel
theorem dX12_weeks_12 : decode cX12_weeks 12 = .ok (.aload_n 0, 1) := by decide +kernel
theorem dX12_weeks_13 : decode cX12_weeks 13 = .ok (.invokevirtual 341, 3) := by decide +kernel
theorem dX12_weeks_16 : decode cX12_weeks 16 = .ok (.aload_n 0, 1) := by decide +kernel
theorem dX12_weeks_17 : decode cX12_weeks 17 = .ok (.getfield 181, 3) := by decide +kernel
theorem dX12_weeks_20 : decode cX12_weeks 20 = .ok (.ifCond .eq 15, 3) := by decide +kernel
theorem dX12_weeks_23 : decode cX12_weeks 23 = .ok (.aload_n 0, 1) := by decide +kernel
theorem dX12_weeks_24 : decode cX12_weeks 24 = .ok (.invokevirtual 388, 3) := by decide +kernel
theorem dX12_weeks_27 : decode cX12_weeks 27 = .ok (.ifCond .ne (-11), 3) := by decide +kernel
theorem dX12_weeks_30 : decode cX12_weeks 30 = .ok (.aload_n 0, 1) := by decide +kernel
theorem dX12_weeks_31 : decode cX12_weeks 31 = .ok (.getfield 192, 3) := by decide +kernel
theorem dX12_weeks_34 : decode cX12_weeks 34 = .ok (.ireturn, 1) := by decide +kernel
theorem dX12_weeks_35 : decode cX12_weeks 35 = .ok (.aload_n 0, 1) := by decide +kernel
theorem dX12_weeks_36 : decode cX12_weeks 36 = .ok (.iconst 5, 1) := by decide +kernel
theorem dX12_weeks_37 : decode cX12_weeks 37 = .ok (.iconst 0, 1) := by decide +kernel
theorem dX12_weeks_38 : decode cX12_weeks 38 = .ok (.invokevirtual 391, 3) := by decide +kernel
theorem dX12_weeks_41 : decode cX12_weeks 41 = .ok (.iconst 0, 1) := by decide +kernel
theorem dX12_weeks_42 : decode cX12_weeks 42 = .ok (.ireturn, 1) := by decide +kernel
theorem dX12_isPerson_0 : decode cX12_isPerson 0 = .ok (.iload_n 1, 1) := by decide +kernel
theorem dX12_isPerson_1 : decode cX12_isPerson 1 = .ok (.ifCond .lt 17, 3) := by decide +kernel
theorem dX12_isPerson_4 : decode cX12_isPerson 4 = .ok (.iload_n 1, 1) := by decide +kernel
theorem dX12_isPerson_5 : decode cX12_isPerson 5 = .ok (.aload_n 0, 1) := by decide +kernel
theorem dX12_isPerson_6 : decode cX12_isPerson 6 = .ok (.getfield 13, 3) := by decide +kernel
theorem dX12_isPerson_9 : decode cX12_isPerson 9 = .ok (.iconst 0, 1) := by decide +kernel
theorem dX12_isPerson_10 : decode cX12_isPerson 10 = .ok (.iaload, 1) := by decide +kernel
theorem dX12_isPerson_11 : decode cX12_isPerson 11 = .ok (.if_icmp .ge 7, 3) := by decide +kernel
theorem dX12_isPerson_14 : decode cX12_isPerson 14 = .ok (.iconst 1, 1) := by decide +kernel
theorem dX12_isPerson_15 : decode cX12_isPerson 15 = .ok (.goto 4, 3) := by decide +kernel
theorem dX12_isPerson_18 : decode cX12_isPerson 18 = .ok (.iconst 0, 1) := by decide +kernel
theorem dX12_isPerson_19 : decode cX12_isPerson 19 = .ok (.ireturn, 1) := by decide +kernel
theorem dX12_isDish_0 : decode cX12_isDish 0 = .ok (.iload_n 1, 1) := by decide +kernel
theorem dX12_isDish_1 : decode cX12_isDish 1 = .ok (.ifCond .lt 17, 3) := by decide +kernel
theorem dX12_isDish_4 : decode cX12_isDish 4 = .ok (.iload_n 1, 1) := by decide +kernel
theorem dX12_isDish_5 : decode cX12_isDish 5 = .ok (.aload_n 0, 1) := by decide +kernel
theorem dX12_isDish_6 : decode cX12_isDish 6 = .ok (.getfield 13, 3) := by decide +kernel
theorem dX12_isDish_9 : decode cX12_isDish 9 = .ok (.iconst 1, 1) := by decide +kernel
theorem dX12_isDish_10 : decode cX12_isDish 10 = .ok (.iaload, 1) := by decide +kernel
theorem dX12_isDish_11 : decode cX12_isDish 11 = .ok (.if_icmp .ge 7, 3) := by decide +kernel
theorem dX12_isDish_14 : decode cX12_isDish 14 = .ok (.iconst 1, 1) := by decide +kernel
theorem dX12_isDish_15 : decode cX12_isDish 15 = .ok (.goto 4, 3) := by decide +kernel
theorem dX12_isDish_18 : decode cX12_isDish 18 = .ok (.iconst 0, 1) := by decide +kernel
theorem dX12_isDish_19 : decode cX12_isDish 19 = .ok (.ireturn, 1) := by decide +kernel
theorem dX12_sitting_0 : decode cX12_sitting 0 = .ok (.iconst 0, 1) := by decide +kernel
theorem dX12_sitting_1 : decode cX12_sitting 1 = .ok (.istore_n 1, 1) := by decide +kernel
theorem dX12_sitting_2 : decode cX12_sitting 2 = .ok (.iconst 0, 1) := by decide +kernel
theorem dX12_sitting_3 : decode cX12_sitting 3 = .ok (.istore_n 2, 1) := by decide +kernel
theorem dX12_sitting_4 : decode cX12_sitting 4 = .ok (.iload_n 2, 1) := by decide +kernel
theorem dX12_sitting_5 : decode cX12_sitting 5 = .ok (.aload_n 0, 1) := by decide +kernel
theorem dX12_sitting_6 : decode cX12_sitting 6 = .ok (.getfield 13, 3) := by decide +kernel
theorem dX12_sitting_9 : decode cX12_sitting 9 = .ok (.iconst 0, 1) := by decide +kernel
theorem dX12_sitting_10 : decode cX12_sitting 10 = .ok (.iaload, 1) := by decide +kernel
theorem dX12_sitting_11 : decode cX12_sitting 11 = .ok (.if_icmp .ge 27, 3) := by decide +kernel
theorem dX12_sitting_14 : decode cX12_sitting 14 = .ok (.iload_n 1, 1) := by decide +kernel
theorem dX12_sitting_15 : decode cX12_sitting 15 = .ok (.aload_n 0, 1) := by decide +kernel
theorem dX12_sitting_16 : decode cX12_sitting 16 = .ok (.iload_n 2, 1) := by decide +kernel
theorem dX12_sitting_17 : decode cX12_sitting 17 = .ok (.invokevirtual 395, 3) := by decide +kernel
theorem dX12_sitting_20 : decode cX12_sitting 20 = .ok (.ifCond .eq 7, 3) := by decide +kernel
theorem dX12_sitting_23 : decode cX12_sitting 23 = .ok (.iconst 0, 1) := by decide +kernel
theorem dX12_sitting_24 : decode cX12_sitting 24 = .ok (.goto 6, 3) := by decide +kernel
theorem dX12_sitting_27 : decode cX12_sitting 27 = .ok (.iconst 1, 1) := by decide +kernel
theorem dX12_sitting_28 : decode cX12_sitting 28 = .ok (.iload_n 2, 1) := by decide +kernel
theorem dX12_sitting_29 : decode cX12_sitting 29 = .ok (.ishl, 1) := by decide +kernel
theorem dX12_sitting_30 : decode cX12_sitting 30 = .ok (.ior, 1) := by decide +kernel
theorem dX12_sitting_31 : decode cX12_sitting 31 = .ok (.istore_n 1, 1) := by decide +kernel
theorem dX12_sitting_32 : decode cX12_sitting 32 = .ok (.iinc 2 1, 3) := by decide +kernel
theorem dX12_sitting_35 : decode cX12_sitting 35 = .ok (.goto (-31), 3) := by decide +kernel
theorem dX12_sitting_38 : decode cX12_sitting 38 = .ok (.iload_n 1, 1) := by decide +kernel
theorem dX12_sitting_39 : decode cX12_sitting 39 = .ok (.ireturn, 1) := by decide +kernel
theorem dX12_ends_0 : decode cX12_ends 0 = .ok (.aload_n 0, 1) := by decide +kernel
theorem dX12_ends_1 : decode cX12_ends 1 = .ok (.iconst 0, 1) := by decide +kernel
theorem dX12_ends_2 : decode cX12_ends 2 = .ok (.putfield 424, 3) := by decide +kernel
theorem dX12_ends_5 : decode cX12_ends 5 = .ok (.iconst 0, 1) := by decide +kernel
theorem dX12_ends_6 : decode cX12_ends 6 = .ok (.istore_n 1, 1) := by decide +kernel
theorem dX12_ends_7 : decode cX12_ends 7 = .ok (.iload_n 1, 1) := by decide +kernel
theorem dX12_ends_8 : decode cX12_ends 8 = .ok (.aload_n 0, 1) := by decide +kernel
theorem dX12_ends_9 : decode cX12_ends 9 = .ok (.getfield 13, 3) := by decide +kernel
theorem dX12_ends_12 : decode cX12_ends 12 = .ok (.iconst 0, 1) := by decide +kernel
theorem dX12_ends_13 : decode cX12_ends 13 = .ok (.iaload, 1) := by decide +kernel
theorem dX12_ends_14 : decode cX12_ends 14 = .ok (.if_icmp .ge 104, 3) := by decide +kernel
theorem dX12_ends_17 : decode cX12_ends 17 = .ok (.aload_n 0, 1) := by decide +kernel
theorem dX12_ends_18 : decode cX12_ends 18 = .ok (.getfield 117, 3) := by decide +kernel
theorem dX12_ends_21 : decode cX12_ends 21 = .ok (.iconst 3, 1) := by decide +kernel
theorem dX12_ends_22 : decode cX12_ends 22 = .ok (.iload_n 1, 1) := by decide +kernel
theorem dX12_ends_23 : decode cX12_ends 23 = .ok (.iadd, 1) := by decide +kernel
theorem dX12_ends_24 : decode cX12_ends 24 = .ok (.iaload, 1) := by decide +kernel
theorem dX12_ends_25 : decode cX12_ends 25 = .ok (.aload_n 0, 1) := by decide +kernel
theorem dX12_ends_26 : decode cX12_ends 26 = .ok (.getfield 26, 3) := by decide +kernel
theorem dX12_ends_29 : decode cX12_ends 29 = .ok (.iload_n 1, 1) := by decide +kernel
theorem dX12_ends_30 : decode cX12_ends 30 = .ok (.iaload, 1) := by decide +kernel
theorem dX12_ends_31 : decode cX12_ends 31 = .ok (.if_icmp .ge 7, 3) := by decide +kernel
theorem dX12_ends_34 : decode cX12_ends 34 = .ok (.iconst 1, 1) := by decide +kernel
theorem dX12_ends_35 : decode cX12_ends 35 = .ok (.goto 4, 3) := by decide +kernel
theorem dX12_ends_38 : decode cX12_ends 38 = .ok (.iconst 0, 1) := by decide +kernel
theorem dX12_ends_39 : decode cX12_ends 39 = .ok (.istore_n 2, 1) := by decide +kernel
theorem dX12_ends_40 : decode cX12_ends 40 = .ok (.aload_n 0, 1) := by decide +kernel
theorem dX12_ends_41 : decode cX12_ends 41 = .ok (.getfield 117, 3) := by decide +kernel
theorem dX12_ends_44 : decode cX12_ends 44 = .ok (.iconst 3, 1) := by decide +kernel
theorem dX12_ends_45 : decode cX12_ends 45 = .ok (.iload_n 1, 1) := by decide +kernel
theorem dX12_ends_46 : decode cX12_ends 46 = .ok (.iadd, 1) := by decide +kernel
theorem dX12_ends_47 : decode cX12_ends 47 = .ok (.iload_n 2, 1) := by decide +kernel
theorem dX12_ends_48 : decode cX12_ends 48 = .ok (.ifCond .eq 7, 3) := by decide +kernel
theorem dX12_ends_51 : decode cX12_ends 51 = .ok (.iconst 0, 1) := by decide +kernel
theorem dX12_ends_52 : decode cX12_ends 52 = .ok (.goto 18, 3) := by decide +kernel
theorem dX12_ends_55 : decode cX12_ends 55 = .ok (.aload_n 0, 1) := by decide +kernel
theorem dX12_ends_56 : decode cX12_ends 56 = .ok (.getfield 117, 3) := by decide +kernel
theorem dX12_ends_59 : decode cX12_ends 59 = .ok (.iconst 3, 1) := by decide +kernel
theorem dX12_ends_60 : decode cX12_ends 60 = .ok (.iload_n 1, 1) := by decide +kernel
theorem dX12_ends_61 : decode cX12_ends 61 = .ok (.iadd, 1) := by decide +kernel
theorem dX12_ends_62 : decode cX12_ends 62 = .ok (.iaload, 1) := by decide +kernel
theorem dX12_ends_63 : decode cX12_ends 63 = .ok (.aload_n 0, 1) := by decide +kernel
theorem dX12_ends_64 : decode cX12_ends 64 = .ok (.getfield 26, 3) := by decide +kernel
theorem dX12_ends_67 : decode cX12_ends 67 = .ok (.iload_n 1, 1) := by decide +kernel
theorem dX12_ends_68 : decode cX12_ends 68 = .ok (.iaload, 1) := by decide +kernel
theorem dX12_ends_69 : decode cX12_ends 69 = .ok (.isub, 1) := by decide +kernel
theorem dX12_ends_70 : decode cX12_ends 70 = .ok (.iastore, 1) := by decide +kernel
theorem dX12_ends_71 : decode cX12_ends 71 = .ok (.aload_n 0, 1) := by decide +kernel
theorem dX12_ends_72 : decode cX12_ends 72 = .ok (.getfield 117, 3) := by decide +kernel
theorem dX12_ends_75 : decode cX12_ends 75 = .ok (.bipush 15, 2) := by decide +kernel
theorem dX12_ends_77 : decode cX12_ends 77 = .ok (.iload_n 1, 1) := by decide +kernel
theorem dX12_ends_78 : decode cX12_ends 78 = .ok (.iadd, 1) := by decide +kernel
theorem dX12_ends_79 : decode cX12_ends 79 = .ok (.dup2, 1) := by decide +kernel
theorem dX12_ends_80 : decode cX12_ends 80 = .ok (.iaload, 1) := by decide +kernel
theorem dX12_ends_81 : decode cX12_ends 81 = .ok (.iload_n 2, 1) := by decide +kernel
theorem dX12_ends_82 : decode cX12_ends 82 = .ok (.ifCond .eq 7, 3) := by decide +kernel
theorem dX12_ends_85 : decode cX12_ends 85 = .ok (.iconst 1, 1) := by decide +kernel
theorem dX12_ends_86 : decode cX12_ends 86 = .ok (.goto 4, 3) := by decide +kernel
theorem dX12_ends_89 : decode cX12_ends 89 = .ok (.iconst 0, 1) := by decide +kernel
theorem dX12_ends_90 : decode cX12_ends 90 = .ok (.iadd, 1) := by decide +kernel
theorem dX12_ends_91 : decode cX12_ends 91 = .ok (.iastore, 1) := by decide +kernel
theorem dX12_ends_92 : decode cX12_ends 92 = .ok (.aload_n 0, 1) := by decide +kernel
theorem dX12_ends_93 : decode cX12_ends 93 = .ok (.aload_n 0, 1) := by decide +kernel
theorem dX12_ends_94 : decode cX12_ends 94 = .ok (.getfield 424, 3) := by decide +kernel
theorem dX12_ends_97 : decode cX12_ends 97 = .ok (.ifCond .ne 7, 3) := by decide +kernel
theorem dX12_ends_100 : decode cX12_ends 100 = .ok (.iload_n 2, 1) := by decide +kernel
theorem dX12_ends_101 : decode cX12_ends 101 = .ok (.ifCond .eq 7, 3) := by decide +kernel
theorem dX12_ends_104 : decode cX12_ends 104 = .ok (.iconst 1, 1) := by decide +kernel
theorem dX12_ends_105 : decode cX12_ends 105 = .ok (.goto 4, 3) := by decide +kernel
theorem dX12_ends_108 : decode cX12_ends 108 = .ok (.iconst 0, 1) := by decide +kernel
theorem dX12_ends_109 : decode cX12_ends 109 = .ok (.putfield 424, 3) := by decide +kernel
theorem dX12_ends_112 : decode cX12_ends 112 = .ok (.iinc 1 1, 3) := by decide +kernel
theorem dX12_ends_115 : decode cX12_ends 115 = .ok (.goto (-108), 3) := by decide +kernel
theorem dX12_ends_118 : decode cX12_ends 118 = .ok (.aload_n 0, 1) := by decide +kernel
theorem dX12_ends_119 : decode cX12_ends 119 = .ok (.getfield 117, 3) := by decide +kernel
theorem dX12_ends_122 : decode cX12_ends 122 = .ok (.iconst 0, 1) := by decide +kernel
theorem dX12_ends_123 : decode cX12_ends 123 = .ok (.dup2, 1) := by decide +kernel
theorem dX12_ends_124 : decode cX12_ends 124 = .ok (.iaload, 1) := by decide +kernel
theorem dX12_ends_125 : decode cX12_ends 125 = .ok (.iconst 1, 1) := by decide +kernel
theorem dX12_ends_126 : decode cX12_ends 126 = .ok (.iadd, 1) := by decide +kernel
theorem dX12_ends_127 : decode cX12_ends 127 = .ok (.iastore, 1) := by decide +kernel
theorem dX12_ends_128 : decode cX12_ends 128 = .ok (.return_, 1) := by decide +kernel
theorem dX12_person_0 : decode cX12_person 0 = .ok (.aload_n 0, 1) := by decide +kernel
theorem dX12_person_1 : decode cX12_person 1 = .ok (.iconst 0, 1) := by decide +kernel
theorem dX12_person_2 : decode cX12_person 2 = .ok (.putfield 156, 3) := by decide +kernel
theorem dX12_person_5 : decode cX12_person 5 = .ok (.aload_n 0, 1) := by decide +kernel
theorem dX12_person_6 : decode cX12_person 6 = .ok (.iload_n 1, 1) := by decide +kernel
theorem dX12_person_7 : decode cX12_person 7 = .ok (.invokevirtual 444, 3) := by decide +kernel
theorem dX12_person_10 : decode cX12_person 10 = .ok (.ifCond .eq 13, 3) := by decide +kernel
theorem dX12_person_13 : decode cX12_person 13 = .ok (.iload_n 2, 1) := by decide +kernel
theorem dX12_person_14 : decode cX12_person 14 = .ok (.iconst 0, 1) := by decide +kernel
theorem dX12_person_15 : decode cX12_person 15 = .ok (.bipush 7, 2) := by decide +kernel
theorem dX12_person_17 : decode cX12_person 17 = .ok (.invokestatic 293, 3) := by decide +kernel
theorem dX12_person_20 : decode cX12_person 20 = .ok (.ifCond .ne 5, 3) := by decide +kernel
theorem dX12_person_23 : decode cX12_person 23 = .ok (.iconst (-1), 1) := by decide +kernel
theorem dX12_person_24 : decode cX12_person 24 = .ok (.ireturn, 1) := by decide +kernel
theorem dX12_person_25 : decode cX12_person 25 = .ok (.iload_n 2, 1) := by decide +kernel
theorem dX12_person_26 : decode cX12_person 26 = .ok (.iconst 4, 1) := by decide +kernel
theorem dX12_person_27 : decode cX12_person 27 = .ok (.if_icmp .ge 51, 3) := by decide +kernel
theorem dX12_person_30 : decode cX12_person 30 = .ok (.iload_n 2, 1) := by decide +kernel
theorem dX12_person_31 : decode cX12_person 31 = .ok (.ifCond .ne 12, 3) := by decide +kernel
theorem dX12_person_34 : decode cX12_person 34 = .ok (.aload_n 0, 1) := by decide +kernel
theorem dX12_person_35 : decode cX12_person 35 = .ok (.getfield 23, 3) := by decide +kernel
theorem dX12_person_38 : decode cX12_person 38 = .ok (.iload_n 1, 1) := by decide +kernel
theorem dX12_person_39 : decode cX12_person 39 = .ok (.iaload, 1) := by decide +kernel
theorem dX12_person_40 : decode cX12_person 40 = .ok (.goto 37, 3) := by decide +kernel
theorem dX12_person_43 : decode cX12_person 43 = .ok (.iload_n 2, 1) := by decide +kernel
theorem dX12_person_44 : decode cX12_person 44 = .ok (.iconst 1, 1) := by decide +kernel
theorem dX12_person_45 : decode cX12_person 45 = .ok (.if_icmp .ne 12, 3) := by decide +kernel
theorem dX12_person_48 : decode cX12_person 48 = .ok (.aload_n 0, 1) := by decide +kernel
theorem dX12_person_49 : decode cX12_person 49 = .ok (.getfield 26, 3) := by decide +kernel
theorem dX12_person_52 : decode cX12_person 52 = .ok (.iload_n 1, 1) := by decide +kernel
theorem dX12_person_53 : decode cX12_person 53 = .ok (.iaload, 1) := by decide +kernel
theorem dX12_person_54 : decode cX12_person 54 = .ok (.goto 23, 3) := by decide +kernel
theorem dX12_person_57 : decode cX12_person 57 = .ok (.iload_n 2, 1) := by decide +kernel
theorem dX12_person_58 : decode cX12_person 58 = .ok (.iconst 2, 1) := by decide +kernel
theorem dX12_person_59 : decode cX12_person 59 = .ok (.if_icmp .ne 12, 3) := by decide +kernel
theorem dX12_person_62 : decode cX12_person 62 = .ok (.aload_n 0, 1) := by decide +kernel
theorem dX12_person_63 : decode cX12_person 63 = .ok (.getfield 29, 3) := by decide +kernel
theorem dX12_person_66 : decode cX12_person 66 = .ok (.iload_n 1, 1) := by decide +kernel
theorem dX12_person_67 : decode cX12_person 67 = .ok (.iaload, 1) := by decide +kernel
theorem dX12_person_68 : decode cX12_person 68 = .ok (.goto 9, 3) := by decide +kernel
theorem dX12_person_71 : decode cX12_person 71 = .ok (.aload_n 0, 1) := by decide +kernel
theorem dX12_person_72 : decode cX12_person 72 = .ok (.getfield 32, 3) := by decide +kernel
theorem dX12_person_75 : decode cX12_person 75 = .ok (.iload_n 1, 1) := by decide +kernel
theorem dX12_person_76 : decode cX12_person 76 = .ok (.iaload, 1) := by decide +kernel
theorem dX12_person_77 : decode cX12_person 77 = .ok (.ireturn, 1) := by decide +kernel
theorem dX12_person_78 : decode cX12_person 78 = .ok (.iload_n 2, 1) := by decide +kernel
theorem dX12_person_79 : decode cX12_person 79 = .ok (.iconst 5, 1) := by decide +kernel
theorem dX12_person_80 : decode cX12_person 80 = .ok (.if_icmp .ne 17, 3) := by decide +kernel
theorem dX12_person_83 : decode cX12_person 83 = .ok (.aload_n 0, 1) := by decide +kernel
theorem dX12_person_84 : decode cX12_person 84 = .ok (.iload_n 1, 1) := by decide +kernel
theorem dX12_person_85 : decode cX12_person 85 = .ok (.invokevirtual 395, 3) := by decide +kernel
theorem dX12_person_88 : decode cX12_person 88 = .ok (.ifCond .eq 7, 3) := by decide +kernel
theorem dX12_person_91 : decode cX12_person 91 = .ok (.iconst 0, 1) := by decide +kernel
theorem dX12_person_92 : decode cX12_person 92 = .ok (.goto 4, 3) := by decide +kernel
theorem dX12_person_95 : decode cX12_person 95 = .ok (.iconst 1, 1) := by decide +kernel
theorem dX12_person_96 : decode cX12_person 96 = .ok (.ireturn, 1) := by decide +kernel
theorem dX12_person_97 : decode cX12_person 97 = .ok (.aload_n 0, 1) := by decide +kernel
theorem dX12_person_98 : decode cX12_person 98 = .ok (.getfield 117, 3) := by decide +kernel
theorem dX12_person_101 : decode cX12_person 101 = .ok (.iload_n 2, 1) := by decide +kernel
theorem dX12_person_102 : decode cX12_person 102 = .ok (.iconst 4, 1) := by decide +kernel
theorem dX12_person_103 : decode cX12_person 103 = .ok (.if_icmp .ne 7, 3) := by decide +kernel
theorem dX12_person_106 : decode cX12_person 106 = .ok (.iconst 3, 1) := by decide +kernel
theorem dX12_person_107 : decode cX12_person 107 = .ok (.goto 16, 3) := by decide +kernel
theorem dX12_person_110 : decode cX12_person 110 = .ok (.iload_n 2, 1) := by decide +kernel
theorem dX12_person_111 : decode cX12_person 111 = .ok (.bipush 6, 2) := by decide +kernel
theorem dX12_person_113 : decode cX12_person 113 = .ok (.if_icmp .ne 8, 3) := by decide +kernel
theorem dX12_person_116 : decode cX12_person 116 = .ok (.bipush 9, 2) := by decide +kernel
theorem dX12_person_118 : decode cX12_person 118 = .ok (.goto 5, 3) := by decide +kernel
theorem dX12_person_121 : decode cX12_person 121 = .ok (.bipush 15, 2) := by decide +kernel
theorem dX12_person_123 : decode cX12_person 123 = .ok (.iload_n 1, 1) := by decide +kernel
theorem dX12_person_124 : decode cX12_person 124 = .ok (.iadd, 1) := by decide +kernel
theorem dX12_person_125 : decode cX12_person 125 = .ok (.iaload, 1) := by decide +kernel
theorem dX12_person_126 : decode cX12_person 126 = .ok (.ireturn, 1) := by decide +kernel
theorem dX12_dish_0 : decode cX12_dish 0 = .ok (.aload_n 0, 1) := by decide +kernel
theorem dX12_dish_1 : decode cX12_dish 1 = .ok (.iconst 0, 1) := by decide +kernel
theorem dX12_dish_2 : decode cX12_dish 2 = .ok (.putfield 156, 3) := by decide +kernel
theorem dX12_dish_5 : decode cX12_dish 5 = .ok (.aload_n 0, 1) := by decide +kernel
theorem dX12_dish_6 : decode cX12_dish 6 = .ok (.iload_n 1, 1) := by decide +kernel
theorem dX12_dish_7 : decode cX12_dish 7 = .ok (.invokevirtual 447, 3) := by decide +kernel
theorem dX12_dish_10 : decode cX12_dish 10 = .ok (.ifCond .eq 12, 3) := by decide +kernel
theorem dX12_dish_13 : decode cX12_dish 13 = .ok (.iload_n 2, 1) := by decide +kernel
theorem dX12_dish_14 : decode cX12_dish 14 = .ok (.iconst 0, 1) := by decide +kernel
theorem dX12_dish_15 : decode cX12_dish 15 = .ok (.iconst 2, 1) := by decide +kernel
theorem dX12_dish_16 : decode cX12_dish 16 = .ok (.invokestatic 293, 3) := by decide +kernel
theorem dX12_dish_19 : decode cX12_dish 19 = .ok (.ifCond .ne 5, 3) := by decide +kernel
theorem dX12_dish_22 : decode cX12_dish 22 = .ok (.iconst (-1), 1) := by decide +kernel
theorem dX12_dish_23 : decode cX12_dish 23 = .ok (.ireturn, 1) := by decide +kernel
theorem dX12_dish_24 : decode cX12_dish 24 = .ok (.iload_n 2, 1) := by decide +kernel
theorem dX12_dish_25 : decode cX12_dish 25 = .ok (.ifCond .ne 12, 3) := by decide +kernel
theorem dX12_dish_28 : decode cX12_dish 28 = .ok (.aload_n 0, 1) := by decide +kernel
theorem dX12_dish_29 : decode cX12_dish 29 = .ok (.getfield 41, 3) := by decide +kernel
theorem dX12_dish_32 : decode cX12_dish 32 = .ok (.iload_n 1, 1) := by decide +kernel
theorem dX12_dish_33 : decode cX12_dish 33 = .ok (.iaload, 1) := by decide +kernel
theorem dX12_dish_34 : decode cX12_dish 34 = .ok (.goto 23, 3) := by decide +kernel
theorem dX12_dish_37 : decode cX12_dish 37 = .ok (.iload_n 2, 1) := by decide +kernel
theorem dX12_dish_38 : decode cX12_dish 38 = .ok (.iconst 1, 1) := by decide +kernel
theorem dX12_dish_39 : decode cX12_dish 39 = .ok (.if_icmp .ne 12, 3) := by decide +kernel
theorem dX12_dish_42 : decode cX12_dish 42 = .ok (.aload_n 0, 1) := by decide +kernel
theorem dX12_dish_43 : decode cX12_dish 43 = .ok (.getfield 44, 3) := by decide +kernel
theorem dX12_dish_46 : decode cX12_dish 46 = .ok (.iload_n 1, 1) := by decide +kernel
theorem dX12_dish_47 : decode cX12_dish 47 = .ok (.iaload, 1) := by decide +kernel
theorem dX12_dish_48 : decode cX12_dish 48 = .ok (.goto 9, 3) := by decide +kernel
theorem dX12_dish_51 : decode cX12_dish 51 = .ok (.aload_n 0, 1) := by decide +kernel
theorem dX12_dish_52 : decode cX12_dish 52 = .ok (.getfield 47, 3) := by decide +kernel
theorem dX12_dish_55 : decode cX12_dish 55 = .ok (.iload_n 1, 1) := by decide +kernel
theorem dX12_dish_56 : decode cX12_dish 56 = .ok (.iaload, 1) := by decide +kernel
theorem dX12_dish_57 : decode cX12_dish 57 = .ok (.ireturn, 1) := by decide +kernel
theorem dX12_would_0 : decode cX12_would 0 = .ok (.aload_n 0, 1) := by decide +kernel
theorem dX12_would_1 : decode cX12_would 1 = .ok (.iconst 0, 1) := by decide +kernel
theorem dX12_would_2 : decode cX12_would 2 = .ok (.putfield 156, 3) := by decide +kernel
theorem dX12_would_5 : decode cX12_would 5 = .ok (.aload_n 0, 1) := by decide +kernel
theorem dX12_would_6 : decode cX12_would 6 = .ok (.iload_n 1, 1) := by decide +kernel
theorem dX12_would_7 : decode cX12_would 7 = .ok (.invokevirtual 444, 3) := by decide +kernel
theorem dX12_would_10 : decode cX12_would 10 = .ok (.ifCond .eq 29, 3) := by decide +kernel
theorem dX12_would_13 : decode cX12_would 13 = .ok (.aload_n 0, 1) := by decide +kernel
theorem dX12_would_14 : decode cX12_would 14 = .ok (.iload_n 2, 1) := by decide +kernel
theorem dX12_would_15 : decode cX12_would 15 = .ok (.invokevirtual 447, 3) := by decide +kernel
theorem dX12_would_18 : decode cX12_would 18 = .ok (.ifCond .eq 21, 3) := by decide +kernel
theorem dX12_would_21 : decode cX12_would 21 = .ok (.aload_n 0, 1) := by decide +kernel
theorem dX12_would_22 : decode cX12_would 22 = .ok (.iload 4, 2) := by decide +kernel
theorem dX12_would_24 : decode cX12_would 24 = .ok (.invokevirtual 444, 3) := by decide +kernel
theorem dX12_would_27 : decode cX12_would 27 = .ok (.ifCond .eq 12, 3) := by decide +kernel
theorem dX12_would_30 : decode cX12_would 30 = .ok (.aload_n 0, 1) := by decide +kernel
theorem dX12_would_31 : decode cX12_would 31 = .ok (.iload_n 1, 1) := by decide +kernel
theorem dX12_would_32 : decode cX12_would 32 = .ok (.iload_n 2, 1) := by decide +kernel
theorem dX12_would_33 : decode cX12_would 33 = .ok (.invokevirtual 450, 3) := by decide +kernel
theorem dX12_would_36 : decode cX12_would 36 = .ok (.ifCond .ne 5, 3) := by decide +kernel
theorem dX12_would_39 : decode cX12_would 39 = .ok (.iconst (-1), 1) := by decide +kernel
theorem dX12_would_40 : decode cX12_would 40 = .ok (.ireturn, 1) := by decide +kernel
theorem dX12_would_41 : decode cX12_would 41 = .ok (.aload_n 0, 1) := by decide +kernel
theorem dX12_would_42 : decode cX12_would 42 = .ok (.iload_n 1, 1) := by decide +kernel
theorem dX12_would_43 : decode cX12_would 43 = .ok (.invokevirtual 428, 3) := by decide +kernel
theorem dX12_would_46 : decode cX12_would 46 = .ok (.ifCond .ne 12, 3) := by decide +kernel
theorem dX12_would_49 : decode cX12_would 49 = .ok (.aload_n 0, 1) := by decide +kernel
theorem dX12_would_50 : decode cX12_would 50 = .ok (.iload 4, 2) := by decide +kernel
theorem dX12_would_52 : decode cX12_would 52 = .ok (.invokevirtual 395, 3) := by decide +kernel
theorem dX12_would_55 : decode cX12_would 55 = .ok (.ifCond .eq 7, 3) := by decide +kernel
theorem dX12_would_58 : decode cX12_would 58 = .ok (.iconst 0, 1) := by decide +kernel
theorem dX12_would_59 : decode cX12_would 59 = .ok (.goto 12, 3) := by decide +kernel
theorem dX12_would_62 : decode cX12_would 62 = .ok (.aload_n 0, 1) := by decide +kernel
theorem dX12_would_63 : decode cX12_would 63 = .ok (.iload_n 1, 1) := by decide +kernel
theorem dX12_would_64 : decode cX12_would 64 = .ok (.iload_n 2, 1) := by decide +kernel
theorem dX12_would_65 : decode cX12_would 65 = .ok (.iload_n 3, 1) := by decide +kernel
theorem dX12_would_66 : decode cX12_would 66 = .ok (.iload 4, 2) := by decide +kernel
theorem dX12_would_68 : decode cX12_would 68 = .ok (.invokevirtual 434, 3) := by decide +kernel
theorem dX12_would_71 : decode cX12_would 71 = .ok (.ireturn, 1) := by decide +kernel
theorem dX12_keeps_0 : decode cX12_keeps 0 = .ok (.aload_n 0, 1) := by decide +kernel
theorem dX12_keeps_1 : decode cX12_keeps 1 = .ok (.getfield 385, 3) := by decide +kernel
theorem dX12_keeps_4 : decode cX12_keeps 4 = .ok (.bipush 16, 2) := by decide +kernel
theorem dX12_keeps_6 : decode cX12_keeps 6 = .ok (.if_icmp .ne 43, 3) := by decide +kernel
theorem dX12_keeps_9 : decode cX12_keeps 9 = .ok (.iconst 0, 1) := by decide +kernel
theorem dX12_keeps_10 : decode cX12_keeps 10 = .ok (.istore_n 1, 1) := by decide +kernel
theorem dX12_keeps_11 : decode cX12_keeps 11 = .ok (.iload_n 1, 1) := by decide +kernel
theorem dX12_keeps_12 : decode cX12_keeps 12 = .ok (.sipush 315, 3) := by decide +kernel
theorem dX12_keeps_15 : decode cX12_keeps 15 = .ok (.if_icmp .ge 24, 3) := by decide +kernel
theorem dX12_keeps_18 : decode cX12_keeps 18 = .ok (.aload_n 0, 1) := by decide +kernel
theorem dX12_keeps_19 : decode cX12_keeps 19 = .ok (.getfield 129, 3) := by decide +kernel
theorem dX12_keeps_22 : decode cX12_keeps 22 = .ok (.iload_n 1, 1) := by decide +kernel
theorem dX12_keeps_23 : decode cX12_keeps 23 = .ok (.aload_n 0, 1) := by decide +kernel
theorem dX12_keeps_24 : decode cX12_keeps 24 = .ok (.getfield 129, 3) := by decide +kernel
theorem dX12_keeps_27 : decode cX12_keeps 27 = .ok (.iload_n 1, 1) := by decide +kernel
theorem dX12_keeps_28 : decode cX12_keeps 28 = .ok (.bipush 21, 2) := by decide +kernel
theorem dX12_keeps_30 : decode cX12_keeps 30 = .ok (.iadd, 1) := by decide +kernel
theorem dX12_keeps_31 : decode cX12_keeps 31 = .ok (.iaload, 1) := by decide +kernel
theorem dX12_keeps_32 : decode cX12_keeps 32 = .ok (.iastore, 1) := by decide +kernel
theorem dX12_keeps_33 : decode cX12_keeps 33 = .ok (.iinc 1 1, 3) := by decide +kernel
theorem dX12_keeps_36 : decode cX12_keeps 36 = .ok (.goto (-25), 3) := by decide +kernel
theorem dX12_keeps_39 : decode cX12_keeps 39 = .ok (.aload_n 0, 1) := by decide +kernel
theorem dX12_keeps_40 : decode cX12_keeps 40 = .ok (.dup, 1) := by decide +kernel
theorem dX12_keeps_41 : decode cX12_keeps 41 = .ok (.getfield 385, 3) := by decide +kernel
theorem dX12_keeps_44 : decode cX12_keeps 44 = .ok (.iconst 1, 1) := by decide +kernel
theorem dX12_keeps_45 : decode cX12_keeps 45 = .ok (.isub, 1) := by decide +kernel
theorem dX12_keeps_46 : decode cX12_keeps 46 = .ok (.putfield 385, 3) := by decide +kernel
theorem dX12_keeps_49 : decode cX12_keeps 49 = .ok (.aload_n 0, 1) := by decide +kernel
theorem dX12_keeps_50 : decode cX12_keeps 50 = .ok (.getfield 117, 3) := by decide +kernel
theorem dX12_keeps_53 : decode cX12_keeps 53 = .ok (.iconst 0, 1) := by decide +kernel
theorem dX12_keeps_54 : decode cX12_keeps 54 = .ok (.aload_n 0, 1) := by decide +kernel
theorem dX12_keeps_55 : decode cX12_keeps 55 = .ok (.getfield 129, 3) := by decide +kernel
theorem dX12_keeps_58 : decode cX12_keeps 58 = .ok (.bipush 21, 2) := by decide +kernel
theorem dX12_keeps_60 : decode cX12_keeps 60 = .ok (.aload_n 0, 1) := by decide +kernel
theorem dX12_keeps_61 : decode cX12_keeps 61 = .ok (.getfield 385, 3) := by decide +kernel
theorem dX12_keeps_64 : decode cX12_keeps 64 = .ok (.imul, 1) := by decide +kernel
theorem dX12_keeps_65 : decode cX12_keeps 65 = .ok (.invokestatic 453, 3) := by decide +kernel
theorem dX12_keeps_68 : decode cX12_keeps 68 = .ok (.aload_n 0, 1) := by decide +kernel
theorem dX12_keeps_69 : decode cX12_keeps 69 = .ok (.dup, 1) := by decide +kernel
theorem dX12_keeps_70 : decode cX12_keeps 70 = .ok (.getfield 385, 3) := by decide +kernel
theorem dX12_keeps_73 : decode cX12_keeps 73 = .ok (.iconst 1, 1) := by decide +kernel
theorem dX12_keeps_74 : decode cX12_keeps 74 = .ok (.iadd, 1) := by decide +kernel
theorem dX12_keeps_75 : decode cX12_keeps 75 = .ok (.putfield 385, 3) := by decide +kernel
theorem dX12_keeps_78 : decode cX12_keeps 78 = .ok (.return_, 1) := by decide +kernel
theorem dX12_eat_0 : decode cX12_eat 0 = .ok (.aload_n 0, 1) := by decide +kernel
theorem dX12_eat_1 : decode cX12_eat 1 = .ok (.iconst 0, 1) := by decide +kernel
theorem dX12_eat_2 : decode cX12_eat 2 = .ok (.putfield 156, 3) := by decide +kernel
theorem dX12_eat_5 : decode cX12_eat 5 = .ok (.aload_n 0, 1) := by decide +kernel
theorem dX12_eat_6 : decode cX12_eat 6 = .ok (.iload_n 1, 1) := by decide +kernel
theorem dX12_eat_7 : decode cX12_eat 7 = .ok (.invokevirtual 444, 3) := by decide +kernel
theorem dX12_eat_10 : decode cX12_eat 10 = .ok (.ifCond .eq 20, 3) := by decide +kernel
theorem dX12_eat_13 : decode cX12_eat 13 = .ok (.aload_n 0, 1) := by decide +kernel
theorem dX12_eat_14 : decode cX12_eat 14 = .ok (.iload_n 2, 1) := by decide +kernel
theorem dX12_eat_15 : decode cX12_eat 15 = .ok (.invokevirtual 447, 3) := by decide +kernel
theorem dX12_eat_18 : decode cX12_eat 18 = .ok (.ifCond .eq 12, 3) := by decide +kernel
theorem dX12_eat_21 : decode cX12_eat 21 = .ok (.aload_n 0, 1) := by decide +kernel
theorem dX12_eat_22 : decode cX12_eat 22 = .ok (.iload_n 1, 1) := by decide +kernel
theorem dX12_eat_23 : decode cX12_eat 23 = .ok (.iload_n 2, 1) := by decide +kernel
theorem dX12_eat_24 : decode cX12_eat 24 = .ok (.invokevirtual 450, 3) := by decide +kernel
theorem dX12_eat_27 : decode cX12_eat 27 = .ok (.ifCond .ne 5, 3) := by decide +kernel
theorem dX12_eat_30 : decode cX12_eat 30 = .ok (.iconst (-1), 1) := by decide +kernel
theorem dX12_eat_31 : decode cX12_eat 31 = .ok (.ireturn, 1) := by decide +kernel
theorem dX12_eat_32 : decode cX12_eat 32 = .ok (.aload_n 0, 1) := by decide +kernel
theorem dX12_eat_33 : decode cX12_eat 33 = .ok (.invokevirtual 457, 3) := by decide +kernel
theorem dX12_eat_36 : decode cX12_eat 36 = .ok (.aload_n 0, 1) := by decide +kernel
theorem dX12_eat_37 : decode cX12_eat 37 = .ok (.iload_n 1, 1) := by decide +kernel
theorem dX12_eat_38 : decode cX12_eat 38 = .ok (.iload_n 2, 1) := by decide +kernel
theorem dX12_eat_39 : decode cX12_eat 39 = .ok (.iload_n 3, 1) := by decide +kernel
theorem dX12_eat_40 : decode cX12_eat 40 = .ok (.invokevirtual 460, 3) := by decide +kernel
theorem dX12_eat_43 : decode cX12_eat 43 = .ok (.ifCond .eq 7, 3) := by decide +kernel
theorem dX12_eat_46 : decode cX12_eat 46 = .ok (.iconst 1, 1) := by decide +kernel
theorem dX12_eat_47 : decode cX12_eat 47 = .ok (.goto 4, 3) := by decide +kernel
theorem dX12_eat_50 : decode cX12_eat 50 = .ok (.iconst 0, 1) := by decide +kernel
theorem dX12_eat_51 : decode cX12_eat 51 = .ok (.ireturn, 1) := by decide +kernel
theorem dX12_abroad_0 : decode cX12_abroad 0 = .ok (.aload_n 0, 1) := by decide +kernel
theorem dX12_abroad_1 : decode cX12_abroad 1 = .ok (.iconst 0, 1) := by decide +kernel
theorem dX12_abroad_2 : decode cX12_abroad 2 = .ok (.putfield 156, 3) := by decide +kernel
theorem dX12_abroad_5 : decode cX12_abroad 5 = .ok (.aload_n 0, 1) := by decide +kernel
theorem dX12_abroad_6 : decode cX12_abroad 6 = .ok (.iload_n 1, 1) := by decide +kernel
theorem dX12_abroad_7 : decode cX12_abroad 7 = .ok (.invokevirtual 444, 3) := by decide +kernel
theorem dX12_abroad_10 : decode cX12_abroad 10 = .ok (.ifCond .eq 11, 3) := by decide +kernel
theorem dX12_abroad_13 : decode cX12_abroad 13 = .ok (.aload_n 0, 1) := by decide +kernel
theorem dX12_abroad_14 : decode cX12_abroad 14 = .ok (.iload_n 2, 1) := by decide +kernel
theorem dX12_abroad_15 : decode cX12_abroad 15 = .ok (.invokevirtual 447, 3) := by decide +kernel
theorem dX12_abroad_18 : decode cX12_abroad 18 = .ok (.ifCond .ne 5, 3) := by decide +kernel
theorem dX12_abroad_21 : decode cX12_abroad 21 = .ok (.iconst (-1), 1) := by decide +kernel
theorem dX12_abroad_22 : decode cX12_abroad 22 = .ok (.ireturn, 1) := by decide +kernel
theorem dX12_abroad_23 : decode cX12_abroad 23 = .ok (.aload_n 0, 1) := by decide +kernel
theorem dX12_abroad_24 : decode cX12_abroad 24 = .ok (.invokevirtual 457, 3) := by decide +kernel
theorem dX12_abroad_27 : decode cX12_abroad 27 = .ok (.aload_n 0, 1) := by decide +kernel
theorem dX12_abroad_28 : decode cX12_abroad 28 = .ok (.iload_n 1, 1) := by decide +kernel
theorem dX12_abroad_29 : decode cX12_abroad 29 = .ok (.aload_n 0, 1) := by decide +kernel
theorem dX12_abroad_30 : decode cX12_abroad 30 = .ok (.iload_n 1, 1) := by decide +kernel
theorem dX12_abroad_31 : decode cX12_abroad 31 = .ok (.iload_n 2, 1) := by decide +kernel
theorem dX12_abroad_32 : decode cX12_abroad 32 = .ok (.invokevirtual 464, 3) := by decide +kernel
theorem dX12_abroad_35 : decode cX12_abroad 35 = .ok (.invokevirtual 438, 3) := by decide +kernel
theorem dX12_abroad_38 : decode cX12_abroad 38 = .ok (.aload_n 0, 1) := by decide +kernel
theorem dX12_abroad_39 : decode cX12_abroad 39 = .ok (.getfield 117, 3) := by decide +kernel
theorem dX12_abroad_42 : decode cX12_abroad 42 = .ok (.iconst 3, 1) := by decide +kernel
theorem dX12_abroad_43 : decode cX12_abroad 43 = .ok (.iload_n 1, 1) := by decide +kernel
theorem dX12_abroad_44 : decode cX12_abroad 44 = .ok (.iadd, 1) := by decide +kernel
theorem dX12_abroad_45 : decode cX12_abroad 45 = .ok (.iaload, 1) := by decide +kernel
theorem dX12_abroad_46 : decode cX12_abroad 46 = .ok (.ireturn, 1) := by decide +kernel
theorem dX12_fast_0 : decode cX12_fast 0 = .ok (.aload_n 0, 1) := by decide +kernel
theorem dX12_fast_1 : decode cX12_fast 1 = .ok (.iconst 0, 1) := by decide +kernel
theorem dX12_fast_2 : decode cX12_fast 2 = .ok (.putfield 156, 3) := by decide +kernel
theorem dX12_fast_5 : decode cX12_fast 5 = .ok (.aload_n 0, 1) := by decide +kernel
theorem dX12_fast_6 : decode cX12_fast 6 = .ok (.invokevirtual 457, 3) := by decide +kernel
theorem dX12_fast_9 : decode cX12_fast 9 = .ok (.aload_n 0, 1) := by decide +kernel
theorem dX12_fast_10 : decode cX12_fast 10 = .ok (.invokevirtual 441, 3) := by decide +kernel
theorem dX12_fast_13 : decode cX12_fast 13 = .ok (.aload_n 0, 1) := by decide +kernel
theorem dX12_fast_14 : decode cX12_fast 14 = .ok (.getfield 117, 3) := by decide +kernel
theorem dX12_fast_17 : decode cX12_fast 17 = .ok (.iconst 0, 1) := by decide +kernel
theorem dX12_fast_18 : decode cX12_fast 18 = .ok (.iaload, 1) := by decide +kernel
theorem dX12_fast_19 : decode cX12_fast 19 = .ok (.ireturn, 1) := by decide +kernel
theorem dX12_undo_0 : decode cX12_undo 0 = .ok (.aload_n 0, 1) := by decide +kernel
theorem dX12_undo_1 : decode cX12_undo 1 = .ok (.iconst 0, 1) := by decide +kernel
theorem dX12_undo_2 : decode cX12_undo 2 = .ok (.putfield 156, 3) := by decide +kernel
theorem dX12_undo_5 : decode cX12_undo 5 = .ok (.aload_n 0, 1) := by decide +kernel
theorem dX12_undo_6 : decode cX12_undo 6 = .ok (.getfield 385, 3) := by decide +kernel
theorem dX12_undo_9 : decode cX12_undo 9 = .ok (.ifCond .ne 5, 3) := by decide +kernel
theorem dX12_undo_12 : decode cX12_undo 12 = .ok (.iconst 0, 1) := by decide +kernel
theorem dX12_undo_13 : decode cX12_undo 13 = .ok (.ireturn, 1) := by decide +kernel
theorem dX12_undo_14 : decode cX12_undo 14 = .ok (.aload_n 0, 1) := by decide +kernel
theorem dX12_undo_15 : decode cX12_undo 15 = .ok (.dup, 1) := by decide +kernel
theorem dX12_undo_16 : decode cX12_undo 16 = .ok (.getfield 385, 3) := by decide +kernel
theorem dX12_undo_19 : decode cX12_undo 19 = .ok (.iconst 1, 1) := by decide +kernel
theorem dX12_undo_20 : decode cX12_undo 20 = .ok (.isub, 1) := by decide +kernel
theorem dX12_undo_21 : decode cX12_undo 21 = .ok (.putfield 385, 3) := by decide +kernel
theorem dX12_undo_24 : decode cX12_undo 24 = .ok (.aload_n 0, 1) := by decide +kernel
theorem dX12_undo_25 : decode cX12_undo 25 = .ok (.getfield 129, 3) := by decide +kernel
theorem dX12_undo_28 : decode cX12_undo 28 = .ok (.bipush 21, 2) := by decide +kernel
theorem dX12_undo_30 : decode cX12_undo 30 = .ok (.aload_n 0, 1) := by decide +kernel
theorem dX12_undo_31 : decode cX12_undo 31 = .ok (.getfield 385, 3) := by decide +kernel
theorem dX12_undo_34 : decode cX12_undo 34 = .ok (.imul, 1) := by decide +kernel
theorem dX12_undo_35 : decode cX12_undo 35 = .ok (.aload_n 0, 1) := by decide +kernel
theorem dX12_undo_36 : decode cX12_undo 36 = .ok (.getfield 117, 3) := by decide +kernel
theorem dX12_undo_39 : decode cX12_undo 39 = .ok (.iconst 0, 1) := by decide +kernel
theorem dX12_undo_40 : decode cX12_undo 40 = .ok (.invokestatic 453, 3) := by decide +kernel
theorem dX12_undo_43 : decode cX12_undo 43 = .ok (.iconst 1, 1) := by decide +kernel
theorem dX12_undo_44 : decode cX12_undo 44 = .ok (.ireturn, 1) := by decide +kernel
theorem dX12_judged_0 : decode cX12_judged 0 = .ok (.aload_n 0, 1) := by decide +kernel
theorem dX12_judged_1 : decode cX12_judged 1 = .ok (.iconst 0, 1) := by decide +kernel
theorem dX12_judged_2 : decode cX12_judged 2 = .ok (.putfield 156, 3) := by decide +kernel
theorem dX12_judged_5 : decode cX12_judged 5 = .ok (.iload_n 1, 1) := by decide +kernel
theorem dX12_judged_6 : decode cX12_judged 6 = .ok (.iconst 0, 1) := by decide +kernel
theorem dX12_judged_7 : decode cX12_judged 7 = .ok (.iconst 3, 1) := by decide +kernel
theorem dX12_judged_8 : decode cX12_judged 8 = .ok (.invokestatic 293, 3) := by decide +kernel
theorem dX12_judged_11 : decode cX12_judged 11 = .ok (.ifCond .ne 6, 3) := by decide +kernel
theorem dX12_judged_14 : decode cX12_judged 14 = .ok (.bipush (-2), 2) := by decide +kernel
theorem dX12_judged_16 : decode cX12_judged 16 = .ok (.ireturn, 1) := by decide +kernel
theorem dX12_judged_17 : decode cX12_judged 17 = .ok (.aload_n 0, 1) := by decide +kernel
theorem dX12_judged_18 : decode cX12_judged 18 = .ok (.getfield 117, 3) := by decide +kernel
theorem dX12_judged_21 : decode cX12_judged 21 = .ok (.iconst 0, 1) := by decide +kernel
theorem dX12_judged_22 : decode cX12_judged 22 = .ok (.aload_n 0, 1) := by decide +kernel
theorem dX12_judged_23 : decode cX12_judged 23 = .ok (.getfield 120, 3) := by decide +kernel
theorem dX12_judged_26 : decode cX12_judged 26 = .ok (.iconst 0, 1) := by decide +kernel
theorem dX12_judged_27 : decode cX12_judged 27 = .ok (.invokestatic 453, 3) := by decide +kernel
theorem dX12_judged_30 : decode cX12_judged 30 = .ok (.aload_n 0, 1) := by decide +kernel
theorem dX12_judged_31 : decode cX12_judged 31 = .ok (.invokevirtual 153, 3) := by decide +kernel
theorem dX12_judged_34 : decode cX12_judged 34 = .ok (.iconst (-1), 1) := by decide +kernel
theorem dX12_judged_35 : decode cX12_judged 35 = .ok (.istore_n 2, 1) := by decide +kernel
theorem dX12_judged_36 : decode cX12_judged 36 = .ok (.iconst (-1), 1) := by decide +kernel
theorem dX12_judged_37 : decode cX12_judged 37 = .ok (.istore_n 3, 1) := by decide +kernel
theorem dX12_judged_38 : decode cX12_judged 38 = .ok (.iconst (-1), 1) := by decide +kernel
theorem dX12_judged_39 : decode cX12_judged 39 = .ok (.istore 4, 2) := by decide +kernel
theorem dX12_judged_41 : decode cX12_judged 41 = .ok (.iconst 0, 1) := by decide +kernel
theorem dX12_judged_42 : decode cX12_judged 42 = .ok (.istore 5, 2) := by decide +kernel
theorem dX12_judged_44 : decode cX12_judged 44 = .ok (.iload 5, 2) := by decide +kernel
theorem dX12_judged_46 : decode cX12_judged 46 = .ok (.aload_n 0, 1) := by decide +kernel
theorem dX12_judged_47 : decode cX12_judged 47 = .ok (.getfield 99, 3) := by decide +kernel
theorem dX12_judged_50 : decode cX12_judged 50 = .ok (.iconst 0, 1) := by decide +kernel
theorem dX12_judged_51 : decode cX12_judged 51 = .ok (.iaload, 1) := by decide +kernel
theorem dX12_judged_52 : decode cX12_judged 52 = .ok (.if_icmp .ge 55, 3) := by decide +kernel
theorem dX12_judged_55 : decode cX12_judged 55 = .ok (.aload_n 0, 1) := by decide +kernel
theorem dX12_judged_56 : decode cX12_judged 56 = .ok (.iload 5, 2) := by decide +kernel
theorem dX12_judged_58 : decode cX12_judged 58 = .ok (.invokevirtual 470, 3) := by decide +kernel
theorem dX12_judged_61 : decode cX12_judged 61 = .ok (.ifCond .ne 10, 3) := by decide +kernel
theorem dX12_judged_64 : decode cX12_judged 64 = .ok (.iload_n 2, 1) := by decide +kernel
theorem dX12_judged_65 : decode cX12_judged 65 = .ok (.ifCond .ge 6, 3) := by decide +kernel
theorem dX12_judged_68 : decode cX12_judged 68 = .ok (.iload 5, 2) := by decide +kernel
theorem dX12_judged_70 : decode cX12_judged 70 = .ok (.istore_n 2, 1) := by decide +kernel
theorem dX12_judged_71 : decode cX12_judged 71 = .ok (.aload_n 0, 1) := by decide +kernel
theorem dX12_judged_72 : decode cX12_judged 72 = .ok (.getfield 424, 3) := by decide +kernel
theorem dX12_judged_75 : decode cX12_judged 75 = .ok (.ifCond .eq 10, 3) := by decide +kernel
theorem dX12_judged_78 : decode cX12_judged 78 = .ok (.iload_n 3, 1) := by decide +kernel
theorem dX12_judged_79 : decode cX12_judged 79 = .ok (.ifCond .ge 6, 3) := by decide +kernel
theorem dX12_judged_82 : decode cX12_judged 82 = .ok (.iload 5, 2) := by decide +kernel
theorem dX12_judged_84 : decode cX12_judged 84 = .ok (.istore_n 3, 1) := by decide +kernel
theorem dX12_judged_85 : decode cX12_judged 85 = .ok (.aload_n 0, 1) := by decide +kernel
theorem dX12_judged_86 : decode cX12_judged 86 = .ok (.getfield 467, 3) := by decide +kernel
theorem dX12_judged_89 : decode cX12_judged 89 = .ok (.ifCond .eq 12, 3) := by decide +kernel
theorem dX12_judged_92 : decode cX12_judged 92 = .ok (.iload 4, 2) := by decide +kernel
theorem dX12_judged_94 : decode cX12_judged 94 = .ok (.ifCond .ge 7, 3) := by decide +kernel
theorem dX12_judged_97 : decode cX12_judged 97 = .ok (.iload 5, 2) := by decide +kernel
theorem dX12_judged_99 : decode cX12_judged 99 = .ok (.istore 4, 2) := by decide +kernel
theorem dX12_judged_101 : decode cX12_judged 101 = .ok (.iinc 5 1, 3) := by decide +kernel
theorem dX12_judged_104 : decode cX12_judged 104 = .ok (.goto (-60), 3) := by decide +kernel
theorem dX12_judged_107 : decode cX12_judged 107 = .ok (.aload_n 0, 1) := by decide +kernel
theorem dX12_judged_108 : decode cX12_judged 108 = .ok (.getfield 117, 3) := by decide +kernel
theorem dX12_judged_111 : decode cX12_judged 111 = .ok (.iconst 1, 1) := by decide +kernel
theorem dX12_judged_112 : decode cX12_judged 112 = .ok (.iaload, 1) := by decide +kernel
theorem dX12_judged_113 : decode cX12_judged 113 = .ok (.istore 5, 2) := by decide +kernel
theorem dX12_judged_115 : decode cX12_judged 115 = .ok (.aload_n 0, 1) := by decide +kernel
theorem dX12_judged_116 : decode cX12_judged 116 = .ok (.getfield 120, 3) := by decide +kernel
theorem dX12_judged_119 : decode cX12_judged 119 = .ok (.iconst 0, 1) := by decide +kernel
theorem dX12_judged_120 : decode cX12_judged 120 = .ok (.aload_n 0, 1) := by decide +kernel
theorem dX12_judged_121 : decode cX12_judged 121 = .ok (.getfield 117, 3) := by decide +kernel
theorem dX12_judged_124 : decode cX12_judged 124 = .ok (.iconst 0, 1) := by decide +kernel
theorem dX12_judged_125 : decode cX12_judged 125 = .ok (.invokestatic 453, 3) := by decide +kernel
theorem dX12_judged_128 : decode cX12_judged 128 = .ok (.iload_n 1, 1) := by decide +kernel
theorem dX12_judged_129 : decode cX12_judged 129 = .ok (.iconst 2, 1) := by decide +kernel
theorem dX12_judged_130 : decode cX12_judged 130 = .ok (.if_icmp .ge 13, 3) := by decide +kernel
theorem dX12_judged_133 : decode cX12_judged 133 = .ok (.iload_n 1, 1) := by decide +kernel
theorem dX12_judged_134 : decode cX12_judged 134 = .ok (.ifCond .ne 7, 3) := by decide +kernel
theorem dX12_judged_137 : decode cX12_judged 137 = .ok (.iload_n 2, 1) := by decide +kernel
theorem dX12_judged_138 : decode cX12_judged 138 = .ok (.goto 4, 3) := by decide +kernel
theorem dX12_judged_141 : decode cX12_judged 141 = .ok (.iload_n 3, 1) := by decide +kernel
theorem dX12_judged_142 : decode cX12_judged 142 = .ok (.ireturn, 1) := by decide +kernel
theorem dX12_judged_143 : decode cX12_judged 143 = .ok (.iload_n 1, 1) := by decide +kernel
theorem dX12_judged_144 : decode cX12_judged 144 = .ok (.iconst 2, 1) := by decide +kernel
theorem dX12_judged_145 : decode cX12_judged 145 = .ok (.if_icmp .ne 8, 3) := by decide +kernel
theorem dX12_judged_148 : decode cX12_judged 148 = .ok (.iload 4, 2) := by decide +kernel
theorem dX12_judged_150 : decode cX12_judged 150 = .ok (.goto 5, 3) := by decide +kernel
theorem dX12_judged_153 : decode cX12_judged 153 = .ok (.iload 5, 2) := by decide +kernel
theorem dX12_judged_155 : decode cX12_judged 155 = .ok (.ireturn, 1) := by decide +kernel
theorem dX12_planOf_0 : decode cX12_planOf 0 = .ok (.iload_n 1, 1) := by decide +kernel
theorem dX12_planOf_1 : decode cX12_planOf 1 = .ok (.ifCond .ne 5, 3) := by decide +kernel
theorem dX12_planOf_4 : decode cX12_planOf 4 = .ok (.iconst 0, 1) := by decide +kernel
theorem dX12_planOf_5 : decode cX12_planOf 5 = .ok (.ireturn, 1) := by decide +kernel
theorem dX12_planOf_6 : decode cX12_planOf 6 = .ok (.iconst (-1), 1) := by decide +kernel
theorem dX12_planOf_7 : decode cX12_planOf 7 = .ok (.istore_n 3, 1) := by decide +kernel
theorem dX12_planOf_8 : decode cX12_planOf 8 = .ok (.iconst (-1), 1) := by decide +kernel
theorem dX12_planOf_9 : decode cX12_planOf 9 = .ok (.istore 4, 2) := by decide +kernel
theorem dX12_planOf_11 : decode cX12_planOf 11 = .ok (.aload_n 0, 1) := by decide +kernel
theorem dX12_planOf_12 : decode cX12_planOf 12 = .ok (.getfield 117, 3) := by decide +kernel
theorem dX12_planOf_15 : decode cX12_planOf 15 = .ok (.iconst 0, 1) := by decide +kernel
theorem dX12_planOf_16 : decode cX12_planOf 16 = .ok (.aload_n 0, 1) := by decide +kernel
theorem dX12_planOf_17 : decode cX12_planOf 17 = .ok (.getfield 123, 3) := by decide +kernel
theorem dX12_planOf_20 : decode cX12_planOf 20 = .ok (.bipush 21, 2) := by decide +kernel
theorem dX12_planOf_22 : decode cX12_planOf 22 = .ok (.iload_n 2, 1) := by decide +kernel
theorem dX12_planOf_23 : decode cX12_planOf 23 = .ok (.imul, 1) := by decide +kernel
theorem dX12_planOf_24 : decode cX12_planOf 24 = .ok (.invokestatic 453, 3) := by decide +kernel
theorem dX12_planOf_27 : decode cX12_planOf 27 = .ok (.iconst 0, 1) := by decide +kernel
theorem dX12_planOf_28 : decode cX12_planOf 28 = .ok (.istore 5, 2) := by decide +kernel
theorem dX12_planOf_30 : decode cX12_planOf 30 = .ok (.iload 5, 2) := by decide +kernel
theorem dX12_planOf_32 : decode cX12_planOf 32 = .ok (.bipush 60, 2) := by decide +kernel
theorem dX12_planOf_34 : decode cX12_planOf 34 = .ok (.if_icmp .gt 201, 3) := by decide +kernel
theorem dX12_planOf_37 : decode cX12_planOf 37 = .ok (.iload 5, 2) := by decide +kernel
theorem dX12_planOf_39 : decode cX12_planOf 39 = .ok (.bipush 10, 2) := by decide +kernel
theorem dX12_planOf_41 : decode cX12_planOf 41 = .ok (.idiv, 1) := by decide +kernel
theorem dX12_planOf_42 : decode cX12_planOf 42 = .ok (.istore 6, 2) := by decide +kernel
theorem dX12_planOf_44 : decode cX12_planOf 44 = .ok (.iload 5, 2) := by decide +kernel
theorem dX12_planOf_46 : decode cX12_planOf 46 = .ok (.iconst 2, 1) := by decide +kernel
theorem dX12_planOf_47 : decode cX12_planOf 47 = .ok (.idiv, 1) := by decide +kernel
theorem dX12_planOf_48 : decode cX12_planOf 48 = .ok (.iconst 5, 1) := by decide +kernel
theorem dX12_planOf_49 : decode cX12_planOf 49 = .ok (.irem, 1) := by decide +kernel
theorem dX12_planOf_50 : decode cX12_planOf 50 = .ok (.istore 7, 2) := by decide +kernel
theorem dX12_planOf_52 : decode cX12_planOf 52 = .ok (.iload 5, 2) := by decide +kernel
theorem dX12_planOf_54 : decode cX12_planOf 54 = .ok (.bipush 60, 2) := by decide +kernel
theorem dX12_planOf_56 : decode cX12_planOf 56 = .ok (.if_icmp .eq 32, 3) := by decide +kernel
theorem dX12_planOf_59 : decode cX12_planOf 59 = .ok (.aload_n 0, 1) := by decide +kernel
theorem dX12_planOf_60 : decode cX12_planOf 60 = .ok (.iload 6, 2) := by decide +kernel
theorem dX12_planOf_62 : decode cX12_planOf 62 = .ok (.invokevirtual 444, 3) := by decide +kernel
theorem dX12_planOf_65 : decode cX12_planOf 65 = .ok (.ifCond .eq 27, 3) := by decide +kernel
theorem dX12_planOf_68 : decode cX12_planOf 68 = .ok (.aload_n 0, 1) := by decide +kernel
theorem dX12_planOf_69 : decode cX12_planOf 69 = .ok (.iload 7, 2) := by decide +kernel
theorem dX12_planOf_71 : decode cX12_planOf 71 = .ok (.invokevirtual 447, 3) := by decide +kernel
theorem dX12_planOf_74 : decode cX12_planOf 74 = .ok (.ifCond .eq 18, 3) := by decide +kernel
theorem dX12_planOf_77 : decode cX12_planOf 77 = .ok (.aload_n 0, 1) := by decide +kernel
theorem dX12_planOf_78 : decode cX12_planOf 78 = .ok (.iload 6, 2) := by decide +kernel
theorem dX12_planOf_80 : decode cX12_planOf 80 = .ok (.iload 7, 2) := by decide +kernel
theorem dX12_planOf_82 : decode cX12_planOf 82 = .ok (.invokevirtual 450, 3) := by decide +kernel
theorem dX12_planOf_85 : decode cX12_planOf 85 = .ok (.ifCond .eq 7, 3) := by decide +kernel
theorem dX12_planOf_88 : decode cX12_planOf 88 = .ok (.iconst 1, 1) := by decide +kernel
theorem dX12_planOf_89 : decode cX12_planOf 89 = .ok (.goto 4, 3) := by decide +kernel
theorem dX12_planOf_92 : decode cX12_planOf 92 = .ok (.iconst 0, 1) := by decide +kernel
theorem dX12_planOf_93 : decode cX12_planOf 93 = .ok (.istore 8, 2) := by decide +kernel
theorem dX12_planOf_95 : decode cX12_planOf 95 = .ok (.iload 8, 2) := by decide +kernel
theorem dX12_planOf_97 : decode cX12_planOf 97 = .ok (.ifCond .ne 6, 3) := by decide +kernel
theorem dX12_planOf_100 : decode cX12_planOf 100 = .ok (.goto 129, 3) := by decide +kernel
theorem dX12_planOf_103 : decode cX12_planOf 103 = .ok (.iload 5, 2) := by decide +kernel
theorem dX12_planOf_105 : decode cX12_planOf 105 = .ok (.bipush 60, 2) := by decide +kernel
theorem dX12_planOf_107 : decode cX12_planOf 107 = .ok (.if_icmp .ne 7, 3) := by decide +kernel
theorem dX12_planOf_110 : decode cX12_planOf 110 = .ok (.iconst 0, 1) := by decide +kernel
theorem dX12_planOf_111 : decode cX12_planOf 111 = .ok (.goto 11, 3) := by decide +kernel
theorem dX12_planOf_114 : decode cX12_planOf 114 = .ok (.aload_n 0, 1) := by decide +kernel
theorem dX12_planOf_115 : decode cX12_planOf 115 = .ok (.iload 6, 2) := by decide +kernel
theorem dX12_planOf_117 : decode cX12_planOf 117 = .ok (.iload 7, 2) := by decide +kernel
theorem dX12_planOf_119 : decode cX12_planOf 119 = .ok (.invokevirtual 398, 3) := by decide +kernel
theorem dX12_planOf_122 : decode cX12_planOf 122 = .ok (.istore 9, 2) := by decide +kernel
theorem dX12_planOf_124 : decode cX12_planOf 124 = .ok (.iload 5, 2) := by decide +kernel
theorem dX12_planOf_126 : decode cX12_planOf 126 = .ok (.bipush 60, 2) := by decide +kernel
theorem dX12_planOf_128 : decode cX12_planOf 128 = .ok (.if_icmp .ne 10, 3) := by decide +kernel
theorem dX12_planOf_131 : decode cX12_planOf 131 = .ok (.aload_n 0, 1) := by decide +kernel
theorem dX12_planOf_132 : decode cX12_planOf 132 = .ok (.invokevirtual 441, 3) := by decide +kernel
theorem dX12_planOf_135 : decode cX12_planOf 135 = .ok (.goto 24, 3) := by decide +kernel
theorem dX12_planOf_138 : decode cX12_planOf 138 = .ok (.aload_n 0, 1) := by decide +kernel
theorem dX12_planOf_139 : decode cX12_planOf 139 = .ok (.iload 6, 2) := by decide +kernel
theorem dX12_planOf_141 : decode cX12_planOf 141 = .ok (.iload 7, 2) := by decide +kernel
theorem dX12_planOf_143 : decode cX12_planOf 143 = .ok (.iload 5, 2) := by decide +kernel
theorem dX12_planOf_145 : decode cX12_planOf 145 = .ok (.iconst 2, 1) := by decide +kernel
theorem dX12_planOf_146 : decode cX12_planOf 146 = .ok (.irem, 1) := by decide +kernel
theorem dX12_planOf_147 : decode cX12_planOf 147 = .ok (.ifCond .ne 7, 3) := by decide +kernel
theorem dX12_planOf_150 : decode cX12_planOf 150 = .ok (.iconst 1, 1) := by decide +kernel
theorem dX12_planOf_151 : decode cX12_planOf 151 = .ok (.goto 4, 3) := by decide +kernel
theorem dX12_planOf_154 : decode cX12_planOf 154 = .ok (.iconst 0, 1) := by decide +kernel
theorem dX12_planOf_155 : decode cX12_planOf 155 = .ok (.invokevirtual 460, 3) := by decide +kernel
theorem dX12_planOf_158 : decode cX12_planOf 158 = .ok (.pop, 1) := by decide +kernel
theorem dX12_planOf_159 : decode cX12_planOf 159 = .ok (.aload_n 0, 1) := by decide +kernel
theorem dX12_planOf_160 : decode cX12_planOf 160 = .ok (.getfield 424, 3) := by decide +kernel
theorem dX12_planOf_163 : decode cX12_planOf 163 = .ok (.ifCond .eq 7, 3) := by decide +kernel
theorem dX12_planOf_166 : decode cX12_planOf 166 = .ok (.iconst (-1), 1) := by decide +kernel
theorem dX12_planOf_167 : decode cX12_planOf 167 = .ok (.goto 13, 3) := by decide +kernel
theorem dX12_planOf_170 : decode cX12_planOf 170 = .ok (.aload_n 0, 1) := by decide +kernel
theorem dX12_planOf_171 : decode cX12_planOf 171 = .ok (.iload_n 1, 1) := by decide +kernel
theorem dX12_planOf_172 : decode cX12_planOf 172 = .ok (.iconst 1, 1) := by decide +kernel
theorem dX12_planOf_173 : decode cX12_planOf 173 = .ok (.isub, 1) := by decide +kernel
theorem dX12_planOf_174 : decode cX12_planOf 174 = .ok (.iload_n 2, 1) := by decide +kernel
theorem dX12_planOf_175 : decode cX12_planOf 175 = .ok (.iconst 1, 1) := by decide +kernel
theorem dX12_planOf_176 : decode cX12_planOf 176 = .ok (.iadd, 1) := by decide +kernel
theorem dX12_planOf_177 : decode cX12_planOf 177 = .ok (.invokevirtual 473, 3) := by decide +kernel
theorem dX12_planOf_180 : decode cX12_planOf 180 = .ok (.istore 10, 2) := by decide +kernel
theorem dX12_planOf_182 : decode cX12_planOf 182 = .ok (.aload_n 0, 1) := by decide +kernel
theorem dX12_planOf_183 : decode cX12_planOf 183 = .ok (.getfield 123, 3) := by decide +kernel
theorem dX12_planOf_186 : decode cX12_planOf 186 = .ok (.bipush 21, 2) := by decide +kernel
theorem dX12_planOf_188 : decode cX12_planOf 188 = .ok (.iload_n 2, 1) := by decide +kernel
theorem dX12_planOf_189 : decode cX12_planOf 189 = .ok (.imul, 1) := by decide +kernel
theorem dX12_planOf_190 : decode cX12_planOf 190 = .ok (.aload_n 0, 1) := by decide +kernel
theorem dX12_planOf_191 : decode cX12_planOf 191 = .ok (.getfield 117, 3) := by decide +kernel
theorem dX12_planOf_194 : decode cX12_planOf 194 = .ok (.iconst 0, 1) := by decide +kernel
theorem dX12_planOf_195 : decode cX12_planOf 195 = .ok (.invokestatic 453, 3) := by decide +kernel
theorem dX12_planOf_198 : decode cX12_planOf 198 = .ok (.iload 10, 2) := by decide +kernel
theorem dX12_planOf_200 : decode cX12_planOf 200 = .ok (.ifCond .lt 29, 3) := by decide +kernel
theorem dX12_planOf_203 : decode cX12_planOf 203 = .ok (.iload_n 3, 1) := by decide +kernel
theorem dX12_planOf_204 : decode cX12_planOf 204 = .ok (.ifCond .lt 15, 3) := by decide +kernel
theorem dX12_planOf_207 : decode cX12_planOf 207 = .ok (.iload 9, 2) := by decide +kernel
theorem dX12_planOf_209 : decode cX12_planOf 209 = .ok (.iload 10, 2) := by decide +kernel
theorem dX12_planOf_211 : decode cX12_planOf 211 = .ok (.iadd, 1) := by decide +kernel
theorem dX12_planOf_212 : decode cX12_planOf 212 = .ok (.iload_n 3, 1) := by decide +kernel
theorem dX12_planOf_213 : decode cX12_planOf 213 = .ok (.if_icmp .lt 6, 3) := by decide +kernel
theorem dX12_planOf_216 : decode cX12_planOf 216 = .ok (.goto 13, 3) := by decide +kernel
theorem dX12_planOf_219 : decode cX12_planOf 219 = .ok (.iload 9, 2) := by decide +kernel
theorem dX12_planOf_221 : decode cX12_planOf 221 = .ok (.iload 10, 2) := by decide +kernel
theorem dX12_planOf_223 : decode cX12_planOf 223 = .ok (.iadd, 1) := by decide +kernel
theorem dX12_planOf_224 : decode cX12_planOf 224 = .ok (.istore_n 3, 1) := by decide +kernel
theorem dX12_planOf_225 : decode cX12_planOf 225 = .ok (.iload 5, 2) := by decide +kernel
theorem dX12_planOf_227 : decode cX12_planOf 227 = .ok (.istore 4, 2) := by decide +kernel
theorem dX12_planOf_229 : decode cX12_planOf 229 = .ok (.iinc 5 1, 3) := by decide +kernel
theorem dX12_planOf_232 : decode cX12_planOf 232 = .ok (.goto (-202), 3) := by decide +kernel
theorem dX12_planOf_235 : decode cX12_planOf 235 = .ok (.iload_n 2, 1) := by decide +kernel
theorem dX12_planOf_236 : decode cX12_planOf 236 = .ok (.ifCond .ne 9, 3) := by decide +kernel
theorem dX12_planOf_239 : decode cX12_planOf 239 = .ok (.aload_n 0, 1) := by decide +kernel
theorem dX12_planOf_240 : decode cX12_planOf 240 = .ok (.iload 4, 2) := by decide +kernel
theorem dX12_planOf_242 : decode cX12_planOf 242 = .ok (.putfield 476, 3) := by decide +kernel
theorem dX12_planOf_245 : decode cX12_planOf 245 = .ok (.iload_n 3, 1) := by decide +kernel
theorem dX12_planOf_246 : decode cX12_planOf 246 = .ok (.ireturn, 1) := by decide +kernel
theorem dX12_plan_0 : decode cX12_plan 0 = .ok (.aload_n 0, 1) := by decide +kernel
theorem dX12_plan_1 : decode cX12_plan 1 = .ok (.iconst 0, 1) := by decide +kernel
theorem dX12_plan_2 : decode cX12_plan 2 = .ok (.putfield 156, 3) := by decide +kernel
theorem dX12_plan_5 : decode cX12_plan 5 = .ok (.iload_n 1, 1) := by decide +kernel
theorem dX12_plan_6 : decode cX12_plan 6 = .ok (.iconst 0, 1) := by decide +kernel
theorem dX12_plan_7 : decode cX12_plan 7 = .ok (.iconst 3, 1) := by decide +kernel
theorem dX12_plan_8 : decode cX12_plan 8 = .ok (.invokestatic 293, 3) := by decide +kernel
theorem dX12_plan_11 : decode cX12_plan 11 = .ok (.ifCond .eq 12, 3) := by decide +kernel
theorem dX12_plan_14 : decode cX12_plan 14 = .ok (.iload_n 2, 1) := by decide +kernel
theorem dX12_plan_15 : decode cX12_plan 15 = .ok (.iconst 0, 1) := by decide +kernel
theorem dX12_plan_16 : decode cX12_plan 16 = .ok (.iconst 1, 1) := by decide +kernel
theorem dX12_plan_17 : decode cX12_plan 17 = .ok (.invokestatic 293, 3) := by decide +kernel
theorem dX12_plan_20 : decode cX12_plan 20 = .ok (.ifCond .ne 6, 3) := by decide +kernel
theorem dX12_plan_23 : decode cX12_plan 23 = .ok (.bipush (-2), 2) := by decide +kernel
theorem dX12_plan_25 : decode cX12_plan 25 = .ok (.ireturn, 1) := by decide +kernel
theorem dX12_plan_26 : decode cX12_plan 26 = .ok (.aload_n 0, 1) := by decide +kernel
theorem dX12_plan_27 : decode cX12_plan 27 = .ok (.iconst (-1), 1) := by decide +kernel
theorem dX12_plan_28 : decode cX12_plan 28 = .ok (.putfield 476, 3) := by decide +kernel
theorem dX12_plan_31 : decode cX12_plan 31 = .ok (.aload_n 0, 1) := by decide +kernel
theorem dX12_plan_32 : decode cX12_plan 32 = .ok (.iload_n 1, 1) := by decide +kernel
theorem dX12_plan_33 : decode cX12_plan 33 = .ok (.iconst 0, 1) := by decide +kernel
theorem dX12_plan_34 : decode cX12_plan 34 = .ok (.invokevirtual 473, 3) := by decide +kernel
theorem dX12_plan_37 : decode cX12_plan 37 = .ok (.istore_n 3, 1) := by decide +kernel
theorem dX12_plan_38 : decode cX12_plan 38 = .ok (.iload_n 3, 1) := by decide +kernel
theorem dX12_plan_39 : decode cX12_plan 39 = .ok (.ifCond .ge 8, 3) := by decide +kernel
theorem dX12_plan_42 : decode cX12_plan 42 = .ok (.bipush (-2), 2) := by decide +kernel
theorem dX12_plan_44 : decode cX12_plan 44 = .ok (.goto 15, 3) := by decide +kernel
theorem dX12_plan_47 : decode cX12_plan 47 = .ok (.iload_n 2, 1) := by decide +kernel
theorem dX12_plan_48 : decode cX12_plan 48 = .ok (.ifCond .ne 7, 3) := by decide +kernel
theorem dX12_plan_51 : decode cX12_plan 51 = .ok (.iload_n 3, 1) := by decide +kernel
theorem dX12_plan_52 : decode cX12_plan 52 = .ok (.goto 7, 3) := by decide +kernel
theorem dX12_plan_55 : decode cX12_plan 55 = .ok (.aload_n 0, 1) := by decide +kernel
theorem dX12_plan_56 : decode cX12_plan 56 = .ok (.getfield 476, 3) := by decide +kernel
theorem dX12_plan_59 : decode cX12_plan 59 = .ok (.ireturn, 1) := by decide +kernel
theorem dX12_tables_0 : decode cX12_tables 0 = .ok (.aload_n 0, 1) := by decide +kernel
theorem dX12_tables_1 : decode cX12_tables 1 = .ok (.iconst 0, 1) := by decide +kernel
theorem dX12_tables_2 : decode cX12_tables 2 = .ok (.putfield 156, 3) := by decide +kernel
theorem dX12_tables_5 : decode cX12_tables 5 = .ok (.aload_n 0, 1) := by decide +kernel
theorem dX12_tables_6 : decode cX12_tables 6 = .ok (.iload_n 1, 1) := by decide +kernel
theorem dX12_tables_7 : decode cX12_tables 7 = .ok (.invokevirtual 447, 3) := by decide +kernel
theorem dX12_tables_10 : decode cX12_tables 10 = .ok (.ifCond .eq 16, 3) := by decide +kernel
theorem dX12_tables_13 : decode cX12_tables 13 = .ok (.iload_n 2, 1) := by decide +kernel
theorem dX12_tables_14 : decode cX12_tables 14 = .ok (.iconst (-1), 1) := by decide +kernel
theorem dX12_tables_15 : decode cX12_tables 15 = .ok (.if_icmp .eq 14, 3) := by decide +kernel
theorem dX12_tables_18 : decode cX12_tables 18 = .ok (.aload_n 0, 1) := by decide +kernel
theorem dX12_tables_19 : decode cX12_tables 19 = .ok (.iload_n 2, 1) := by decide +kernel
theorem dX12_tables_20 : decode cX12_tables 20 = .ok (.invokevirtual 444, 3) := by decide +kernel
theorem dX12_tables_23 : decode cX12_tables 23 = .ok (.ifCond .ne 6, 3) := by decide +kernel
theorem dX12_tables_26 : decode cX12_tables 26 = .ok (.bipush (-2), 2) := by decide +kernel
theorem dX12_tables_28 : decode cX12_tables 28 = .ok (.ireturn, 1) := by decide +kernel
theorem dX12_tables_29 : decode cX12_tables 29 = .ok (.aload_n 0, 1) := by decide +kernel
theorem dX12_tables_30 : decode cX12_tables 30 = .ok (.iload_n 1, 1) := by decide +kernel
theorem dX12_tables_31 : decode cX12_tables 31 = .ok (.invokevirtual 485, 3) := by decide +kernel
theorem dX12_tables_34 : decode cX12_tables 34 = .ok (.aload_n 0, 1) := by decide +kernel
theorem dX12_tables_35 : decode cX12_tables 35 = .ok (.iconst (-1), 1) := by decide +kernel
theorem dX12_tables_36 : decode cX12_tables 36 = .ok (.putfield 479, 3) := by decide +kernel
theorem dX12_tables_39 : decode cX12_tables 39 = .ok (.aload_n 0, 1) := by decide +kernel
theorem dX12_tables_40 : decode cX12_tables 40 = .ok (.iconst 0, 1) := by decide +kernel
theorem dX12_tables_41 : decode cX12_tables 41 = .ok (.iconst 0, 1) := by decide +kernel
theorem dX12_tables_42 : decode cX12_tables 42 = .ok (.invokevirtual 482, 3) := by decide +kernel
theorem dX12_tables_45 : decode cX12_tables 45 = .ok (.iload_n 2, 1) := by decide +kernel
theorem dX12_tables_46 : decode cX12_tables 46 = .ok (.iconst (-1), 1) := by decide +kernel
theorem dX12_tables_47 : decode cX12_tables 47 = .ok (.if_icmp .ne 10, 3) := by decide +kernel
theorem dX12_tables_50 : decode cX12_tables 50 = .ok (.aload_n 0, 1) := by decide +kernel
theorem dX12_tables_51 : decode cX12_tables 51 = .ok (.getfield 479, 3) := by decide +kernel
theorem dX12_tables_54 : decode cX12_tables 54 = .ok (.goto 9, 3) := by decide +kernel
theorem dX12_tables_57 : decode cX12_tables 57 = .ok (.aload_n 0, 1) := by decide +kernel
theorem dX12_tables_58 : decode cX12_tables 58 = .ok (.getfield 138, 3) := by decide +kernel
theorem dX12_tables_61 : decode cX12_tables 61 = .ok (.iload_n 2, 1) := by decide +kernel
theorem dX12_tables_62 : decode cX12_tables 62 = .ok (.iaload, 1) := by decide +kernel
theorem dX12_tables_63 : decode cX12_tables 63 = .ok (.ireturn, 1) := by decide +kernel
theorem dX12_last_0 : decode cX12_last 0 = .ok (.aload_n 0, 1) := by decide +kernel
theorem dX12_last_1 : decode cX12_last 1 = .ok (.iconst 0, 1) := by decide +kernel
theorem dX12_last_2 : decode cX12_last 2 = .ok (.putfield 156, 3) := by decide +kernel
theorem dX12_last_5 : decode cX12_last 5 = .ok (.aload_n 0, 1) := by decide +kernel
theorem dX12_last_6 : decode cX12_last 6 = .ok (.iload_n 1, 1) := by decide +kernel
theorem dX12_last_7 : decode cX12_last 7 = .ok (.invokevirtual 447, 3) := by decide +kernel
theorem dX12_last_10 : decode cX12_last 10 = .ok (.ifCond .ne 5, 3) := by decide +kernel
theorem dX12_last_13 : decode cX12_last 13 = .ok (.iconst (-1), 1) := by decide +kernel
theorem dX12_last_14 : decode cX12_last 14 = .ok (.ireturn, 1) := by decide +kernel
theorem dX12_last_15 : decode cX12_last 15 = .ok (.aload_n 0, 1) := by decide +kernel
theorem dX12_last_16 : decode cX12_last 16 = .ok (.getfield 117, 3) := by decide +kernel
theorem dX12_last_19 : decode cX12_last 19 = .ok (.iconst 0, 1) := by decide +kernel
theorem dX12_last_20 : decode cX12_last 20 = .ok (.aload_n 0, 1) := by decide +kernel
theorem dX12_last_21 : decode cX12_last 21 = .ok (.getfield 120, 3) := by decide +kernel
theorem dX12_last_24 : decode cX12_last 24 = .ok (.iconst 0, 1) := by decide +kernel
theorem dX12_last_25 : decode cX12_last 25 = .ok (.invokestatic 453, 3) := by decide +kernel
theorem dX12_last_28 : decode cX12_last 28 = .ok (.iconst 0, 1) := by decide +kernel
theorem dX12_last_29 : decode cX12_last 29 = .ok (.istore_n 2, 1) := by decide +kernel
theorem dX12_last_30 : decode cX12_last 30 = .ok (.iconst 0, 1) := by decide +kernel
theorem dX12_last_31 : decode cX12_last 31 = .ok (.istore_n 3, 1) := by decide +kernel
theorem dX12_last_32 : decode cX12_last 32 = .ok (.iconst 1, 1) := by decide +kernel
theorem dX12_last_33 : decode cX12_last 33 = .ok (.istore 4, 2) := by decide +kernel
theorem dX12_last_35 : decode cX12_last 35 = .ok (.iload 4, 2) := by decide +kernel
theorem dX12_last_37 : decode cX12_last 37 = .ok (.ifCond .eq 71, 3) := by decide +kernel
theorem dX12_last_40 : decode cX12_last 40 = .ok (.iload_n 2, 1) := by decide +kernel
theorem dX12_last_41 : decode cX12_last 41 = .ok (.bipush 60, 2) := by decide +kernel
theorem dX12_last_43 : decode cX12_last 43 = .ok (.if_icmp .ge 65, 3) := by decide +kernel
theorem dX12_last_46 : decode cX12_last 46 = .ok (.aload_n 0, 1) := by decide +kernel
theorem dX12_last_47 : decode cX12_last 47 = .ok (.iload_n 3, 1) := by decide +kernel
theorem dX12_last_48 : decode cX12_last 48 = .ok (.iload_n 1, 1) := by decide +kernel
theorem dX12_last_49 : decode cX12_last 49 = .ok (.invokevirtual 488, 3) := by decide +kernel
theorem dX12_last_52 : decode cX12_last 52 = .ok (.istore 5, 2) := by decide +kernel
theorem dX12_last_54 : decode cX12_last 54 = .ok (.iload 5, 2) := by decide +kernel
theorem dX12_last_56 : decode cX12_last 56 = .ok (.ifCond .lt 12, 3) := by decide +kernel
theorem dX12_last_59 : decode cX12_last 59 = .ok (.aload_n 0, 1) := by decide +kernel
theorem dX12_last_60 : decode cX12_last 60 = .ok (.iload 5, 2) := by decide +kernel
theorem dX12_last_62 : decode cX12_last 62 = .ok (.iload_n 1, 1) := by decide +kernel
theorem dX12_last_63 : decode cX12_last 63 = .ok (.iconst 1, 1) := by decide +kernel
theorem dX12_last_64 : decode cX12_last 64 = .ok (.invokevirtual 460, 3) := by decide +kernel
theorem dX12_last_67 : decode cX12_last 67 = .ok (.pop, 1) := by decide +kernel
theorem dX12_last_68 : decode cX12_last 68 = .ok (.iload 5, 2) := by decide +kernel
theorem dX12_last_70 : decode cX12_last 70 = .ok (.ifCond .lt 14, 3) := by decide +kernel
theorem dX12_last_73 : decode cX12_last 73 = .ok (.aload_n 0, 1) := by decide +kernel
theorem dX12_last_74 : decode cX12_last 74 = .ok (.getfield 424, 3) := by decide +kernel
theorem dX12_last_77 : decode cX12_last 77 = .ok (.ifCond .ne 7, 3) := by decide +kernel
theorem dX12_last_80 : decode cX12_last 80 = .ok (.iconst 1, 1) := by decide +kernel
theorem dX12_last_81 : decode cX12_last 81 = .ok (.goto 4, 3) := by decide +kernel
theorem dX12_last_84 : decode cX12_last 84 = .ok (.iconst 0, 1) := by decide +kernel
theorem dX12_last_85 : decode cX12_last 85 = .ok (.istore 4, 2) := by decide +kernel
theorem dX12_last_87 : decode cX12_last 87 = .ok (.iload_n 2, 1) := by decide +kernel
theorem dX12_last_88 : decode cX12_last 88 = .ok (.iload 4, 2) := by decide +kernel
theorem dX12_last_90 : decode cX12_last 90 = .ok (.ifCond .eq 7, 3) := by decide +kernel
theorem dX12_last_93 : decode cX12_last 93 = .ok (.iconst 1, 1) := by decide +kernel
theorem dX12_last_94 : decode cX12_last 94 = .ok (.goto 4, 3) := by decide +kernel
theorem dX12_last_97 : decode cX12_last 97 = .ok (.iconst 0, 1) := by decide +kernel
theorem dX12_last_98 : decode cX12_last 98 = .ok (.iadd, 1) := by decide +kernel
theorem dX12_last_99 : decode cX12_last 99 = .ok (.istore_n 2, 1) := by decide +kernel
theorem dX12_last_100 : decode cX12_last 100 = .ok (.iload 5, 2) := by decide +kernel
theorem dX12_last_102 : decode cX12_last 102 = .ok (.iconst 1, 1) := by decide +kernel
theorem dX12_last_103 : decode cX12_last 103 = .ok (.iadd, 1) := by decide +kernel
theorem dX12_last_104 : decode cX12_last 104 = .ok (.istore_n 3, 1) := by decide +kernel
theorem dX12_last_105 : decode cX12_last 105 = .ok (.goto (-70), 3) := by decide +kernel
theorem dX12_last_108 : decode cX12_last 108 = .ok (.aload_n 0, 1) := by decide +kernel
theorem dX12_last_109 : decode cX12_last 109 = .ok (.getfield 120, 3) := by decide +kernel
theorem dX12_last_112 : decode cX12_last 112 = .ok (.iconst 0, 1) := by decide +kernel
theorem dX12_last_113 : decode cX12_last 113 = .ok (.aload_n 0, 1) := by decide +kernel
theorem dX12_last_114 : decode cX12_last 114 = .ok (.getfield 117, 3) := by decide +kernel
theorem dX12_last_117 : decode cX12_last 117 = .ok (.iconst 0, 1) := by decide +kernel
theorem dX12_last_118 : decode cX12_last 118 = .ok (.invokestatic 453, 3) := by decide +kernel
theorem dX12_last_121 : decode cX12_last 121 = .ok (.iload_n 2, 1) := by decide +kernel
theorem dX12_last_122 : decode cX12_last 122 = .ok (.ireturn, 1) := by decide +kernel
theorem dX12_tell_0 : decode cX12_tell 0 = .ok (.aload_n 0, 1) := by decide +kernel
theorem dX12_tell_1 : decode cX12_tell 1 = .ok (.iconst 0, 1) := by decide +kernel
theorem dX12_tell_2 : decode cX12_tell 2 = .ok (.putfield 156, 3) := by decide +kernel
theorem dX12_tell_5 : decode cX12_tell 5 = .ok (.aload_n 0, 1) := by decide +kernel
theorem dX12_tell_6 : decode cX12_tell 6 = .ok (.iload_n 1, 1) := by decide +kernel
theorem dX12_tell_7 : decode cX12_tell 7 = .ok (.invokevirtual 444, 3) := by decide +kernel
theorem dX12_tell_10 : decode cX12_tell 10 = .ok (.ifCond .eq 13, 3) := by decide +kernel
theorem dX12_tell_13 : decode cX12_tell 13 = .ok (.iload_n 2, 1) := by decide +kernel
theorem dX12_tell_14 : decode cX12_tell 14 = .ok (.iconst 0, 1) := by decide +kernel
theorem dX12_tell_15 : decode cX12_tell 15 = .ok (.bipush 99, 2) := by decide +kernel
theorem dX12_tell_17 : decode cX12_tell 17 = .ok (.invokestatic 293, 3) := by decide +kernel
theorem dX12_tell_20 : decode cX12_tell 20 = .ok (.ifCond .ne 5, 3) := by decide +kernel
theorem dX12_tell_23 : decode cX12_tell 23 = .ok (.iconst 0, 1) := by decide +kernel
theorem dX12_tell_24 : decode cX12_tell 24 = .ok (.ireturn, 1) := by decide +kernel
theorem dX12_tell_25 : decode cX12_tell 25 = .ok (.aload_n 0, 1) := by decide +kernel
theorem dX12_tell_26 : decode cX12_tell 26 = .ok (.getfield 114, 3) := by decide +kernel
theorem dX12_tell_29 : decode cX12_tell 29 = .ok (.iload_n 1, 1) := by decide +kernel
theorem dX12_tell_30 : decode cX12_tell 30 = .ok (.iload_n 2, 1) := by decide +kernel
theorem dX12_tell_31 : decode cX12_tell 31 = .ok (.iastore, 1) := by decide +kernel
theorem dX12_tell_32 : decode cX12_tell 32 = .ok (.iconst 1, 1) := by decide +kernel
theorem dX12_tell_33 : decode cX12_tell 33 = .ok (.ireturn, 1) := by decide +kernel
theorem dX12_sets_0 : decode cX12_sets 0 = .ok (.aload_n 0, 1) := by decide +kernel
theorem dX12_sets_1 : decode cX12_sets 1 = .ok (.iconst 0, 1) := by decide +kernel
theorem dX12_sets_2 : decode cX12_sets 2 = .ok (.putfield 156, 3) := by decide +kernel
theorem dX12_sets_5 : decode cX12_sets 5 = .ok (.aload_n 0, 1) := by decide +kernel
theorem dX12_sets_6 : decode cX12_sets 6 = .ok (.iload_n 1, 1) := by decide +kernel
theorem dX12_sets_7 : decode cX12_sets 7 = .ok (.invokevirtual 447, 3) := by decide +kernel
theorem dX12_sets_10 : decode cX12_sets 10 = .ok (.ifCond .eq 12, 3) := by decide +kernel
theorem dX12_sets_13 : decode cX12_sets 13 = .ok (.iload_n 2, 1) := by decide +kernel
theorem dX12_sets_14 : decode cX12_sets 14 = .ok (.iconst 0, 1) := by decide +kernel
theorem dX12_sets_15 : decode cX12_sets 15 = .ok (.iconst 3, 1) := by decide +kernel
theorem dX12_sets_16 : decode cX12_sets 16 = .ok (.invokestatic 293, 3) := by decide +kernel
theorem dX12_sets_19 : decode cX12_sets 19 = .ok (.ifCond .ne 5, 3) := by decide +kernel
theorem dX12_sets_22 : decode cX12_sets 22 = .ok (.iconst (-1), 1) := by decide +kernel
theorem dX12_sets_23 : decode cX12_sets 23 = .ok (.ireturn, 1) := by decide +kernel
theorem dX12_sets_24 : decode cX12_sets 24 = .ok (.iconst 0, 1) := by decide +kernel
theorem dX12_sets_25 : decode cX12_sets 25 = .ok (.istore_n 3, 1) := by decide +kernel
theorem dX12_sets_26 : decode cX12_sets 26 = .ok (.iconst 1, 1) := by decide +kernel
theorem dX12_sets_27 : decode cX12_sets 27 = .ok (.aload_n 0, 1) := by decide +kernel
theorem dX12_sets_28 : decode cX12_sets 28 = .ok (.getfield 13, 3) := by decide +kernel
theorem dX12_sets_31 : decode cX12_sets 31 = .ok (.iconst 0, 1) := by decide +kernel
theorem dX12_sets_32 : decode cX12_sets 32 = .ok (.iaload, 1) := by decide +kernel
theorem dX12_sets_33 : decode cX12_sets 33 = .ok (.ishl, 1) := by decide +kernel
theorem dX12_sets_34 : decode cX12_sets 34 = .ok (.iconst 1, 1) := by decide +kernel
theorem dX12_sets_35 : decode cX12_sets 35 = .ok (.isub, 1) := by decide +kernel
theorem dX12_sets_36 : decode cX12_sets 36 = .ok (.istore 4, 2) := by decide +kernel
theorem dX12_sets_38 : decode cX12_sets 38 = .ok (.iconst 0, 1) := by decide +kernel
theorem dX12_sets_39 : decode cX12_sets 39 = .ok (.istore 5, 2) := by decide +kernel
theorem dX12_sets_41 : decode cX12_sets 41 = .ok (.iconst 0, 1) := by decide +kernel
theorem dX12_sets_42 : decode cX12_sets 42 = .ok (.istore 6, 2) := by decide +kernel
theorem dX12_sets_44 : decode cX12_sets 44 = .ok (.iload 6, 2) := by decide +kernel
theorem dX12_sets_46 : decode cX12_sets 46 = .ok (.iconst 1, 1) := by decide +kernel
theorem dX12_sets_47 : decode cX12_sets 47 = .ok (.aload_n 0, 1) := by decide +kernel
theorem dX12_sets_48 : decode cX12_sets 48 = .ok (.getfield 13, 3) := by decide +kernel
theorem dX12_sets_51 : decode cX12_sets 51 = .ok (.iconst 0, 1) := by decide +kernel
theorem dX12_sets_52 : decode cX12_sets 52 = .ok (.iaload, 1) := by decide +kernel
theorem dX12_sets_53 : decode cX12_sets 53 = .ok (.ishl, 1) := by decide +kernel
theorem dX12_sets_54 : decode cX12_sets 54 = .ok (.if_icmp .ge 39, 3) := by decide +kernel
theorem dX12_sets_57 : decode cX12_sets 57 = .ok (.aload_n 0, 1) := by decide +kernel
theorem dX12_sets_58 : decode cX12_sets 58 = .ok (.iload 6, 2) := by decide +kernel
theorem dX12_sets_60 : decode cX12_sets 60 = .ok (.iload_n 1, 1) := by decide +kernel
theorem dX12_sets_61 : decode cX12_sets 61 = .ok (.invokevirtual 494, 3) := by decide +kernel
theorem dX12_sets_64 : decode cX12_sets 64 = .ok (.ifCond .ne 6, 3) := by decide +kernel
theorem dX12_sets_67 : decode cX12_sets 67 = .ok (.goto 20, 3) := by decide +kernel
theorem dX12_sets_70 : decode cX12_sets 70 = .ok (.iinc 3 1, 3) := by decide +kernel
theorem dX12_sets_73 : decode cX12_sets 73 = .ok (.iload 4, 2) := by decide +kernel
theorem dX12_sets_75 : decode cX12_sets 75 = .ok (.iload 6, 2) := by decide +kernel
theorem dX12_sets_77 : decode cX12_sets 77 = .ok (.iand, 1) := by decide +kernel
theorem dX12_sets_78 : decode cX12_sets 78 = .ok (.istore 4, 2) := by decide +kernel
theorem dX12_sets_80 : decode cX12_sets 80 = .ok (.iload 5, 2) := by decide +kernel
theorem dX12_sets_82 : decode cX12_sets 82 = .ok (.iload 6, 2) := by decide +kernel
theorem dX12_sets_84 : decode cX12_sets 84 = .ok (.ior, 1) := by decide +kernel
theorem dX12_sets_85 : decode cX12_sets 85 = .ok (.istore 5, 2) := by decide +kernel
theorem dX12_sets_87 : decode cX12_sets 87 = .ok (.iinc 6 1, 3) := by decide +kernel
theorem dX12_sets_90 : decode cX12_sets 90 = .ok (.goto (-46), 3) := by decide +kernel
theorem dX12_sets_93 : decode cX12_sets 93 = .ok (.iload_n 3, 1) := by decide +kernel
theorem dX12_sets_94 : decode cX12_sets 94 = .ok (.ifCond .eq 7, 3) := by decide +kernel
theorem dX12_sets_97 : decode cX12_sets 97 = .ok (.iload_n 2, 1) := by decide +kernel
theorem dX12_sets_98 : decode cX12_sets 98 = .ok (.ifCond .ne 13, 3) := by decide +kernel
theorem dX12_sets_101 : decode cX12_sets 101 = .ok (.iload_n 2, 1) := by decide +kernel
theorem dX12_sets_102 : decode cX12_sets 102 = .ok (.ifCond .ne 7, 3) := by decide +kernel
theorem dX12_sets_105 : decode cX12_sets 105 = .ok (.iload_n 3, 1) := by decide +kernel
theorem dX12_sets_106 : decode cX12_sets 106 = .ok (.goto 4, 3) := by decide +kernel
theorem dX12_sets_109 : decode cX12_sets 109 = .ok (.iconst (-1), 1) := by decide +kernel
theorem dX12_sets_110 : decode cX12_sets 110 = .ok (.ireturn, 1) := by decide +kernel
theorem dX12_sets_111 : decode cX12_sets 111 = .ok (.iload_n 2, 1) := by decide +kernel
theorem dX12_sets_112 : decode cX12_sets 112 = .ok (.iconst 1, 1) := by decide +kernel
theorem dX12_sets_113 : decode cX12_sets 113 = .ok (.if_icmp .ne 8, 3) := by decide +kernel
theorem dX12_sets_116 : decode cX12_sets 116 = .ok (.iload 4, 2) := by decide +kernel
theorem dX12_sets_118 : decode cX12_sets 118 = .ok (.goto 19, 3) := by decide +kernel
theorem dX12_sets_121 : decode cX12_sets 121 = .ok (.iload_n 2, 1) := by decide +kernel
theorem dX12_sets_122 : decode cX12_sets 122 = .ok (.iconst 2, 1) := by decide +kernel
theorem dX12_sets_123 : decode cX12_sets 123 = .ok (.if_icmp .ne 8, 3) := by decide +kernel
theorem dX12_sets_126 : decode cX12_sets 126 = .ok (.iload 5, 2) := by decide +kernel
theorem dX12_sets_128 : decode cX12_sets 128 = .ok (.goto 9, 3) := by decide +kernel
theorem dX12_sets_131 : decode cX12_sets 131 = .ok (.aload_n 0, 1) := by decide +kernel
theorem dX12_sets_132 : decode cX12_sets 132 = .ok (.iload_n 1, 1) := by decide +kernel
theorem dX12_sets_133 : decode cX12_sets 133 = .ok (.iload_n 3, 1) := by decide +kernel
theorem dX12_sets_134 : decode cX12_sets 134 = .ok (.invokevirtual 500, 3) := by decide +kernel
theorem dX12_sets_137 : decode cX12_sets 137 = .ok (.ireturn, 1) := by decide +kernel
theorem dX12_stop_0 : decode cX12_stop 0 = .ok (.aload_n 0, 1) := by decide +kernel
theorem dX12_stop_1 : decode cX12_stop 1 = .ok (.iconst 0, 1) := by decide +kernel
theorem dX12_stop_2 : decode cX12_stop 2 = .ok (.putfield 156, 3) := by decide +kernel
theorem dX12_stop_5 : decode cX12_stop 5 = .ok (.aload_n 0, 1) := by decide +kernel
theorem dX12_stop_6 : decode cX12_stop 6 = .ok (.iload_n 1, 1) := by decide +kernel
theorem dX12_stop_7 : decode cX12_stop 7 = .ok (.invokevirtual 444, 3) := by decide +kernel
theorem dX12_stop_10 : decode cX12_stop 10 = .ok (.ifCond .eq 11, 3) := by decide +kernel
theorem dX12_stop_13 : decode cX12_stop 13 = .ok (.aload_n 0, 1) := by decide +kernel
theorem dX12_stop_14 : decode cX12_stop 14 = .ok (.iload_n 1, 1) := by decide +kernel
theorem dX12_stop_15 : decode cX12_stop 15 = .ok (.invokevirtual 395, 3) := by decide +kernel
theorem dX12_stop_18 : decode cX12_stop 18 = .ok (.ifCond .eq 5, 3) := by decide +kernel
theorem dX12_stop_21 : decode cX12_stop 21 = .ok (.iconst (-1), 1) := by decide +kernel
theorem dX12_stop_22 : decode cX12_stop 22 = .ok (.ireturn, 1) := by decide +kernel
theorem dX12_stop_23 : decode cX12_stop 23 = .ok (.aload_n 0, 1) := by decide +kernel
theorem dX12_stop_24 : decode cX12_stop 24 = .ok (.invokevirtual 431, 3) := by decide +kernel
theorem dX12_stop_27 : decode cX12_stop 27 = .ok (.iconst 1, 1) := by decide +kernel
theorem dX12_stop_28 : decode cX12_stop 28 = .ok (.iload_n 1, 1) := by decide +kernel
theorem dX12_stop_29 : decode cX12_stop 29 = .ok (.ishl, 1) := by decide +kernel
theorem dX12_stop_30 : decode cX12_stop 30 = .ok (.iconst (-1), 1) := by decide +kernel
theorem dX12_stop_31 : decode cX12_stop 31 = .ok (.ixor, 1) := by decide +kernel
theorem dX12_stop_32 : decode cX12_stop 32 = .ok (.iand, 1) := by decide +kernel
theorem dX12_stop_33 : decode cX12_stop 33 = .ok (.istore_n 2, 1) := by decide +kernel
theorem dX12_stop_34 : decode cX12_stop 34 = .ok (.iconst (-1), 1) := by decide +kernel
theorem dX12_stop_35 : decode cX12_stop 35 = .ok (.istore_n 3, 1) := by decide +kernel
theorem dX12_stop_36 : decode cX12_stop 36 = .ok (.iconst 0, 1) := by decide +kernel
theorem dX12_stop_37 : decode cX12_stop 37 = .ok (.istore 4, 2) := by decide +kernel
theorem dX12_stop_39 : decode cX12_stop 39 = .ok (.iload 4, 2) := by decide +kernel
theorem dX12_stop_41 : decode cX12_stop 41 = .ok (.iconst 1, 1) := by decide +kernel
theorem dX12_stop_42 : decode cX12_stop 42 = .ok (.aload_n 0, 1) := by decide +kernel
theorem dX12_stop_43 : decode cX12_stop 43 = .ok (.getfield 13, 3) := by decide +kernel
theorem dX12_stop_46 : decode cX12_stop 46 = .ok (.iconst 0, 1) := by decide +kernel
theorem dX12_stop_47 : decode cX12_stop 47 = .ok (.iaload, 1) := by decide +kernel
theorem dX12_stop_48 : decode cX12_stop 48 = .ok (.ishl, 1) := by decide +kernel
theorem dX12_stop_49 : decode cX12_stop 49 = .ok (.if_icmp .ge 53, 3) := by decide +kernel
theorem dX12_stop_52 : decode cX12_stop 52 = .ok (.iload 4, 2) := by decide +kernel
theorem dX12_stop_54 : decode cX12_stop 54 = .ok (.iload_n 2, 1) := by decide +kernel
theorem dX12_stop_55 : decode cX12_stop 55 = .ok (.iconst (-1), 1) := by decide +kernel
theorem dX12_stop_56 : decode cX12_stop 56 = .ok (.ixor, 1) := by decide +kernel
theorem dX12_stop_57 : decode cX12_stop 57 = .ok (.iand, 1) := by decide +kernel
theorem dX12_stop_58 : decode cX12_stop 58 = .ok (.ifCond .ne 38, 3) := by decide +kernel
theorem dX12_stop_61 : decode cX12_stop 61 = .ok (.iload_n 3, 1) := by decide +kernel
theorem dX12_stop_62 : decode cX12_stop 62 = .ok (.ifCond .lt 18, 3) := by decide +kernel
theorem dX12_stop_65 : decode cX12_stop 65 = .ok (.iload 4, 2) := by decide +kernel
theorem dX12_stop_67 : decode cX12_stop 67 = .ok (.invokestatic 503, 3) := by decide +kernel
theorem dX12_stop_70 : decode cX12_stop 70 = .ok (.iload_n 3, 1) := by decide +kernel
theorem dX12_stop_71 : decode cX12_stop 71 = .ok (.invokestatic 503, 3) := by decide +kernel
theorem dX12_stop_74 : decode cX12_stop 74 = .ok (.if_icmp .lt 6, 3) := by decide +kernel
theorem dX12_stop_77 : decode cX12_stop 77 = .ok (.goto 19, 3) := by decide +kernel
theorem dX12_stop_80 : decode cX12_stop 80 = .ok (.aload_n 0, 1) := by decide +kernel
theorem dX12_stop_81 : decode cX12_stop 81 = .ok (.iload 4, 2) := by decide +kernel
theorem dX12_stop_83 : decode cX12_stop 83 = .ok (.invokevirtual 506, 3) := by decide +kernel
theorem dX12_stop_86 : decode cX12_stop 86 = .ok (.iload_n 1, 1) := by decide +kernel
theorem dX12_stop_87 : decode cX12_stop 87 = .ok (.ishr, 1) := by decide +kernel
theorem dX12_stop_88 : decode cX12_stop 88 = .ok (.iconst 1, 1) := by decide +kernel
theorem dX12_stop_89 : decode cX12_stop 89 = .ok (.iand, 1) := by decide +kernel
theorem dX12_stop_90 : decode cX12_stop 90 = .ok (.ifCond .ne 6, 3) := by decide +kernel
theorem dX12_stop_93 : decode cX12_stop 93 = .ok (.iload 4, 2) := by decide +kernel
theorem dX12_stop_95 : decode cX12_stop 95 = .ok (.istore_n 3, 1) := by decide +kernel
theorem dX12_stop_96 : decode cX12_stop 96 = .ok (.iinc 4 1, 3) := by decide +kernel
theorem dX12_stop_99 : decode cX12_stop 99 = .ok (.goto (-60), 3) := by decide +kernel
theorem dX12_stop_102 : decode cX12_stop 102 = .ok (.iload_n 3, 1) := by decide +kernel
theorem dX12_stop_103 : decode cX12_stop 103 = .ok (.ireturn, 1) := by decide +kernel
theorem dX12_power_0 : decode cX12_power 0 = .ok (.aload_n 0, 1) := by decide +kernel
theorem dX12_power_1 : decode cX12_power 1 = .ok (.iconst 0, 1) := by decide +kernel
theorem dX12_power_2 : decode cX12_power 2 = .ok (.putfield 156, 3) := by decide +kernel
theorem dX12_power_5 : decode cX12_power 5 = .ok (.aload_n 0, 1) := by decide +kernel
theorem dX12_power_6 : decode cX12_power 6 = .ok (.iload_n 1, 1) := by decide +kernel
theorem dX12_power_7 : decode cX12_power 7 = .ok (.invokevirtual 444, 3) := by decide +kernel
theorem dX12_power_10 : decode cX12_power 10 = .ok (.ifCond .eq 14, 3) := by decide +kernel
theorem dX12_power_13 : decode cX12_power 13 = .ok (.iload_n 2, 1) := by decide +kernel
theorem dX12_power_14 : decode cX12_power 14 = .ok (.iconst 0, 1) := by decide +kernel
theorem dX12_power_15 : decode cX12_power 15 = .ok (.sipush 999, 3) := by decide +kernel
theorem dX12_power_18 : decode cX12_power 18 = .ok (.invokestatic 293, 3) := by decide +kernel
theorem dX12_power_21 : decode cX12_power 21 = .ok (.ifCond .ne 5, 3) := by decide +kernel
theorem dX12_power_24 : decode cX12_power 24 = .ok (.iconst (-1), 1) := by decide +kernel
theorem dX12_power_25 : decode cX12_power 25 = .ok (.ireturn, 1) := by decide +kernel
theorem dX12_power_26 : decode cX12_power 26 = .ok (.iconst 0, 1) := by decide +kernel
theorem dX12_power_27 : decode cX12_power 27 = .ok (.istore_n 3, 1) := by decide +kernel
theorem dX12_power_28 : decode cX12_power 28 = .ok (.iconst 0, 1) := by decide +kernel
theorem dX12_power_29 : decode cX12_power 29 = .ok (.istore 4, 2) := by decide +kernel
theorem dX12_power_31 : decode cX12_power 31 = .ok (.iload 4, 2) := by decide +kernel
theorem dX12_power_33 : decode cX12_power 33 = .ok (.iconst 1, 1) := by decide +kernel
theorem dX12_power_34 : decode cX12_power 34 = .ok (.aload_n 0, 1) := by decide +kernel
theorem dX12_power_35 : decode cX12_power 35 = .ok (.getfield 13, 3) := by decide +kernel
theorem dX12_power_38 : decode cX12_power 38 = .ok (.iconst 0, 1) := by decide +kernel
theorem dX12_power_39 : decode cX12_power 39 = .ok (.iaload, 1) := by decide +kernel
theorem dX12_power_40 : decode cX12_power 40 = .ok (.ishl, 1) := by decide +kernel
theorem dX12_power_41 : decode cX12_power 41 = .ok (.if_icmp .ge 99, 3) := by decide +kernel
theorem dX12_power_44 : decode cX12_power 44 = .ok (.iload 4, 2) := by decide +kernel
theorem dX12_power_46 : decode cX12_power 46 = .ok (.iload_n 1, 1) := by decide +kernel
theorem dX12_power_47 : decode cX12_power 47 = .ok (.ishr, 1) := by decide +kernel
theorem dX12_power_48 : decode cX12_power 48 = .ok (.iconst 1, 1) := by decide +kernel
theorem dX12_power_49 : decode cX12_power 49 = .ok (.iand, 1) := by decide +kernel
theorem dX12_power_50 : decode cX12_power 50 = .ok (.iconst 1, 1) := by decide +kernel
theorem dX12_power_51 : decode cX12_power 51 = .ok (.if_icmp .ne 6, 3) := by decide +kernel
theorem dX12_power_54 : decode cX12_power 54 = .ok (.goto 80, 3) := by decide +kernel
theorem dX12_power_57 : decode cX12_power 57 = .ok (.iconst 0, 1) := by decide +kernel
theorem dX12_power_58 : decode cX12_power 58 = .ok (.istore 5, 2) := by decide +kernel
theorem dX12_power_60 : decode cX12_power 60 = .ok (.iconst 0, 1) := by decide +kernel
theorem dX12_power_61 : decode cX12_power 61 = .ok (.istore 6, 2) := by decide +kernel
theorem dX12_power_63 : decode cX12_power 63 = .ok (.iload 6, 2) := by decide +kernel
theorem dX12_power_65 : decode cX12_power 65 = .ok (.aload_n 0, 1) := by decide +kernel
theorem dX12_power_66 : decode cX12_power 66 = .ok (.getfield 13, 3) := by decide +kernel
theorem dX12_power_69 : decode cX12_power 69 = .ok (.iconst 0, 1) := by decide +kernel
theorem dX12_power_70 : decode cX12_power 70 = .ok (.iaload, 1) := by decide +kernel
theorem dX12_power_71 : decode cX12_power 71 = .ok (.if_icmp .ge 36, 3) := by decide +kernel
theorem dX12_power_74 : decode cX12_power 74 = .ok (.iload 5, 2) := by decide +kernel
theorem dX12_power_76 : decode cX12_power 76 = .ok (.iload 4, 2) := by decide +kernel
theorem dX12_power_78 : decode cX12_power 78 = .ok (.iload 6, 2) := by decide +kernel
theorem dX12_power_80 : decode cX12_power 80 = .ok (.ishr, 1) := by decide +kernel
theorem dX12_power_81 : decode cX12_power 81 = .ok (.iconst 1, 1) := by decide +kernel
theorem dX12_power_82 : decode cX12_power 82 = .ok (.iand, 1) := by decide +kernel
theorem dX12_power_83 : decode cX12_power 83 = .ok (.iconst 1, 1) := by decide +kernel
theorem dX12_power_84 : decode cX12_power 84 = .ok (.if_icmp .ne 13, 3) := by decide +kernel
theorem dX12_power_87 : decode cX12_power 87 = .ok (.aload_n 0, 1) := by decide +kernel
theorem dX12_power_88 : decode cX12_power 88 = .ok (.getfield 32, 3) := by decide +kernel
theorem dX12_power_91 : decode cX12_power 91 = .ok (.iload 6, 2) := by decide +kernel
theorem dX12_power_93 : decode cX12_power 93 = .ok (.iaload, 1) := by decide +kernel
theorem dX12_power_94 : decode cX12_power 94 = .ok (.goto 4, 3) := by decide +kernel
theorem dX12_power_97 : decode cX12_power 97 = .ok (.iconst 0, 1) := by decide +kernel
theorem dX12_power_98 : decode cX12_power 98 = .ok (.iadd, 1) := by decide +kernel
theorem dX12_power_99 : decode cX12_power 99 = .ok (.istore 5, 2) := by decide +kernel
theorem dX12_power_101 : decode cX12_power 101 = .ok (.iinc 6 1, 3) := by decide +kernel
theorem dX12_power_104 : decode cX12_power 104 = .ok (.goto (-41), 3) := by decide +kernel
theorem dX12_power_107 : decode cX12_power 107 = .ok (.iload_n 3, 1) := by decide +kernel
theorem dX12_power_108 : decode cX12_power 108 = .ok (.iload 5, 2) := by decide +kernel
theorem dX12_power_110 : decode cX12_power 110 = .ok (.iload_n 2, 1) := by decide +kernel
theorem dX12_power_111 : decode cX12_power 111 = .ok (.if_icmp .ge 20, 3) := by decide +kernel
theorem dX12_power_114 : decode cX12_power 114 = .ok (.iload 5, 2) := by decide +kernel
theorem dX12_power_116 : decode cX12_power 116 = .ok (.aload_n 0, 1) := by decide +kernel
theorem dX12_power_117 : decode cX12_power 117 = .ok (.getfield 32, 3) := by decide +kernel
theorem dX12_power_120 : decode cX12_power 120 = .ok (.iload_n 1, 1) := by decide +kernel
theorem dX12_power_121 : decode cX12_power 121 = .ok (.iaload, 1) := by decide +kernel
theorem dX12_power_122 : decode cX12_power 122 = .ok (.iadd, 1) := by decide +kernel
theorem dX12_power_123 : decode cX12_power 123 = .ok (.iload_n 2, 1) := by decide +kernel
theorem dX12_power_124 : decode cX12_power 124 = .ok (.if_icmp .lt 7, 3) := by decide +kernel
theorem dX12_power_127 : decode cX12_power 127 = .ok (.iconst 1, 1) := by decide +kernel
theorem dX12_power_128 : decode cX12_power 128 = .ok (.goto 4, 3) := by decide +kernel
theorem dX12_power_131 : decode cX12_power 131 = .ok (.iconst 0, 1) := by decide +kernel
theorem dX12_power_132 : decode cX12_power 132 = .ok (.iadd, 1) := by decide +kernel
theorem dX12_power_133 : decode cX12_power 133 = .ok (.istore_n 3, 1) := by decide +kernel
theorem dX12_power_134 : decode cX12_power 134 = .ok (.iinc 4 1, 3) := by decide +kernel
theorem dX12_power_137 : decode cX12_power 137 = .ok (.goto (-106), 3) := by decide +kernel
theorem dX12_power_140 : decode cX12_power 140 = .ok (.iload_n 3, 1) := by decide +kernel
theorem dX12_power_141 : decode cX12_power 141 = .ok (.ireturn, 1) := by decide +kernel
theorem dX12_pairs_0 : decode cX12_pairs 0 = .ok (.iload_n 1, 1) := by decide +kernel
theorem dX12_pairs_1 : decode cX12_pairs 1 = .ok (.ifCond .ne 55, 3) := by decide +kernel
theorem dX12_pairs_4 : decode cX12_pairs 4 = .ok (.aload_n 0, 1) := by decide +kernel
theorem dX12_pairs_5 : decode cX12_pairs 5 = .ok (.getfield 509, 3) := by decide +kernel
theorem dX12_pairs_8 : decode cX12_pairs 8 = .ok (.ifCond .lt 12, 3) := by decide +kernel
theorem dX12_pairs_11 : decode cX12_pairs 11 = .ok (.iload_n 3, 1) := by decide +kernel
theorem dX12_pairs_12 : decode cX12_pairs 12 = .ok (.aload_n 0, 1) := by decide +kernel
theorem dX12_pairs_13 : decode cX12_pairs 13 = .ok (.getfield 509, 3) := by decide +kernel
theorem dX12_pairs_16 : decode cX12_pairs 16 = .ok (.if_icmp .lt 4, 3) := by decide +kernel
theorem dX12_pairs_19 : decode cX12_pairs 19 = .ok (.return_, 1) := by decide +kernel
theorem dX12_pairs_20 : decode cX12_pairs 20 = .ok (.aload_n 0, 1) := by decide +kernel
theorem dX12_pairs_21 : decode cX12_pairs 21 = .ok (.iload_n 3, 1) := by decide +kernel
theorem dX12_pairs_22 : decode cX12_pairs 22 = .ok (.putfield 509, 3) := by decide +kernel
theorem dX12_pairs_25 : decode cX12_pairs 25 = .ok (.iconst 0, 1) := by decide +kernel
theorem dX12_pairs_26 : decode cX12_pairs 26 = .ok (.istore 4, 2) := by decide +kernel
theorem dX12_pairs_28 : decode cX12_pairs 28 = .ok (.iload 4, 2) := by decide +kernel
theorem dX12_pairs_30 : decode cX12_pairs 30 = .ok (.bipush 6, 2) := by decide +kernel
theorem dX12_pairs_32 : decode cX12_pairs 32 = .ok (.if_icmp .ge 23, 3) := by decide +kernel
theorem dX12_pairs_35 : decode cX12_pairs 35 = .ok (.aload_n 0, 1) := by decide +kernel
theorem dX12_pairs_36 : decode cX12_pairs 36 = .ok (.getfield 150, 3) := by decide +kernel
theorem dX12_pairs_39 : decode cX12_pairs 39 = .ok (.iload 4, 2) := by decide +kernel
theorem dX12_pairs_41 : decode cX12_pairs 41 = .ok (.aload_n 0, 1) := by decide +kernel
theorem dX12_pairs_42 : decode cX12_pairs 42 = .ok (.getfield 147, 3) := by decide +kernel
theorem dX12_pairs_45 : decode cX12_pairs 45 = .ok (.iload 4, 2) := by decide +kernel
theorem dX12_pairs_47 : decode cX12_pairs 47 = .ok (.iaload, 1) := by decide +kernel
theorem dX12_pairs_48 : decode cX12_pairs 48 = .ok (.iastore, 1) := by decide +kernel
theorem dX12_pairs_49 : decode cX12_pairs 49 = .ok (.iinc 4 1, 3) := by decide +kernel
theorem dX12_pairs_52 : decode cX12_pairs 52 = .ok (.goto (-24), 3) := by decide +kernel
theorem dX12_pairs_55 : decode cX12_pairs 55 = .ok (.return_, 1) := by decide +kernel
theorem dX12_pairs_56 : decode cX12_pairs 56 = .ok (.iconst 0, 1) := by decide +kernel
theorem dX12_pairs_57 : decode cX12_pairs 57 = .ok (.istore 4, 2) := by decide +kernel
theorem dX12_pairs_59 : decode cX12_pairs 59 = .ok (.iload_n 1, 1) := by decide +kernel
theorem dX12_pairs_60 : decode cX12_pairs 60 = .ok (.iload 4, 2) := by decide +kernel
theorem dX12_pairs_62 : decode cX12_pairs 62 = .ok (.ishr, 1) := by decide +kernel
theorem dX12_pairs_63 : decode cX12_pairs 63 = .ok (.iconst 1, 1) := by decide +kernel
theorem dX12_pairs_64 : decode cX12_pairs 64 = .ok (.iand, 1) := by decide +kernel
theorem dX12_pairs_65 : decode cX12_pairs 65 = .ok (.ifCond .ne 9, 3) := by decide +kernel
theorem dX12_pairs_68 : decode cX12_pairs 68 = .ok (.iinc 4 1, 3) := by decide +kernel
theorem dX12_pairs_71 : decode cX12_pairs 71 = .ok (.goto (-12), 3) := by decide +kernel
theorem dX12_pairs_74 : decode cX12_pairs 74 = .ok (.iload 4, 2) := by decide +kernel
theorem dX12_pairs_76 : decode cX12_pairs 76 = .ok (.iconst 1, 1) := by decide +kernel
theorem dX12_pairs_77 : decode cX12_pairs 77 = .ok (.iadd, 1) := by decide +kernel
theorem dX12_pairs_78 : decode cX12_pairs 78 = .ok (.istore 5, 2) := by decide +kernel
theorem dX12_pairs_80 : decode cX12_pairs 80 = .ok (.iload 5, 2) := by decide +kernel
theorem dX12_pairs_82 : decode cX12_pairs 82 = .ok (.aload_n 0, 1) := by decide +kernel
theorem dX12_pairs_83 : decode cX12_pairs 83 = .ok (.getfield 13, 3) := by decide +kernel
theorem dX12_pairs_86 : decode cX12_pairs 86 = .ok (.iconst 0, 1) := by decide +kernel
theorem dX12_pairs_87 : decode cX12_pairs 87 = .ok (.iaload, 1) := by decide +kernel
theorem dX12_pairs_88 : decode cX12_pairs 88 = .ok (.if_icmp .ge 78, 3) := by decide +kernel
theorem dX12_pairs_91 : decode cX12_pairs 91 = .ok (.iload_n 1, 1) := by decide +kernel
theorem dX12_pairs_92 : decode cX12_pairs 92 = .ok (.iload 5, 2) := by decide +kernel
theorem dX12_pairs_94 : decode cX12_pairs 94 = .ok (.ishr, 1) := by decide +kernel
theorem dX12_pairs_95 : decode cX12_pairs 95 = .ok (.iconst 1, 1) := by decide +kernel
theorem dX12_pairs_96 : decode cX12_pairs 96 = .ok (.iand, 1) := by decide +kernel
theorem dX12_pairs_97 : decode cX12_pairs 97 = .ok (.ifCond .ne 6, 3) := by decide +kernel
theorem dX12_pairs_100 : decode cX12_pairs 100 = .ok (.goto 60, 3) := by decide +kernel
theorem dX12_pairs_103 : decode cX12_pairs 103 = .ok (.aload_n 0, 1) := by decide +kernel
theorem dX12_pairs_104 : decode cX12_pairs 104 = .ok (.getfield 147, 3) := by decide +kernel
theorem dX12_pairs_107 : decode cX12_pairs 107 = .ok (.iload 4, 2) := by decide +kernel
theorem dX12_pairs_109 : decode cX12_pairs 109 = .ok (.iload 5, 2) := by decide +kernel
theorem dX12_pairs_111 : decode cX12_pairs 111 = .ok (.iastore, 1) := by decide +kernel
theorem dX12_pairs_112 : decode cX12_pairs 112 = .ok (.aload_n 0, 1) := by decide +kernel
theorem dX12_pairs_113 : decode cX12_pairs 113 = .ok (.getfield 147, 3) := by decide +kernel
theorem dX12_pairs_116 : decode cX12_pairs 116 = .ok (.iload 5, 2) := by decide +kernel
theorem dX12_pairs_118 : decode cX12_pairs 118 = .ok (.iload 4, 2) := by decide +kernel
theorem dX12_pairs_120 : decode cX12_pairs 120 = .ok (.iastore, 1) := by decide +kernel
theorem dX12_pairs_121 : decode cX12_pairs 121 = .ok (.aload_n 0, 1) := by decide +kernel
theorem dX12_pairs_122 : decode cX12_pairs 122 = .ok (.iload_n 1, 1) := by decide +kernel
theorem dX12_pairs_123 : decode cX12_pairs 123 = .ok (.iconst 1, 1) := by decide +kernel
theorem dX12_pairs_124 : decode cX12_pairs 124 = .ok (.iload 4, 2) := by decide +kernel
theorem dX12_pairs_126 : decode cX12_pairs 126 = .ok (.ishl, 1) := by decide +kernel
theorem dX12_pairs_127 : decode cX12_pairs 127 = .ok (.iconst (-1), 1) := by decide +kernel
theorem dX12_pairs_128 : decode cX12_pairs 128 = .ok (.ixor, 1) := by decide +kernel
theorem dX12_pairs_129 : decode cX12_pairs 129 = .ok (.iand, 1) := by decide +kernel
theorem dX12_pairs_130 : decode cX12_pairs 130 = .ok (.iconst 1, 1) := by decide +kernel
theorem dX12_pairs_131 : decode cX12_pairs 131 = .ok (.iload 5, 2) := by decide +kernel
theorem dX12_pairs_133 : decode cX12_pairs 133 = .ok (.ishl, 1) := by decide +kernel
theorem dX12_pairs_134 : decode cX12_pairs 134 = .ok (.iconst (-1), 1) := by decide +kernel
theorem dX12_pairs_135 : decode cX12_pairs 135 = .ok (.ixor, 1) := by decide +kernel
theorem dX12_pairs_136 : decode cX12_pairs 136 = .ok (.iand, 1) := by decide +kernel
theorem dX12_pairs_137 : decode cX12_pairs 137 = .ok (.iload_n 2, 1) := by decide +kernel
theorem dX12_pairs_138 : decode cX12_pairs 138 = .ok (.iload_n 3, 1) := by decide +kernel
theorem dX12_pairs_139 : decode cX12_pairs 139 = .ok (.aload_n 0, 1) := by decide +kernel
theorem dX12_pairs_140 : decode cX12_pairs 140 = .ok (.getfield 29, 3) := by decide +kernel
theorem dX12_pairs_143 : decode cX12_pairs 143 = .ok (.iload 4, 2) := by decide +kernel
theorem dX12_pairs_145 : decode cX12_pairs 145 = .ok (.iaload, 1) := by decide +kernel
theorem dX12_pairs_146 : decode cX12_pairs 146 = .ok (.aload_n 0, 1) := by decide +kernel
theorem dX12_pairs_147 : decode cX12_pairs 147 = .ok (.getfield 29, 3) := by decide +kernel
theorem dX12_pairs_150 : decode cX12_pairs 150 = .ok (.iload 5, 2) := by decide +kernel
theorem dX12_pairs_152 : decode cX12_pairs 152 = .ok (.iaload, 1) := by decide +kernel
theorem dX12_pairs_153 : decode cX12_pairs 153 = .ok (.invokestatic 402, 3) := by decide +kernel
theorem dX12_pairs_156 : decode cX12_pairs 156 = .ok (.iadd, 1) := by decide +kernel
theorem dX12_pairs_157 : decode cX12_pairs 157 = .ok (.invokevirtual 512, 3) := by decide +kernel
theorem dX12_pairs_160 : decode cX12_pairs 160 = .ok (.iinc 5 1, 3) := by decide +kernel
theorem dX12_pairs_163 : decode cX12_pairs 163 = .ok (.goto (-83), 3) := by decide +kernel
theorem dX12_pairs_166 : decode cX12_pairs 166 = .ok (.aload_n 0, 1) := by decide +kernel
theorem dX12_pairs_167 : decode cX12_pairs 167 = .ok (.getfield 147, 3) := by decide +kernel
theorem dX12_pairs_170 : decode cX12_pairs 170 = .ok (.iload 4, 2) := by decide +kernel
theorem dX12_pairs_172 : decode cX12_pairs 172 = .ok (.iconst (-1), 1) := by decide +kernel
theorem dX12_pairs_173 : decode cX12_pairs 173 = .ok (.iastore, 1) := by decide +kernel
theorem dX12_pairs_174 : decode cX12_pairs 174 = .ok (.iload_n 2, 1) := by decide +kernel
theorem dX12_pairs_175 : decode cX12_pairs 175 = .ok (.ifCond .eq 17, 3) := by decide +kernel
theorem dX12_pairs_178 : decode cX12_pairs 178 = .ok (.aload_n 0, 1) := by decide +kernel
theorem dX12_pairs_179 : decode cX12_pairs 179 = .ok (.iload_n 1, 1) := by decide +kernel
theorem dX12_pairs_180 : decode cX12_pairs 180 = .ok (.iconst 1, 1) := by decide +kernel
theorem dX12_pairs_181 : decode cX12_pairs 181 = .ok (.iload 4, 2) := by decide +kernel
theorem dX12_pairs_183 : decode cX12_pairs 183 = .ok (.ishl, 1) := by decide +kernel
theorem dX12_pairs_184 : decode cX12_pairs 184 = .ok (.iconst (-1), 1) := by decide +kernel
theorem dX12_pairs_185 : decode cX12_pairs 185 = .ok (.ixor, 1) := by decide +kernel
theorem dX12_pairs_186 : decode cX12_pairs 186 = .ok (.iand, 1) := by decide +kernel
theorem dX12_pairs_187 : decode cX12_pairs 187 = .ok (.iconst 0, 1) := by decide +kernel
theorem dX12_pairs_188 : decode cX12_pairs 188 = .ok (.iload_n 3, 1) := by decide +kernel
theorem dX12_pairs_189 : decode cX12_pairs 189 = .ok (.invokevirtual 512, 3) := by decide +kernel
theorem dX12_pairs_192 : decode cX12_pairs 192 = .ok (.return_, 1) := by decide +kernel
theorem dX12_couples_0 : decode cX12_couples 0 = .ok (.aload_n 0, 1) := by decide +kernel
theorem dX12_couples_1 : decode cX12_couples 1 = .ok (.iconst 0, 1) := by decide +kernel
theorem dX12_couples_2 : decode cX12_couples 2 = .ok (.putfield 156, 3) := by decide +kernel
theorem dX12_couples_5 : decode cX12_couples 5 = .ok (.iload_n 1, 1) := by decide +kernel
theorem dX12_couples_6 : decode cX12_couples 6 = .ok (.iconst (-1), 1) := by decide +kernel
theorem dX12_couples_7 : decode cX12_couples 7 = .ok (.if_icmp .eq 14, 3) := by decide +kernel
theorem dX12_couples_10 : decode cX12_couples 10 = .ok (.aload_n 0, 1) := by decide +kernel
theorem dX12_couples_11 : decode cX12_couples 11 = .ok (.iload_n 1, 1) := by decide +kernel
theorem dX12_couples_12 : decode cX12_couples 12 = .ok (.invokevirtual 444, 3) := by decide +kernel
theorem dX12_couples_15 : decode cX12_couples 15 = .ok (.ifCond .ne 6, 3) := by decide +kernel
theorem dX12_couples_18 : decode cX12_couples 18 = .ok (.bipush (-2), 2) := by decide +kernel
theorem dX12_couples_20 : decode cX12_couples 20 = .ok (.ireturn, 1) := by decide +kernel
theorem dX12_couples_21 : decode cX12_couples 21 = .ok (.aload_n 0, 1) := by decide +kernel
theorem dX12_couples_22 : decode cX12_couples 22 = .ok (.invokevirtual 431, 3) := by decide +kernel
theorem dX12_couples_25 : decode cX12_couples 25 = .ok (.istore_n 2, 1) := by decide +kernel
theorem dX12_couples_26 : decode cX12_couples 26 = .ok (.iconst 0, 1) := by decide +kernel
theorem dX12_couples_27 : decode cX12_couples 27 = .ok (.istore_n 3, 1) := by decide +kernel
theorem dX12_couples_28 : decode cX12_couples 28 = .ok (.iload_n 3, 1) := by decide +kernel
theorem dX12_couples_29 : decode cX12_couples 29 = .ok (.bipush 6, 2) := by decide +kernel
theorem dX12_couples_31 : decode cX12_couples 31 = .ok (.if_icmp .ge 16, 3) := by decide +kernel
theorem dX12_couples_34 : decode cX12_couples 34 = .ok (.aload_n 0, 1) := by decide +kernel
theorem dX12_couples_35 : decode cX12_couples 35 = .ok (.getfield 147, 3) := by decide +kernel
theorem dX12_couples_38 : decode cX12_couples 38 = .ok (.iload_n 3, 1) := by decide +kernel
theorem dX12_couples_39 : decode cX12_couples 39 = .ok (.iconst (-1), 1) := by decide +kernel
theorem dX12_couples_40 : decode cX12_couples 40 = .ok (.iastore, 1) := by decide +kernel
theorem dX12_couples_41 : decode cX12_couples 41 = .ok (.iinc 3 1, 3) := by decide +kernel
theorem dX12_couples_44 : decode cX12_couples 44 = .ok (.goto (-16), 3) := by decide +kernel
theorem dX12_couples_47 : decode cX12_couples 47 = .ok (.aload_n 0, 1) := by decide +kernel
theorem dX12_couples_48 : decode cX12_couples 48 = .ok (.iconst (-1), 1) := by decide +kernel
theorem dX12_couples_49 : decode cX12_couples 49 = .ok (.putfield 509, 3) := by decide +kernel
theorem dX12_couples_52 : decode cX12_couples 52 = .ok (.aload_n 0, 1) := by decide +kernel
theorem dX12_couples_53 : decode cX12_couples 53 = .ok (.iload_n 2, 1) := by decide +kernel
theorem dX12_couples_54 : decode cX12_couples 54 = .ok (.iload_n 2, 1) := by decide +kernel
theorem dX12_couples_55 : decode cX12_couples 55 = .ok (.invokestatic 503, 3) := by decide +kernel
theorem dX12_couples_58 : decode cX12_couples 58 = .ok (.iconst 2, 1) := by decide +kernel
theorem dX12_couples_59 : decode cX12_couples 59 = .ok (.irem, 1) := by decide +kernel
theorem dX12_couples_60 : decode cX12_couples 60 = .ok (.iconst 1, 1) := by decide +kernel
theorem dX12_couples_61 : decode cX12_couples 61 = .ok (.if_icmp .ne 7, 3) := by decide +kernel
theorem dX12_couples_64 : decode cX12_couples 64 = .ok (.iconst 1, 1) := by decide +kernel
theorem dX12_couples_65 : decode cX12_couples 65 = .ok (.goto 4, 3) := by decide +kernel
theorem dX12_couples_68 : decode cX12_couples 68 = .ok (.iconst 0, 1) := by decide +kernel
theorem dX12_couples_69 : decode cX12_couples 69 = .ok (.iconst 0, 1) := by decide +kernel
theorem dX12_couples_70 : decode cX12_couples 70 = .ok (.invokevirtual 512, 3) := by decide +kernel
theorem dX12_couples_73 : decode cX12_couples 73 = .ok (.iload_n 1, 1) := by decide +kernel
theorem dX12_couples_74 : decode cX12_couples 74 = .ok (.iconst (-1), 1) := by decide +kernel
theorem dX12_couples_75 : decode cX12_couples 75 = .ok (.if_icmp .ne 10, 3) := by decide +kernel
theorem dX12_couples_78 : decode cX12_couples 78 = .ok (.aload_n 0, 1) := by decide +kernel
theorem dX12_couples_79 : decode cX12_couples 79 = .ok (.getfield 509, 3) := by decide +kernel
theorem dX12_couples_82 : decode cX12_couples 82 = .ok (.goto 22, 3) := by decide +kernel
theorem dX12_couples_85 : decode cX12_couples 85 = .ok (.iload_n 2, 1) := by decide +kernel
theorem dX12_couples_86 : decode cX12_couples 86 = .ok (.iload_n 1, 1) := by decide +kernel
theorem dX12_couples_87 : decode cX12_couples 87 = .ok (.ishr, 1) := by decide +kernel
theorem dX12_couples_88 : decode cX12_couples 88 = .ok (.iconst 1, 1) := by decide +kernel
theorem dX12_couples_89 : decode cX12_couples 89 = .ok (.iand, 1) := by decide +kernel
theorem dX12_couples_90 : decode cX12_couples 90 = .ok (.iconst 1, 1) := by decide +kernel
theorem dX12_couples_91 : decode cX12_couples 91 = .ok (.if_icmp .ne 12, 3) := by decide +kernel
theorem dX12_couples_94 : decode cX12_couples 94 = .ok (.aload_n 0, 1) := by decide +kernel
theorem dX12_couples_95 : decode cX12_couples 95 = .ok (.getfield 150, 3) := by decide +kernel
theorem dX12_couples_98 : decode cX12_couples 98 = .ok (.iload_n 1, 1) := by decide +kernel
theorem dX12_couples_99 : decode cX12_couples 99 = .ok (.iaload, 1) := by decide +kernel
theorem dX12_couples_100 : decode cX12_couples 100 = .ok (.goto 4, 3) := by decide +kernel
theorem dX12_couples_103 : decode cX12_couples 103 = .ok (.iconst (-1), 1) := by decide +kernel
theorem dX12_couples_104 : decode cX12_couples 104 = .ok (.ireturn, 1) := by decide +kernel
theorem dX12_gets_0 : decode cX12_gets 0 = .ok (.iconst 3, 1) := by decide +kernel
theorem dX12_gets_1 : decode cX12_gets 1 = .ok (.iload_n 2, 1) := by decide +kernel
theorem dX12_gets_2 : decode cX12_gets 2 = .ok (.imul, 1) := by decide +kernel
theorem dX12_gets_3 : decode cX12_gets 3 = .ok (.iload_n 1, 1) := by decide +kernel
theorem dX12_gets_4 : decode cX12_gets 4 = .ok (.iconst 0, 1) := by decide +kernel
theorem dX12_gets_5 : decode cX12_gets 5 = .ok (.iload_n 2, 1) := by decide +kernel
theorem dX12_gets_6 : decode cX12_gets 6 = .ok (.iload_n 3, 1) := by decide +kernel
theorem dX12_gets_7 : decode cX12_gets 7 = .ok (.iadd, 1) := by decide +kernel
theorem dX12_gets_8 : decode cX12_gets 8 = .ok (.iload_n 0, 1) := by decide +kernel
theorem dX12_gets_9 : decode cX12_gets 9 = .ok (.isub, 1) := by decide +kernel
theorem dX12_gets_10 : decode cX12_gets 10 = .ok (.invokestatic 416, 3) := by decide +kernel
theorem dX12_gets_13 : decode cX12_gets 13 = .ok (.imul, 1) := by decide +kernel
theorem dX12_gets_14 : decode cX12_gets 14 = .ok (.isub, 1) := by decide +kernel
theorem dX12_gets_15 : decode cX12_gets 15 = .ok (.ireturn, 1) := by decide +kernel
theorem dX12_isRest_0 : decode cX12_isRest 0 = .ok (.iconst 1, 1) := by decide +kernel
theorem dX12_isRest_1 : decode cX12_isRest 1 = .ok (.istore 4, 2) := by decide +kernel
theorem dX12_isRest_3 : decode cX12_isRest 3 = .ok (.iload 4, 2) := by decide +kernel
theorem dX12_isRest_5 : decode cX12_isRest 5 = .ok (.bipush 6, 2) := by decide +kernel
theorem dX12_isRest_7 : decode cX12_isRest 7 = .ok (.if_icmp .ge 47, 3) := by decide +kernel
theorem dX12_isRest_10 : decode cX12_isRest 10 = .ok (.iload_n 0, 1) := by decide +kernel
theorem dX12_isRest_11 : decode cX12_isRest 11 = .ok (.iload_n 1, 1) := by decide +kernel
theorem dX12_isRest_12 : decode cX12_isRest 12 = .ok (.iload 4, 2) := by decide +kernel
theorem dX12_isRest_14 : decode cX12_isRest 14 = .ok (.iload_n 3, 1) := by decide +kernel
theorem dX12_isRest_15 : decode cX12_isRest 15 = .ok (.invokestatic 516, 3) := by decide +kernel
theorem dX12_isRest_18 : decode cX12_isRest 18 = .ok (.iload_n 0, 1) := by decide +kernel
theorem dX12_isRest_19 : decode cX12_isRest 19 = .ok (.iload_n 1, 1) := by decide +kernel
theorem dX12_isRest_20 : decode cX12_isRest 20 = .ok (.iload_n 2, 1) := by decide +kernel
theorem dX12_isRest_21 : decode cX12_isRest 21 = .ok (.iload_n 3, 1) := by decide +kernel
theorem dX12_isRest_22 : decode cX12_isRest 22 = .ok (.invokestatic 516, 3) := by decide +kernel
theorem dX12_isRest_25 : decode cX12_isRest 25 = .ok (.if_icmp .gt 21, 3) := by decide +kernel
theorem dX12_isRest_28 : decode cX12_isRest 28 = .ok (.iload_n 0, 1) := by decide +kernel
theorem dX12_isRest_29 : decode cX12_isRest 29 = .ok (.iload_n 1, 1) := by decide +kernel
theorem dX12_isRest_30 : decode cX12_isRest 30 = .ok (.iload 4, 2) := by decide +kernel
theorem dX12_isRest_32 : decode cX12_isRest 32 = .ok (.iload_n 2, 1) := by decide +kernel
theorem dX12_isRest_33 : decode cX12_isRest 33 = .ok (.invokestatic 516, 3) := by decide +kernel
theorem dX12_isRest_36 : decode cX12_isRest 36 = .ok (.iload_n 0, 1) := by decide +kernel
theorem dX12_isRest_37 : decode cX12_isRest 37 = .ok (.iload_n 1, 1) := by decide +kernel
theorem dX12_isRest_38 : decode cX12_isRest 38 = .ok (.iload_n 3, 1) := by decide +kernel
theorem dX12_isRest_39 : decode cX12_isRest 39 = .ok (.iload_n 2, 1) := by decide +kernel
theorem dX12_isRest_40 : decode cX12_isRest 40 = .ok (.invokestatic 516, 3) := by decide +kernel
theorem dX12_isRest_43 : decode cX12_isRest 43 = .ok (.if_icmp .le 5, 3) := by decide +kernel
theorem dX12_isRest_46 : decode cX12_isRest 46 = .ok (.iconst 0, 1) := by decide +kernel
theorem dX12_isRest_47 : decode cX12_isRest 47 = .ok (.ireturn, 1) := by decide +kernel
theorem dX12_isRest_48 : decode cX12_isRest 48 = .ok (.iinc 4 1, 3) := by decide +kernel
theorem dX12_isRest_51 : decode cX12_isRest 51 = .ok (.goto (-48), 3) := by decide +kernel
theorem dX12_isRest_54 : decode cX12_isRest 54 = .ok (.iconst 1, 1) := by decide +kernel
theorem dX12_isRest_55 : decode cX12_isRest 55 = .ok (.ireturn, 1) := by decide +kernel
theorem dX12_rests_0 : decode cX12_rests 0 = .ok (.aload_n 0, 1) := by decide +kernel
theorem dX12_rests_1 : decode cX12_rests 1 = .ok (.iload_n 1, 1) := by decide +kernel
theorem dX12_rests_2 : decode cX12_rests 2 = .ok (.iconst 0, 1) := by decide +kernel
theorem dX12_rests_3 : decode cX12_rests 3 = .ok (.bipush 20, 2) := by decide +kernel
theorem dX12_rests_5 : decode cX12_rests 5 = .ok (.invokestatic 293, 3) := by decide +kernel
theorem dX12_rests_8 : decode cX12_rests 8 = .ok (.ifCond .eq 22, 3) := by decide +kernel
theorem dX12_rests_11 : decode cX12_rests 11 = .ok (.iload_n 2, 1) := by decide +kernel
theorem dX12_rests_12 : decode cX12_rests 12 = .ok (.iconst 0, 1) := by decide +kernel
theorem dX12_rests_13 : decode cX12_rests 13 = .ok (.bipush 9, 2) := by decide +kernel
theorem dX12_rests_15 : decode cX12_rests 15 = .ok (.invokestatic 293, 3) := by decide +kernel
theorem dX12_rests_18 : decode cX12_rests 18 = .ok (.ifCond .eq 12, 3) := by decide +kernel
theorem dX12_rests_21 : decode cX12_rests 21 = .ok (.iload_n 3, 1) := by decide +kernel
theorem dX12_rests_22 : decode cX12_rests 22 = .ok (.iconst (-1), 1) := by decide +kernel
theorem dX12_rests_23 : decode cX12_rests 23 = .ok (.if_icmp .lt 7, 3) := by decide +kernel
theorem dX12_rests_26 : decode cX12_rests 26 = .ok (.iconst 0, 1) := by decide +kernel
theorem dX12_rests_27 : decode cX12_rests 27 = .ok (.goto 4, 3) := by decide +kernel
theorem dX12_rests_30 : decode cX12_rests 30 = .ok (.iconst 1, 1) := by decide +kernel
theorem dX12_rests_31 : decode cX12_rests 31 = .ok (.putfield 156, 3) := by decide +kernel
theorem dX12_rests_34 : decode cX12_rests 34 = .ok (.aload_n 0, 1) := by decide +kernel
theorem dX12_rests_35 : decode cX12_rests 35 = .ok (.getfield 156, 3) := by decide +kernel
theorem dX12_rests_38 : decode cX12_rests 38 = .ok (.iconst 1, 1) := by decide +kernel
theorem dX12_rests_39 : decode cX12_rests 39 = .ok (.if_icmp .ne 5, 3) := by decide +kernel
theorem dX12_rests_42 : decode cX12_rests 42 = .ok (.iconst 0, 1) := by decide +kernel
theorem dX12_rests_43 : decode cX12_rests 43 = .ok (.ireturn, 1) := by decide +kernel
theorem dX12_rests_44 : decode cX12_rests 44 = .ok (.iconst 0, 1) := by decide +kernel
theorem dX12_rests_45 : decode cX12_rests 45 = .ok (.istore 4, 2) := by decide +kernel
theorem dX12_rests_47 : decode cX12_rests 47 = .ok (.iconst 1, 1) := by decide +kernel
theorem dX12_rests_48 : decode cX12_rests 48 = .ok (.istore 5, 2) := by decide +kernel
theorem dX12_rests_50 : decode cX12_rests 50 = .ok (.iload 5, 2) := by decide +kernel
theorem dX12_rests_52 : decode cX12_rests 52 = .ok (.bipush 6, 2) := by decide +kernel
theorem dX12_rests_54 : decode cX12_rests 54 = .ok (.if_icmp .ge 58, 3) := by decide +kernel
theorem dX12_rests_57 : decode cX12_rests 57 = .ok (.iconst 1, 1) := by decide +kernel
theorem dX12_rests_58 : decode cX12_rests 58 = .ok (.istore 6, 2) := by decide +kernel
theorem dX12_rests_60 : decode cX12_rests 60 = .ok (.iload 6, 2) := by decide +kernel
theorem dX12_rests_62 : decode cX12_rests 62 = .ok (.bipush 6, 2) := by decide +kernel
theorem dX12_rests_64 : decode cX12_rests 64 = .ok (.if_icmp .ge 42, 3) := by decide +kernel
theorem dX12_rests_67 : decode cX12_rests 67 = .ok (.iload_n 1, 1) := by decide +kernel
theorem dX12_rests_68 : decode cX12_rests 68 = .ok (.iload_n 2, 1) := by decide +kernel
theorem dX12_rests_69 : decode cX12_rests 69 = .ok (.iload 5, 2) := by decide +kernel
theorem dX12_rests_71 : decode cX12_rests 71 = .ok (.iload 6, 2) := by decide +kernel
theorem dX12_rests_73 : decode cX12_rests 73 = .ok (.invokestatic 520, 3) := by decide +kernel
theorem dX12_rests_76 : decode cX12_rests 76 = .ok (.ifCond .ne 6, 3) := by decide +kernel
theorem dX12_rests_79 : decode cX12_rests 79 = .ok (.goto 21, 3) := by decide +kernel
theorem dX12_rests_82 : decode cX12_rests 82 = .ok (.iload 4, 2) := by decide +kernel
theorem dX12_rests_84 : decode cX12_rests 84 = .ok (.iload_n 3, 1) := by decide +kernel
theorem dX12_rests_85 : decode cX12_rests 85 = .ok (.if_icmp .ne 12, 3) := by decide +kernel
theorem dX12_rests_88 : decode cX12_rests 88 = .ok (.bipush 10, 2) := by decide +kernel
theorem dX12_rests_90 : decode cX12_rests 90 = .ok (.iload 5, 2) := by decide +kernel
theorem dX12_rests_92 : decode cX12_rests 92 = .ok (.imul, 1) := by decide +kernel
theorem dX12_rests_93 : decode cX12_rests 93 = .ok (.iload 6, 2) := by decide +kernel
theorem dX12_rests_95 : decode cX12_rests 95 = .ok (.iadd, 1) := by decide +kernel
theorem dX12_rests_96 : decode cX12_rests 96 = .ok (.ireturn, 1) := by decide +kernel
theorem dX12_rests_97 : decode cX12_rests 97 = .ok (.iinc 4 1, 3) := by decide +kernel
theorem dX12_rests_100 : decode cX12_rests 100 = .ok (.iinc 6 1, 3) := by decide +kernel
theorem dX12_rests_103 : decode cX12_rests 103 = .ok (.goto (-43), 3) := by decide +kernel
theorem dX12_rests_106 : decode cX12_rests 106 = .ok (.iinc 5 1, 3) := by decide +kernel
theorem dX12_rests_109 : decode cX12_rests 109 = .ok (.goto (-59), 3) := by decide +kernel
theorem dX12_rests_112 : decode cX12_rests 112 = .ok (.aload_n 0, 1) := by decide +kernel
theorem dX12_rests_113 : decode cX12_rests 113 = .ok (.iload_n 3, 1) := by decide +kernel
theorem dX12_rests_114 : decode cX12_rests 114 = .ok (.iconst (-1), 1) := by decide +kernel
theorem dX12_rests_115 : decode cX12_rests 115 = .ok (.if_icmp .ne 7, 3) := by decide +kernel
theorem dX12_rests_118 : decode cX12_rests 118 = .ok (.iconst 0, 1) := by decide +kernel
theorem dX12_rests_119 : decode cX12_rests 119 = .ok (.goto 4, 3) := by decide +kernel
theorem dX12_rests_122 : decode cX12_rests 122 = .ok (.iconst 1, 1) := by decide +kernel
theorem dX12_rests_123 : decode cX12_rests 123 = .ok (.putfield 156, 3) := by decide +kernel
theorem dX12_rests_126 : decode cX12_rests 126 = .ok (.iload_n 3, 1) := by decide +kernel
theorem dX12_rests_127 : decode cX12_rests 127 = .ok (.iconst (-1), 1) := by decide +kernel
theorem dX12_rests_128 : decode cX12_rests 128 = .ok (.if_icmp .ne 8, 3) := by decide +kernel
theorem dX12_rests_131 : decode cX12_rests 131 = .ok (.iload 4, 2) := by decide +kernel
theorem dX12_rests_133 : decode cX12_rests 133 = .ok (.goto 4, 3) := by decide +kernel
theorem dX12_rests_136 : decode cX12_rests 136 = .ok (.iconst 0, 1) := by decide +kernel
theorem dX12_rests_137 : decode cX12_rests 137 = .ok (.ireturn, 1) := by decide +kernel
theorem dX12_draws_0 : decode cX12_draws 0 = .ok (.aload_n 0, 1) := by decide +kernel
theorem dX12_draws_1 : decode cX12_draws 1 = .ok (.aload_n 0, 1) := by decide +kernel
theorem dX12_draws_2 : decode cX12_draws 2 = .ok (.getfield 524, 3) := by decide +kernel
theorem dX12_draws_5 : decode cX12_draws 5 = .ok (.ldc2_w 527, 3) := by decide +kernel
theorem dX12_draws_8 : decode cX12_draws 8 = .ok (.lmul, 1) := by decide +kernel
theorem dX12_draws_9 : decode cX12_draws 9 = .ok (.ldc2_w 529, 3) := by decide +kernel
theorem dX12_draws_12 : decode cX12_draws 12 = .ok (.ladd, 1) := by decide +kernel
theorem dX12_draws_13 : decode cX12_draws 13 = .ok (.ldc2_w 531, 3) := by decide +kernel
theorem dX12_draws_16 : decode cX12_draws 16 = .ok (.lrem, 1) := by decide +kernel
theorem dX12_draws_17 : decode cX12_draws 17 = .ok (.putfield 524, 3) := by decide +kernel
theorem dX12_draws_20 : decode cX12_draws 20 = .ok (.aload_n 0, 1) := by decide +kernel
theorem dX12_draws_21 : decode cX12_draws 21 = .ok (.getfield 524, 3) := by decide +kernel
theorem dX12_draws_24 : decode cX12_draws 24 = .ok (.ldc2_w 533, 3) := by decide +kernel
theorem dX12_draws_27 : decode cX12_draws 27 = .ok (.ldiv, 1) := by decide +kernel
theorem dX12_draws_28 : decode cX12_draws 28 = .ok (.iload_n 1, 1) := by decide +kernel
theorem dX12_draws_29 : decode cX12_draws 29 = .ok (.i2l, 1) := by decide +kernel
theorem dX12_draws_30 : decode cX12_draws 30 = .ok (.lrem, 1) := by decide +kernel
theorem dX12_draws_31 : decode cX12_draws 31 = .ok (.l2i, 1) := by decide +kernel
theorem dX12_draws_32 : decode cX12_draws 32 = .ok (.ireturn, 1) := by decide +kernel
theorem dX12_livesDay_0 : decode cX12_livesDay 0 = .ok (.aload_n 0, 1) := by decide +kernel
theorem dX12_livesDay_1 : decode cX12_livesDay 1 = .ok (.bipush 10, 2) := by decide +kernel
theorem dX12_livesDay_3 : decode cX12_livesDay 3 = .ok (.invokevirtual 535, 3) := by decide +kernel
theorem dX12_livesDay_6 : decode cX12_livesDay 6 = .ok (.ifCond .ne 20, 3) := by decide +kernel
theorem dX12_livesDay_9 : decode cX12_livesDay 9 = .ok (.aload_n 0, 1) := by decide +kernel
theorem dX12_livesDay_10 : decode cX12_livesDay 10 = .ok (.getfield 117, 3) := by decide +kernel
theorem dX12_livesDay_13 : decode cX12_livesDay 13 = .ok (.iconst 1, 1) := by decide +kernel
theorem dX12_livesDay_14 : decode cX12_livesDay 14 = .ok (.dup2, 1) := by decide +kernel
theorem dX12_livesDay_15 : decode cX12_livesDay 15 = .ok (.iaload, 1) := by decide +kernel
theorem dX12_livesDay_16 : decode cX12_livesDay 16 = .ok (.aload_n 0, 1) := by decide +kernel
theorem dX12_livesDay_17 : decode cX12_livesDay 17 = .ok (.getfield 117, 3) := by decide +kernel
theorem dX12_livesDay_20 : decode cX12_livesDay 20 = .ok (.iconst 1, 1) := by decide +kernel
theorem dX12_livesDay_21 : decode cX12_livesDay 21 = .ok (.iaload, 1) := by decide +kernel
theorem dX12_livesDay_22 : decode cX12_livesDay 22 = .ok (.iconst 2, 1) := by decide +kernel
theorem dX12_livesDay_23 : decode cX12_livesDay 23 = .ok (.idiv, 1) := by decide +kernel
theorem dX12_livesDay_24 : decode cX12_livesDay 24 = .ok (.isub, 1) := by decide +kernel
theorem dX12_livesDay_25 : decode cX12_livesDay 25 = .ok (.iastore, 1) := by decide +kernel
theorem dX12_livesDay_26 : decode cX12_livesDay 26 = .ok (.iconst 0, 1) := by decide +kernel
theorem dX12_livesDay_27 : decode cX12_livesDay 27 = .ok (.istore_n 1, 1) := by decide +kernel
theorem dX12_livesDay_28 : decode cX12_livesDay 28 = .ok (.aload_n 0, 1) := by decide +kernel
theorem dX12_livesDay_29 : decode cX12_livesDay 29 = .ok (.getfield 13, 3) := by decide +kernel
theorem dX12_livesDay_32 : decode cX12_livesDay 32 = .ok (.iconst 0, 1) := by decide +kernel
theorem dX12_livesDay_33 : decode cX12_livesDay 33 = .ok (.iaload, 1) := by decide +kernel
theorem dX12_livesDay_34 : decode cX12_livesDay 34 = .ok (.ifCond .le 69, 3) := by decide +kernel
theorem dX12_livesDay_37 : decode cX12_livesDay 37 = .ok (.aload_n 0, 1) := by decide +kernel
theorem dX12_livesDay_38 : decode cX12_livesDay 38 = .ok (.getfield 13, 3) := by decide +kernel
theorem dX12_livesDay_41 : decode cX12_livesDay 41 = .ok (.iconst 1, 1) := by decide +kernel
theorem dX12_livesDay_42 : decode cX12_livesDay 42 = .ok (.iaload, 1) := by decide +kernel
theorem dX12_livesDay_43 : decode cX12_livesDay 43 = .ok (.ifCond .le 60, 3) := by decide +kernel
theorem dX12_livesDay_46 : decode cX12_livesDay 46 = .ok (.aload_n 0, 1) := by decide +kernel
theorem dX12_livesDay_47 : decode cX12_livesDay 47 = .ok (.aload_n 0, 1) := by decide +kernel
theorem dX12_livesDay_48 : decode cX12_livesDay 48 = .ok (.getfield 13, 3) := by decide +kernel
theorem dX12_livesDay_51 : decode cX12_livesDay 51 = .ok (.iconst 0, 1) := by decide +kernel
theorem dX12_livesDay_52 : decode cX12_livesDay 52 = .ok (.iaload, 1) := by decide +kernel
theorem dX12_livesDay_53 : decode cX12_livesDay 53 = .ok (.invokevirtual 535, 3) := by decide +kernel
theorem dX12_livesDay_56 : decode cX12_livesDay 56 = .ok (.istore_n 2, 1) := by decide +kernel
theorem dX12_livesDay_57 : decode cX12_livesDay 57 = .ok (.aload_n 0, 1) := by decide +kernel
theorem dX12_livesDay_58 : decode cX12_livesDay 58 = .ok (.aload_n 0, 1) := by decide +kernel
theorem dX12_livesDay_59 : decode cX12_livesDay 59 = .ok (.getfield 13, 3) := by decide +kernel
theorem dX12_livesDay_62 : decode cX12_livesDay 62 = .ok (.iconst 1, 1) := by decide +kernel
theorem dX12_livesDay_63 : decode cX12_livesDay 63 = .ok (.iaload, 1) := by decide +kernel
theorem dX12_livesDay_64 : decode cX12_livesDay 64 = .ok (.invokevirtual 535, 3) := by decide +kernel
theorem dX12_livesDay_67 : decode cX12_livesDay 67 = .ok (.istore_n 3, 1) := by decide +kernel
theorem dX12_livesDay_68 : decode cX12_livesDay 68 = .ok (.aload_n 0, 1) := by decide +kernel
theorem dX12_livesDay_69 : decode cX12_livesDay 69 = .ok (.iconst 2, 1) := by decide +kernel
theorem dX12_livesDay_70 : decode cX12_livesDay 70 = .ok (.invokevirtual 535, 3) := by decide +kernel
theorem dX12_livesDay_73 : decode cX12_livesDay 73 = .ok (.ifCond .ne 7, 3) := by decide +kernel
theorem dX12_livesDay_76 : decode cX12_livesDay 76 = .ok (.iconst 1, 1) := by decide +kernel
theorem dX12_livesDay_77 : decode cX12_livesDay 77 = .ok (.goto 4, 3) := by decide +kernel
theorem dX12_livesDay_80 : decode cX12_livesDay 80 = .ok (.iconst 0, 1) := by decide +kernel
theorem dX12_livesDay_81 : decode cX12_livesDay 81 = .ok (.istore 4, 2) := by decide +kernel
theorem dX12_livesDay_83 : decode cX12_livesDay 83 = .ok (.aload_n 0, 1) := by decide +kernel
theorem dX12_livesDay_84 : decode cX12_livesDay 84 = .ok (.iload_n 2, 1) := by decide +kernel
theorem dX12_livesDay_85 : decode cX12_livesDay 85 = .ok (.iload_n 3, 1) := by decide +kernel
theorem dX12_livesDay_86 : decode cX12_livesDay 86 = .ok (.invokevirtual 450, 3) := by decide +kernel
theorem dX12_livesDay_89 : decode cX12_livesDay 89 = .ok (.istore_n 1, 1) := by decide +kernel
theorem dX12_livesDay_90 : decode cX12_livesDay 90 = .ok (.iload_n 1, 1) := by decide +kernel
theorem dX12_livesDay_91 : decode cX12_livesDay 91 = .ok (.ifCond .eq 12, 3) := by decide +kernel
theorem dX12_livesDay_94 : decode cX12_livesDay 94 = .ok (.aload_n 0, 1) := by decide +kernel
theorem dX12_livesDay_95 : decode cX12_livesDay 95 = .ok (.iload_n 2, 1) := by decide +kernel
theorem dX12_livesDay_96 : decode cX12_livesDay 96 = .ok (.iload_n 3, 1) := by decide +kernel
theorem dX12_livesDay_97 : decode cX12_livesDay 97 = .ok (.iload 4, 2) := by decide +kernel
theorem dX12_livesDay_99 : decode cX12_livesDay 99 = .ok (.invokevirtual 460, 3) := by decide +kernel
theorem dX12_livesDay_102 : decode cX12_livesDay 102 = .ok (.pop, 1) := by decide +kernel
theorem dX12_livesDay_103 : decode cX12_livesDay 103 = .ok (.iload_n 1, 1) := by decide +kernel
theorem dX12_livesDay_104 : decode cX12_livesDay 104 = .ok (.ifCond .ne 7, 3) := by decide +kernel
theorem dX12_livesDay_107 : decode cX12_livesDay 107 = .ok (.aload_n 0, 1) := by decide +kernel
theorem dX12_livesDay_108 : decode cX12_livesDay 108 = .ok (.invokevirtual 441, 3) := by decide +kernel
theorem dX12_livesDay_111 : decode cX12_livesDay 111 = .ok (.return_, 1) := by decide +kernel
theorem dX12_sum_0 : decode cX12_sum 0 = .ok (.iconst 0, 1) := by decide +kernel
theorem dX12_sum_1 : decode cX12_sum 1 = .ok (.istore_n 2, 1) := by decide +kernel
theorem dX12_sum_2 : decode cX12_sum 2 = .ok (.iload_n 1, 1) := by decide +kernel
theorem dX12_sum_3 : decode cX12_sum 3 = .ok (.istore_n 3, 1) := by decide +kernel
theorem dX12_sum_4 : decode cX12_sum 4 = .ok (.iload_n 3, 1) := by decide +kernel
theorem dX12_sum_5 : decode cX12_sum 5 = .ok (.iload_n 1, 1) := by decide +kernel
theorem dX12_sum_6 : decode cX12_sum 6 = .ok (.bipush 6, 2) := by decide +kernel
theorem dX12_sum_8 : decode cX12_sum 8 = .ok (.iadd, 1) := by decide +kernel
theorem dX12_sum_9 : decode cX12_sum 9 = .ok (.if_icmp .ge 15, 3) := by decide +kernel
theorem dX12_sum_12 : decode cX12_sum 12 = .ok (.iload_n 2, 1) := by decide +kernel
theorem dX12_sum_13 : decode cX12_sum 13 = .ok (.aload_n 0, 1) := by decide +kernel
theorem dX12_sum_14 : decode cX12_sum 14 = .ok (.iload_n 3, 1) := by decide +kernel
theorem dX12_sum_15 : decode cX12_sum 15 = .ok (.iaload, 1) := by decide +kernel
theorem dX12_sum_16 : decode cX12_sum 16 = .ok (.iadd, 1) := by decide +kernel
theorem dX12_sum_17 : decode cX12_sum 17 = .ok (.istore_n 2, 1) := by decide +kernel
theorem dX12_sum_18 : decode cX12_sum 18 = .ok (.iinc 3 1, 3) := by decide +kernel
theorem dX12_sum_21 : decode cX12_sum 21 = .ok (.goto (-17), 3) := by decide +kernel
theorem dX12_sum_24 : decode cX12_sum 24 = .ok (.iload_n 2, 1) := by decide +kernel
theorem dX12_sum_25 : decode cX12_sum 25 = .ok (.ireturn, 1) := by decide +kernel
theorem dX12_years_0 : decode cX12_years 0 = .ok (.aload_n 0, 1) := by decide +kernel
theorem dX12_years_1 : decode cX12_years 1 = .ok (.iconst 0, 1) := by decide +kernel
theorem dX12_years_2 : decode cX12_years 2 = .ok (.putfield 156, 3) := by decide +kernel
theorem dX12_years_5 : decode cX12_years 5 = .ok (.iload_n 1, 1) := by decide +kernel
theorem dX12_years_6 : decode cX12_years 6 = .ok (.iconst 0, 1) := by decide +kernel
theorem dX12_years_7 : decode cX12_years 7 = .ok (.sipush 9999, 3) := by decide +kernel
theorem dX12_years_10 : decode cX12_years 10 = .ok (.invokestatic 293, 3) := by decide +kernel
theorem dX12_years_13 : decode cX12_years 13 = .ok (.ifCond .eq 22, 3) := by decide +kernel
theorem dX12_years_16 : decode cX12_years 16 = .ok (.iload_n 2, 1) := by decide +kernel
theorem dX12_years_17 : decode cX12_years 17 = .ok (.iconst 1, 1) := by decide +kernel
theorem dX12_years_18 : decode cX12_years 18 = .ok (.bipush 100, 2) := by decide +kernel
theorem dX12_years_20 : decode cX12_years 20 = .ok (.invokestatic 293, 3) := by decide +kernel
theorem dX12_years_23 : decode cX12_years 23 = .ok (.ifCond .eq 12, 3) := by decide +kernel
theorem dX12_years_26 : decode cX12_years 26 = .ok (.iload_n 3, 1) := by decide +kernel
theorem dX12_years_27 : decode cX12_years 27 = .ok (.iconst 0, 1) := by decide +kernel
theorem dX12_years_28 : decode cX12_years 28 = .ok (.iconst 2, 1) := by decide +kernel
theorem dX12_years_29 : decode cX12_years 29 = .ok (.invokestatic 293, 3) := by decide +kernel
theorem dX12_years_32 : decode cX12_years 32 = .ok (.ifCond .ne 5, 3) := by decide +kernel
theorem dX12_years_35 : decode cX12_years 35 = .ok (.iconst (-1), 1) := by decide +kernel
theorem dX12_years_36 : decode cX12_years 36 = .ok (.ireturn, 1) := by decide +kernel
theorem dX12_years_37 : decode cX12_years 37 = .ok (.aload_n 0, 1) := by decide +kernel
theorem dX12_years_38 : decode cX12_years 38 = .ok (.iload_n 1, 1) := by decide +kernel
theorem dX12_years_39 : decode cX12_years 39 = .ok (.i2l, 1) := by decide +kernel
theorem dX12_years_40 : decode cX12_years 40 = .ok (.putfield 524, 3) := by decide +kernel
theorem dX12_years_43 : decode cX12_years 43 = .ok (.aload_n 0, 1) := by decide +kernel
theorem dX12_years_44 : decode cX12_years 44 = .ok (.getfield 117, 3) := by decide +kernel
theorem dX12_years_47 : decode cX12_years 47 = .ok (.iconst 0, 1) := by decide +kernel
theorem dX12_years_48 : decode cX12_years 48 = .ok (.aload_n 0, 1) := by decide +kernel
theorem dX12_years_49 : decode cX12_years 49 = .ok (.getfield 120, 3) := by decide +kernel
theorem dX12_years_52 : decode cX12_years 52 = .ok (.iconst 0, 1) := by decide +kernel
