theorem dX11_nextDraw_8 : decode cX11_nextDraw 8 = .ok (.ladd, 1) := by decide +kernel
theorem dX11_nextDraw_9 : decode cX11_nextDraw 9 = .ok (.ldc2_w 361, 3) := by decide +kernel
theorem dX11_nextDraw_12 : decode cX11_nextDraw 12 = .ok (.lrem, 1) := by decide +kernel
theorem dX11_nextDraw_13 : decode cX11_nextDraw 13 = .ok (.lreturn, 1) := by decide +kernel
theorem dX11_drawBelow_0 : decode cX11_drawBelow 0 = .ok (.iload_n 2, 1) := by decide +kernel
theorem dX11_drawBelow_1 : decode cX11_drawBelow 1 = .ok (.ifCond .le 15, 3) := by decide +kernel
theorem dX11_drawBelow_4 : decode cX11_drawBelow 4 = .ok (.lload_n 0, 1) := by decide +kernel
theorem dX11_drawBelow_5 : decode cX11_drawBelow 5 = .ok (.ldc2_w 363, 3) := by decide +kernel
theorem dX11_drawBelow_8 : decode cX11_drawBelow 8 = .ok (.ldiv, 1) := by decide +kernel
theorem dX11_drawBelow_9 : decode cX11_drawBelow 9 = .ok (.iload_n 2, 1) := by decide +kernel
theorem dX11_drawBelow_10 : decode cX11_drawBelow 10 = .ok (.i2l, 1) := by decide +kernel
theorem dX11_drawBelow_11 : decode cX11_drawBelow 11 = .ok (.lrem, 1) := by decide +kernel
theorem dX11_drawBelow_12 : decode cX11_drawBelow 12 = .ok (.l2i, 1) := by decide +kernel
theorem dX11_drawBelow_13 : decode cX11_drawBelow 13 = .ok (.goto 4, 3) := by decide +kernel
theorem dX11_drawBelow_16 : decode cX11_drawBelow 16 = .ok (.iconst 0, 1) := by decide +kernel
theorem dX11_drawBelow_17 : decode cX11_drawBelow 17 = .ok (.ireturn, 1) := by decide +kernel
theorem dX11_drawsMeal_0 : decode cX11_drawsMeal 0 = .ok (.lload_n 1, 1) := by decide +kernel
theorem dX11_drawsMeal_1 : decode cX11_drawsMeal 1 = .ok (.invokestatic 290, 3) := by decide +kernel
theorem dX11_drawsMeal_4 : decode cX11_drawsMeal 4 = .ok (.lstore_n 3, 1) := by decide +kernel
theorem dX11_drawsMeal_5 : decode cX11_drawsMeal 5 = .ok (.lload_n 3, 1) := by decide +kernel
theorem dX11_drawsMeal_6 : decode cX11_drawsMeal 6 = .ok (.aload_n 0, 1) := by decide +kernel
theorem dX11_drawsMeal_7 : decode cX11_drawsMeal 7 = .ok (.getfield 26, 3) := by decide +kernel
theorem dX11_drawsMeal_10 : decode cX11_drawsMeal 10 = .ok (.getfield 298, 3) := by decide +kernel
theorem dX11_drawsMeal_13 : decode cX11_drawsMeal 13 = .ok (.invokestatic 294, 3) := by decide +kernel
theorem dX11_drawsMeal_16 : decode cX11_drawsMeal 16 = .ok (.istore 5, 2) := by decide +kernel
theorem dX11_drawsMeal_18 : decode cX11_drawsMeal 18 = .ok (.lload_n 3, 1) := by decide +kernel
theorem dX11_drawsMeal_19 : decode cX11_drawsMeal 19 = .ok (.invokestatic 290, 3) := by decide +kernel
theorem dX11_drawsMeal_22 : decode cX11_drawsMeal 22 = .ok (.lstore_n 3, 1) := by decide +kernel
theorem dX11_drawsMeal_23 : decode cX11_drawsMeal 23 = .ok (.lload_n 3, 1) := by decide +kernel
theorem dX11_drawsMeal_24 : decode cX11_drawsMeal 24 = .ok (.aload_n 0, 1) := by decide +kernel
theorem dX11_drawsMeal_25 : decode cX11_drawsMeal 25 = .ok (.getfield 26, 3) := by decide +kernel
theorem dX11_drawsMeal_28 : decode cX11_drawsMeal 28 = .ok (.getfield 301, 3) := by decide +kernel
theorem dX11_drawsMeal_31 : decode cX11_drawsMeal 31 = .ok (.invokestatic 294, 3) := by decide +kernel
theorem dX11_drawsMeal_34 : decode cX11_drawsMeal 34 = .ok (.istore 6, 2) := by decide +kernel
theorem dX11_drawsMeal_36 : decode cX11_drawsMeal 36 = .ok (.lload_n 3, 1) := by decide +kernel
theorem dX11_drawsMeal_37 : decode cX11_drawsMeal 37 = .ok (.invokestatic 290, 3) := by decide +kernel
theorem dX11_drawsMeal_40 : decode cX11_drawsMeal 40 = .ok (.lstore_n 3, 1) := by decide +kernel
theorem dX11_drawsMeal_41 : decode cX11_drawsMeal 41 = .ok (.lload_n 3, 1) := by decide +kernel
theorem dX11_drawsMeal_42 : decode cX11_drawsMeal 42 = .ok (.iconst 2, 1) := by decide +kernel
theorem dX11_drawsMeal_43 : decode cX11_drawsMeal 43 = .ok (.invokestatic 294, 3) := by decide +kernel
theorem dX11_drawsMeal_46 : decode cX11_drawsMeal 46 = .ok (.ifCond .ne 7, 3) := by decide +kernel
theorem dX11_drawsMeal_49 : decode cX11_drawsMeal 49 = .ok (.iconst 1, 1) := by decide +kernel
theorem dX11_drawsMeal_50 : decode cX11_drawsMeal 50 = .ok (.goto 4, 3) := by decide +kernel
theorem dX11_drawsMeal_53 : decode cX11_drawsMeal 53 = .ok (.iconst 0, 1) := by decide +kernel
theorem dX11_drawsMeal_54 : decode cX11_drawsMeal 54 = .ok (.istore 7, 2) := by decide +kernel
theorem dX11_drawsMeal_56 : decode cX11_drawsMeal 56 = .ok (.aload_n 0, 1) := by decide +kernel
theorem dX11_drawsMeal_57 : decode cX11_drawsMeal 57 = .ok (.getfield 50, 3) := by decide +kernel
theorem dX11_drawsMeal_60 : decode cX11_drawsMeal 60 = .ok (.aload_n 0, 1) := by decide +kernel
theorem dX11_drawsMeal_61 : decode cX11_drawsMeal 61 = .ok (.getfield 26, 3) := by decide +kernel
theorem dX11_drawsMeal_64 : decode cX11_drawsMeal 64 = .ok (.iload 5, 2) := by decide +kernel
theorem dX11_drawsMeal_66 : decode cX11_drawsMeal 66 = .ok (.iload 6, 2) := by decide +kernel
theorem dX11_drawsMeal_68 : decode cX11_drawsMeal 68 = .ok (.invokevirtual 328, 3) := by decide +kernel
theorem dX11_drawsMeal_71 : decode cX11_drawsMeal 71 = .ok (.ifCond .eq 21, 3) := by decide +kernel
theorem dX11_drawsMeal_74 : decode cX11_drawsMeal 74 = .ok (.aload_n 0, 1) := by decide +kernel
theorem dX11_drawsMeal_75 : decode cX11_drawsMeal 75 = .ok (.getfield 50, 3) := by decide +kernel
theorem dX11_drawsMeal_78 : decode cX11_drawsMeal 78 = .ok (.aload_n 0, 1) := by decide +kernel
theorem dX11_drawsMeal_79 : decode cX11_drawsMeal 79 = .ok (.getfield 26, 3) := by decide +kernel
theorem dX11_drawsMeal_82 : decode cX11_drawsMeal 82 = .ok (.iload 5, 2) := by decide +kernel
theorem dX11_drawsMeal_84 : decode cX11_drawsMeal 84 = .ok (.iload 6, 2) := by decide +kernel
theorem dX11_drawsMeal_86 : decode cX11_drawsMeal 86 = .ok (.iload 7, 2) := by decide +kernel
theorem dX11_drawsMeal_88 : decode cX11_drawsMeal 88 = .ok (.invokevirtual 176, 3) := by decide +kernel
theorem dX11_drawsMeal_91 : decode cX11_drawsMeal 91 = .ok (.pop, 1) := by decide +kernel
theorem dX11_drawsMeal_92 : decode cX11_drawsMeal 92 = .ok (.lload_n 3, 1) := by decide +kernel
theorem dX11_drawsMeal_93 : decode cX11_drawsMeal 93 = .ok (.lreturn, 1) := by decide +kernel
theorem dX11_sum_0 : decode cX11_sum 0 = .ok (.iconst 0, 1) := by decide +kernel
theorem dX11_sum_1 : decode cX11_sum 1 = .ok (.istore_n 2, 1) := by decide +kernel
theorem dX11_sum_2 : decode cX11_sum 2 = .ok (.iconst 0, 1) := by decide +kernel
theorem dX11_sum_3 : decode cX11_sum 3 = .ok (.istore_n 3, 1) := by decide +kernel
theorem dX11_sum_4 : decode cX11_sum 4 = .ok (.iload_n 3, 1) := by decide +kernel
theorem dX11_sum_5 : decode cX11_sum 5 = .ok (.iload_n 1, 1) := by decide +kernel
theorem dX11_sum_6 : decode cX11_sum 6 = .ok (.if_icmp .ge 21, 3) := by decide +kernel
theorem dX11_sum_9 : decode cX11_sum 9 = .ok (.iload_n 3, 1) := by decide +kernel
theorem dX11_sum_10 : decode cX11_sum 10 = .ok (.aload_n 0, 1) := by decide +kernel
theorem dX11_sum_11 : decode cX11_sum 11 = .ok (.arraylength, 1) := by decide +kernel
theorem dX11_sum_12 : decode cX11_sum 12 = .ok (.if_icmp .ge 15, 3) := by decide +kernel
theorem dX11_sum_15 : decode cX11_sum 15 = .ok (.iload_n 2, 1) := by decide +kernel
theorem dX11_sum_16 : decode cX11_sum 16 = .ok (.aload_n 0, 1) := by decide +kernel
theorem dX11_sum_17 : decode cX11_sum 17 = .ok (.iload_n 3, 1) := by decide +kernel
theorem dX11_sum_18 : decode cX11_sum 18 = .ok (.iaload, 1) := by decide +kernel
theorem dX11_sum_19 : decode cX11_sum 19 = .ok (.iadd, 1) := by decide +kernel
theorem dX11_sum_20 : decode cX11_sum 20 = .ok (.istore_n 2, 1) := by decide +kernel
theorem dX11_sum_21 : decode cX11_sum 21 = .ok (.iinc 3 1, 3) := by decide +kernel
theorem dX11_sum_24 : decode cX11_sum 24 = .ok (.goto (-20), 3) := by decide +kernel
theorem dX11_sum_27 : decode cX11_sum 27 = .ok (.iload_n 2, 1) := by decide +kernel
theorem dX11_sum_28 : decode cX11_sum 28 = .ok (.ireturn, 1) := by decide +kernel
theorem dX12_init_0 : decode cX12_init 0 = .ok (.aload_n 0, 1) := by decide +kernel
theorem dX12_init_1 : decode cX12_init 1 = .ok (.invokespecial 1, 3) := by decide +kernel
theorem dX12_init_4 : decode cX12_init 4 = .ok (.aload_n 0, 1) := by decide +kernel
theorem dX12_init_5 : decode cX12_init 5 = .ok (.sipush 1000, 3) := by decide +kernel
theorem dX12_init_8 : decode cX12_init 8 = .ok (.newarray .int, 2) := by decide +kernel
theorem dX12_init_10 : decode cX12_init 10 = .ok (.putfield 7, 3) := by decide +kernel
theorem dX12_init_13 : decode cX12_init 13 = .ok (.aload_n 0, 1) := by decide +kernel
theorem dX12_init_14 : decode cX12_init 14 = .ok (.bipush 10, 2) := by decide +kernel
theorem dX12_init_16 : decode cX12_init 16 = .ok (.newarray .int, 2) := by decide +kernel
theorem dX12_init_18 : decode cX12_init 18 = .ok (.putfield 13, 3) := by decide +kernel
theorem dX12_init_21 : decode cX12_init 21 = .ok (.aload_n 0, 1) := by decide +kernel
theorem dX12_init_22 : decode cX12_init 22 = .ok (.bipush 12, 2) := by decide +kernel
theorem dX12_init_24 : decode cX12_init 24 = .ok (.newarray .long, 2) := by decide +kernel
theorem dX12_init_26 : decode cX12_init 26 = .ok (.putfield 16, 3) := by decide +kernel
theorem dX12_init_29 : decode cX12_init 29 = .ok (.aload_n 0, 1) := by decide +kernel
theorem dX12_init_30 : decode cX12_init 30 = .ok (.bipush 10, 2) := by decide +kernel
theorem dX12_init_32 : decode cX12_init 32 = .ok (.newarray .long, 2) := by decide +kernel
theorem dX12_init_34 : decode cX12_init 34 = .ok (.putfield 20, 3) := by decide +kernel
theorem dX12_init_37 : decode cX12_init 37 = .ok (.aload_n 0, 1) := by decide +kernel
theorem dX12_init_38 : decode cX12_init 38 = .ok (.bipush 12, 2) := by decide +kernel
theorem dX12_init_40 : decode cX12_init 40 = .ok (.newarray .int, 2) := by decide +kernel
theorem dX12_init_42 : decode cX12_init 42 = .ok (.putfield 23, 3) := by decide +kernel
theorem dX12_init_45 : decode cX12_init 45 = .ok (.aload_n 0, 1) := by decide +kernel
theorem dX12_init_46 : decode cX12_init 46 = .ok (.bipush 12, 2) := by decide +kernel
theorem dX12_init_48 : decode cX12_init 48 = .ok (.newarray .int, 2) := by decide +kernel
theorem dX12_init_50 : decode cX12_init 50 = .ok (.putfield 26, 3) := by decide +kernel
theorem dX12_init_53 : decode cX12_init 53 = .ok (.aload_n 0, 1) := by decide +kernel
theorem dX12_init_54 : decode cX12_init 54 = .ok (.bipush 12, 2) := by decide +kernel
theorem dX12_init_56 : decode cX12_init 56 = .ok (.newarray .int, 2) := by decide +kernel
theorem dX12_init_58 : decode cX12_init 58 = .ok (.putfield 29, 3) := by decide +kernel
theorem dX12_init_61 : decode cX12_init 61 = .ok (.aload_n 0, 1) := by decide +kernel
theorem dX12_init_62 : decode cX12_init 62 = .ok (.bipush 12, 2) := by decide +kernel
theorem dX12_init_64 : decode cX12_init 64 = .ok (.newarray .int, 2) := by decide +kernel
theorem dX12_init_66 : decode cX12_init 66 = .ok (.putfield 32, 3) := by decide +kernel
theorem dX12_init_69 : decode cX12_init 69 = .ok (.aload_n 0, 1) := by decide +kernel
theorem dX12_init_70 : decode cX12_init 70 = .ok (.bipush 12, 2) := by decide +kernel
theorem dX12_init_72 : decode cX12_init 72 = .ok (.newarray .int, 2) := by decide +kernel
theorem dX12_init_74 : decode cX12_init 74 = .ok (.putfield 35, 3) := by decide +kernel
theorem dX12_init_77 : decode cX12_init 77 = .ok (.aload_n 0, 1) := by decide +kernel
theorem dX12_init_78 : decode cX12_init 78 = .ok (.bipush 12, 2) := by decide +kernel
theorem dX12_init_80 : decode cX12_init 80 = .ok (.newarray .int, 2) := by decide +kernel
theorem dX12_init_82 : decode cX12_init 82 = .ok (.putfield 38, 3) := by decide +kernel
theorem dX12_init_85 : decode cX12_init 85 = .ok (.aload_n 0, 1) := by decide +kernel
theorem dX12_init_86 : decode cX12_init 86 = .ok (.bipush 10, 2) := by decide +kernel
theorem dX12_init_88 : decode cX12_init 88 = .ok (.newarray .int, 2) := by decide +kernel
theorem dX12_init_90 : decode cX12_init 90 = .ok (.putfield 41, 3) := by decide +kernel
theorem dX12_init_93 : decode cX12_init 93 = .ok (.aload_n 0, 1) := by decide +kernel
theorem dX12_init_94 : decode cX12_init 94 = .ok (.bipush 10, 2) := by decide +kernel
theorem dX12_init_96 : decode cX12_init 96 = .ok (.newarray .int, 2) := by decide +kernel
theorem dX12_init_98 : decode cX12_init 98 = .ok (.putfield 44, 3) := by decide +kernel
theorem dX12_init_101 : decode cX12_init 101 = .ok (.aload_n 0, 1) := by decide +kernel
theorem dX12_init_102 : decode cX12_init 102 = .ok (.bipush 10, 2) := by decide +kernel
theorem dX12_init_104 : decode cX12_init 104 = .ok (.newarray .int, 2) := by decide +kernel
theorem dX12_init_106 : decode cX12_init 106 = .ok (.putfield 47, 3) := by decide +kernel
theorem dX12_init_109 : decode cX12_init 109 = .ok (.aload_n 0, 1) := by decide +kernel
theorem dX12_init_110 : decode cX12_init 110 = .ok (.bipush 12, 2) := by decide +kernel
theorem dX12_init_112 : decode cX12_init 112 = .ok (.newarray .int, 2) := by decide +kernel
theorem dX12_init_114 : decode cX12_init 114 = .ok (.putfield 50, 3) := by decide +kernel
theorem dX12_init_117 : decode cX12_init 117 = .ok (.aload_n 0, 1) := by decide +kernel
theorem dX12_init_118 : decode cX12_init 118 = .ok (.iconst 2, 1) := by decide +kernel
theorem dX12_init_119 : decode cX12_init 119 = .ok (.newarray .int, 2) := by decide +kernel
theorem dX12_init_121 : decode cX12_init 121 = .ok (.putfield 53, 3) := by decide +kernel
theorem dX12_init_124 : decode cX12_init 124 = .ok (.aload_n 0, 1) := by decide +kernel
theorem dX12_init_125 : decode cX12_init 125 = .ok (.iconst 2, 1) := by decide +kernel
theorem dX12_init_126 : decode cX12_init 126 = .ok (.newarray .int, 2) := by decide +kernel
theorem dX12_init_128 : decode cX12_init 128 = .ok (.putfield 56, 3) := by decide +kernel
theorem dX12_init_131 : decode cX12_init 131 = .ok (.aload_n 0, 1) := by decide +kernel
theorem dX12_init_132 : decode cX12_init 132 = .ok (.sipush 2000, 3) := by decide +kernel
theorem dX12_init_135 : decode cX12_init 135 = .ok (.newarray .int, 2) := by decide +kernel
theorem dX12_init_137 : decode cX12_init 137 = .ok (.putfield 59, 3) := by decide +kernel
theorem dX12_init_140 : decode cX12_init 140 = .ok (.aload_n 0, 1) := by decide +kernel
theorem dX12_init_141 : decode cX12_init 141 = .ok (.bipush 7, 2) := by decide +kernel
theorem dX12_init_143 : decode cX12_init 143 = .ok (.newarray .int, 2) := by decide +kernel
theorem dX12_init_145 : decode cX12_init 145 = .ok (.putfield 62, 3) := by decide +kernel
theorem dX12_init_148 : decode cX12_init 148 = .ok (.aload_n 0, 1) := by decide +kernel
theorem dX12_init_149 : decode cX12_init 149 = .ok (.bipush 7, 2) := by decide +kernel
theorem dX12_init_151 : decode cX12_init 151 = .ok (.newarray .boolean, 2) := by decide +kernel
theorem dX12_init_153 : decode cX12_init 153 = .ok (.putfield 65, 3) := by decide +kernel
theorem dX12_init_156 : decode cX12_init 156 = .ok (.aload_n 0, 1) := by decide +kernel
theorem dX12_init_157 : decode cX12_init 157 = .ok (.bipush 7, 2) := by decide +kernel
theorem dX12_init_159 : decode cX12_init 159 = .ok (.newarray .int, 2) := by decide +kernel
theorem dX12_init_161 : decode cX12_init 161 = .ok (.putfield 69, 3) := by decide +kernel
theorem dX12_init_164 : decode cX12_init 164 = .ok (.aload_n 0, 1) := by decide +kernel
theorem dX12_init_165 : decode cX12_init 165 = .ok (.bipush 7, 2) := by decide +kernel
theorem dX12_init_167 : decode cX12_init 167 = .ok (.newarray .int, 2) := by decide +kernel
theorem dX12_init_169 : decode cX12_init 169 = .ok (.putfield 72, 3) := by decide +kernel
theorem dX12_init_172 : decode cX12_init 172 = .ok (.aload_n 0, 1) := by decide +kernel
theorem dX12_init_173 : decode cX12_init 173 = .ok (.bipush 7, 2) := by decide +kernel
theorem dX12_init_175 : decode cX12_init 175 = .ok (.newarray .int, 2) := by decide +kernel
theorem dX12_init_177 : decode cX12_init 177 = .ok (.putfield 75, 3) := by decide +kernel
theorem dX12_init_180 : decode cX12_init 180 = .ok (.aload_n 0, 1) := by decide +kernel
theorem dX12_init_181 : decode cX12_init 181 = .ok (.bipush 7, 2) := by decide +kernel
theorem dX12_init_183 : decode cX12_init 183 = .ok (.newarray .int, 2) := by decide +kernel
theorem dX12_init_185 : decode cX12_init 185 = .ok (.putfield 78, 3) := by decide +kernel
theorem dX12_init_188 : decode cX12_init 188 = .ok (.aload_n 0, 1) := by decide +kernel
theorem dX12_init_189 : decode cX12_init 189 = .ok (.bipush 7, 2) := by decide +kernel
theorem dX12_init_191 : decode cX12_init 191 = .ok (.newarray .int, 2) := by decide +kernel
theorem dX12_init_193 : decode cX12_init 193 = .ok (.putfield 81, 3) := by decide +kernel
theorem dX12_init_196 : decode cX12_init 196 = .ok (.aload_n 0, 1) := by decide +kernel
theorem dX12_init_197 : decode cX12_init 197 = .ok (.bipush 7, 2) := by decide +kernel
theorem dX12_init_199 : decode cX12_init 199 = .ok (.newarray .int, 2) := by decide +kernel
theorem dX12_init_201 : decode cX12_init 201 = .ok (.putfield 84, 3) := by decide +kernel
theorem dX12_init_204 : decode cX12_init 204 = .ok (.aload_n 0, 1) := by decide +kernel
theorem dX12_init_205 : decode cX12_init 205 = .ok (.bipush 7, 2) := by decide +kernel
theorem dX12_init_207 : decode cX12_init 207 = .ok (.newarray .int, 2) := by decide +kernel
theorem dX12_init_209 : decode cX12_init 209 = .ok (.putfield 87, 3) := by decide +kernel
theorem dX12_init_212 : decode cX12_init 212 = .ok (.aload_n 0, 1) := by decide +kernel
theorem dX12_init_213 : decode cX12_init 213 = .ok (.bipush 7, 2) := by decide +kernel
theorem dX12_init_215 : decode cX12_init 215 = .ok (.newarray .int, 2) := by decide +kernel
theorem dX12_init_217 : decode cX12_init 217 = .ok (.putfield 90, 3) := by decide +kernel
theorem dX12_init_220 : decode cX12_init 220 = .ok (.aload_n 0, 1) := by decide +kernel
theorem dX12_init_221 : decode cX12_init 221 = .ok (.bipush 7, 2) := by decide +kernel
theorem dX12_init_223 : decode cX12_init 223 = .ok (.newarray .int, 2) := by decide +kernel
theorem dX12_init_225 : decode cX12_init 225 = .ok (.putfield 93, 3) := by decide +kernel
theorem dX12_init_228 : decode cX12_init 228 = .ok (.aload_n 0, 1) := by decide +kernel
theorem dX12_init_229 : decode cX12_init 229 = .ok (.bipush 20, 2) := by decide +kernel
theorem dX12_init_231 : decode cX12_init 231 = .ok (.newarray .int, 2) := by decide +kernel
theorem dX12_init_233 : decode cX12_init 233 = .ok (.putfield 96, 3) := by decide +kernel
theorem dX12_init_236 : decode cX12_init 236 = .ok (.aload_n 0, 1) := by decide +kernel
theorem dX12_init_237 : decode cX12_init 237 = .ok (.bipush 6, 2) := by decide +kernel
theorem dX12_init_239 : decode cX12_init 239 = .ok (.newarray .int, 2) := by decide +kernel
theorem dX12_init_241 : decode cX12_init 241 = .ok (.putfield 99, 3) := by decide +kernel
theorem dX12_init_244 : decode cX12_init 244 = .ok (.aload_n 0, 1) := by decide +kernel
theorem dX12_init_245 : decode cX12_init 245 = .ok (.sipush 240, 3) := by decide +kernel
theorem dX12_init_248 : decode cX12_init 248 = .ok (.newarray .int, 2) := by decide +kernel
theorem dX12_init_250 : decode cX12_init 250 = .ok (.putfield 102, 3) := by decide +kernel
theorem dX12_init_253 : decode cX12_init 253 = .ok (.aload_n 0, 1) := by decide +kernel
theorem dX12_init_254 : decode cX12_init 254 = .ok (.sipush 240, 3) := by decide +kernel
theorem dX12_init_257 : decode cX12_init 257 = .ok (.newarray .int, 2) := by decide +kernel
theorem dX12_init_259 : decode cX12_init 259 = .ok (.putfield 105, 3) := by decide +kernel
theorem dX12_init_262 : decode cX12_init 262 = .ok (.aload_n 0, 1) := by decide +kernel
theorem dX12_init_263 : decode cX12_init 263 = .ok (.sipush 240, 3) := by decide +kernel
theorem dX12_init_266 : decode cX12_init 266 = .ok (.newarray .int, 2) := by decide +kernel
theorem dX12_init_268 : decode cX12_init 268 = .ok (.putfield 108, 3) := by decide +kernel
theorem dX12_init_271 : decode cX12_init 271 = .ok (.aload_n 0, 1) := by decide +kernel
theorem dX12_init_272 : decode cX12_init 272 = .ok (.sipush 240, 3) := by decide +kernel
theorem dX12_init_275 : decode cX12_init 275 = .ok (.newarray .boolean, 2) := by decide +kernel
theorem dX12_init_277 : decode cX12_init 277 = .ok (.putfield 111, 3) := by decide +kernel
theorem dX12_init_280 : decode cX12_init 280 = .ok (.aload_n 0, 1) := by decide +kernel
theorem dX12_init_281 : decode cX12_init 281 = .ok (.bipush 30, 2) := by decide +kernel
theorem dX12_init_283 : decode cX12_init 283 = .ok (.newarray .int, 2) := by decide +kernel
theorem dX12_init_285 : decode cX12_init 285 = .ok (.putfield 114, 3) := by decide +kernel
theorem dX12_init_288 : decode cX12_init 288 = .ok (.aload_n 0, 1) := by decide +kernel
theorem dX12_init_289 : decode cX12_init 289 = .ok (.bipush 21, 2) := by decide +kernel
theorem dX12_init_291 : decode cX12_init 291 = .ok (.newarray .int, 2) := by decide +kernel
theorem dX12_init_293 : decode cX12_init 293 = .ok (.putfield 117, 3) := by decide +kernel
theorem dX12_init_296 : decode cX12_init 296 = .ok (.aload_n 0, 1) := by decide +kernel
theorem dX12_init_297 : decode cX12_init 297 = .ok (.bipush 21, 2) := by decide +kernel
theorem dX12_init_299 : decode cX12_init 299 = .ok (.newarray .int, 2) := by decide +kernel
theorem dX12_init_301 : decode cX12_init 301 = .ok (.putfield 120, 3) := by decide +kernel
theorem dX12_init_304 : decode cX12_init 304 = .ok (.aload_n 0, 1) := by decide +kernel
theorem dX12_init_305 : decode cX12_init 305 = .ok (.bipush 84, 2) := by decide +kernel
theorem dX12_init_307 : decode cX12_init 307 = .ok (.newarray .int, 2) := by decide +kernel
theorem dX12_init_309 : decode cX12_init 309 = .ok (.putfield 123, 3) := by decide +kernel
theorem dX12_init_312 : decode cX12_init 312 = .ok (.aload_n 0, 1) := by decide +kernel
theorem dX12_init_313 : decode cX12_init 313 = .ok (.bipush 84, 2) := by decide +kernel
theorem dX12_init_315 : decode cX12_init 315 = .ok (.newarray .int, 2) := by decide +kernel
theorem dX12_init_317 : decode cX12_init 317 = .ok (.putfield 126, 3) := by decide +kernel
theorem dX12_init_320 : decode cX12_init 320 = .ok (.aload_n 0, 1) := by decide +kernel
theorem dX12_init_321 : decode cX12_init 321 = .ok (.sipush 336, 3) := by decide +kernel
theorem dX12_init_324 : decode cX12_init 324 = .ok (.newarray .int, 2) := by decide +kernel
theorem dX12_init_326 : decode cX12_init 326 = .ok (.putfield 129, 3) := by decide +kernel
theorem dX12_init_329 : decode cX12_init 329 = .ok (.aload_n 0, 1) := by decide +kernel
theorem dX12_init_330 : decode cX12_init 330 = .ok (.iconst 4, 1) := by decide +kernel
theorem dX12_init_331 : decode cX12_init 331 = .ok (.newarray .boolean, 2) := by decide +kernel
theorem dX12_init_333 : decode cX12_init 333 = .ok (.putfield 132, 3) := by decide +kernel
theorem dX12_init_336 : decode cX12_init 336 = .ok (.aload_n 0, 1) := by decide +kernel
theorem dX12_init_337 : decode cX12_init 337 = .ok (.bipush 6, 2) := by decide +kernel
theorem dX12_init_339 : decode cX12_init 339 = .ok (.newarray .int, 2) := by decide +kernel
theorem dX12_init_341 : decode cX12_init 341 = .ok (.putfield 135, 3) := by decide +kernel
theorem dX12_init_344 : decode cX12_init 344 = .ok (.aload_n 0, 1) := by decide +kernel
theorem dX12_init_345 : decode cX12_init 345 = .ok (.bipush 6, 2) := by decide +kernel
theorem dX12_init_347 : decode cX12_init 347 = .ok (.newarray .int, 2) := by decide +kernel
theorem dX12_init_349 : decode cX12_init 349 = .ok (.putfield 138, 3) := by decide +kernel
theorem dX12_init_352 : decode cX12_init 352 = .ok (.aload_n 0, 1) := by decide +kernel
theorem dX12_init_353 : decode cX12_init 353 = .ok (.bipush 6, 2) := by decide +kernel
theorem dX12_init_355 : decode cX12_init 355 = .ok (.newarray .int, 2) := by decide +kernel
theorem dX12_init_357 : decode cX12_init 357 = .ok (.putfield 141, 3) := by decide +kernel
theorem dX12_init_360 : decode cX12_init 360 = .ok (.aload_n 0, 1) := by decide +kernel
theorem dX12_init_361 : decode cX12_init 361 = .ok (.bipush 64, 2) := by decide +kernel
theorem dX12_init_363 : decode cX12_init 363 = .ok (.newarray .int, 2) := by decide +kernel
theorem dX12_init_365 : decode cX12_init 365 = .ok (.putfield 144, 3) := by decide +kernel
theorem dX12_init_368 : decode cX12_init 368 = .ok (.aload_n 0, 1) := by decide +kernel
theorem dX12_init_369 : decode cX12_init 369 = .ok (.bipush 6, 2) := by decide +kernel
theorem dX12_init_371 : decode cX12_init 371 = .ok (.newarray .int, 2) := by decide +kernel
theorem dX12_init_373 : decode cX12_init 373 = .ok (.putfield 147, 3) := by decide +kernel
theorem dX12_init_376 : decode cX12_init 376 = .ok (.aload_n 0, 1) := by decide +kernel
theorem dX12_init_377 : decode cX12_init 377 = .ok (.bipush 6, 2) := by decide +kernel
theorem dX12_init_379 : decode cX12_init 379 = .ok (.newarray .int, 2) := by decide +kernel
theorem dX12_init_381 : decode cX12_init 381 = .ok (.putfield 150, 3) := by decide +kernel
theorem dX12_init_384 : decode cX12_init 384 = .ok (.aload_n 0, 1) := by decide +kernel
theorem dX12_init_385 : decode cX12_init 385 = .ok (.getfield 13, 3) := by decide +kernel
theorem dX12_init_388 : decode cX12_init 388 = .ok (.iconst 4, 1) := by decide +kernel
theorem dX12_init_389 : decode cX12_init 389 = .ok (.iconst 2, 1) := by decide +kernel
theorem dX12_init_390 : decode cX12_init 390 = .ok (.iastore, 1) := by decide +kernel
theorem dX12_init_391 : decode cX12_init 391 = .ok (.aload_n 0, 1) := by decide +kernel
theorem dX12_init_392 : decode cX12_init 392 = .ok (.invokevirtual 153, 3) := by decide +kernel
theorem dX12_init_395 : decode cX12_init 395 = .ok (.return_, 1) := by decide +kernel
theorem dX12_within_0 : decode cX12_within 0 = .ok (.iload_n 0, 1) := by decide +kernel
theorem dX12_within_1 : decode cX12_within 1 = .ok (.iload_n 1, 1) := by decide +kernel
theorem dX12_within_2 : decode cX12_within 2 = .ok (.if_icmp .lt 12, 3) := by decide +kernel
theorem dX12_within_5 : decode cX12_within 5 = .ok (.iload_n 0, 1) := by decide +kernel
theorem dX12_within_6 : decode cX12_within 6 = .ok (.iload_n 2, 1) := by decide +kernel
theorem dX12_within_7 : decode cX12_within 7 = .ok (.if_icmp .gt 7, 3) := by decide +kernel
theorem dX12_within_10 : decode cX12_within 10 = .ok (.iconst 1, 1) := by decide +kernel
theorem dX12_within_11 : decode cX12_within 11 = .ok (.goto 4, 3) := by decide +kernel
theorem dX12_within_14 : decode cX12_within 14 = .ok (.iconst 0, 1) := by decide +kernel
theorem dX12_within_15 : decode cX12_within 15 = .ok (.ireturn, 1) := by decide +kernel
theorem dX12_between_0 : decode cX12_between 0 = .ok (.iload_n 0, 1) := by decide +kernel
theorem dX12_between_1 : decode cX12_between 1 = .ok (.iload_n 1, 1) := by decide +kernel
theorem dX12_between_2 : decode cX12_between 2 = .ok (.if_icmp .ge 7, 3) := by decide +kernel
theorem dX12_between_5 : decode cX12_between 5 = .ok (.iload_n 1, 1) := by decide +kernel
theorem dX12_between_6 : decode cX12_between 6 = .ok (.goto 13, 3) := by decide +kernel
theorem dX12_between_9 : decode cX12_between 9 = .ok (.iload_n 0, 1) := by decide +kernel
theorem dX12_between_10 : decode cX12_between 10 = .ok (.iload_n 2, 1) := by decide +kernel
theorem dX12_between_11 : decode cX12_between 11 = .ok (.if_icmp .le 7, 3) := by decide +kernel
theorem dX12_between_14 : decode cX12_between 14 = .ok (.iload_n 2, 1) := by decide +kernel
theorem dX12_between_15 : decode cX12_between 15 = .ok (.goto 4, 3) := by decide +kernel
theorem dX12_between_18 : decode cX12_between 18 = .ok (.iload_n 0, 1) := by decide +kernel
theorem dX12_between_19 : decode cX12_between 19 = .ok (.ireturn, 1) := by decide +kernel
theorem dX12_away_0 : decode cX12_away 0 = .ok (.iload_n 0, 1) := by decide +kernel
theorem dX12_away_1 : decode cX12_away 1 = .ok (.iload_n 1, 1) := by decide +kernel
theorem dX12_away_2 : decode cX12_away 2 = .ok (.if_icmp .ge 9, 3) := by decide +kernel
theorem dX12_away_5 : decode cX12_away 5 = .ok (.iload_n 1, 1) := by decide +kernel
theorem dX12_away_6 : decode cX12_away 6 = .ok (.iload_n 0, 1) := by decide +kernel
theorem dX12_away_7 : decode cX12_away 7 = .ok (.isub, 1) := by decide +kernel
theorem dX12_away_8 : decode cX12_away 8 = .ok (.goto 6, 3) := by decide +kernel
theorem dX12_away_11 : decode cX12_away 11 = .ok (.iload_n 0, 1) := by decide +kernel
theorem dX12_away_12 : decode cX12_away 12 = .ok (.iload_n 1, 1) := by decide +kernel
theorem dX12_away_13 : decode cX12_away 13 = .ok (.isub, 1) := by decide +kernel
theorem dX12_away_14 : decode cX12_away 14 = .ok (.ireturn, 1) := by decide +kernel
theorem dX12_bits_0 : decode cX12_bits 0 = .ok (.iconst 0, 1) := by decide +kernel
theorem dX12_bits_1 : decode cX12_bits 1 = .ok (.istore_n 1, 1) := by decide +kernel
theorem dX12_bits_2 : decode cX12_bits 2 = .ok (.iconst 0, 1) := by decide +kernel
theorem dX12_bits_3 : decode cX12_bits 3 = .ok (.istore_n 2, 1) := by decide +kernel
theorem dX12_bits_4 : decode cX12_bits 4 = .ok (.iload_n 2, 1) := by decide +kernel
theorem dX12_bits_5 : decode cX12_bits 5 = .ok (.bipush 6, 2) := by decide +kernel
theorem dX12_bits_7 : decode cX12_bits 7 = .ok (.if_icmp .ge 17, 3) := by decide +kernel
theorem dX12_bits_10 : decode cX12_bits 10 = .ok (.iload_n 1, 1) := by decide +kernel
theorem dX12_bits_11 : decode cX12_bits 11 = .ok (.iload_n 0, 1) := by decide +kernel
theorem dX12_bits_12 : decode cX12_bits 12 = .ok (.iload_n 2, 1) := by decide +kernel
theorem dX12_bits_13 : decode cX12_bits 13 = .ok (.ishr, 1) := by decide +kernel
theorem dX12_bits_14 : decode cX12_bits 14 = .ok (.iconst 1, 1) := by decide +kernel
theorem dX12_bits_15 : decode cX12_bits 15 = .ok (.iand, 1) := by decide +kernel
theorem dX12_bits_16 : decode cX12_bits 16 = .ok (.iadd, 1) := by decide +kernel
theorem dX12_bits_17 : decode cX12_bits 17 = .ok (.istore_n 1, 1) := by decide +kernel
theorem dX12_bits_18 : decode cX12_bits 18 = .ok (.iinc 2 1, 3) := by decide +kernel
theorem dX12_bits_21 : decode cX12_bits 21 = .ok (.goto (-17), 3) := by decide +kernel
theorem dX12_bits_24 : decode cX12_bits 24 = .ok (.iload_n 1, 1) := by decide +kernel
theorem dX12_bits_25 : decode cX12_bits 25 = .ok (.ireturn, 1) := by decide +kernel
theorem dX12_feed_0 : decode cX12_feed 0 = .ok (.aload_n 0, 1) := by decide +kernel
theorem dX12_feed_1 : decode cX12_feed 1 = .ok (.iconst 0, 1) := by decide +kernel
theorem dX12_feed_2 : decode cX12_feed 2 = .ok (.putfield 156, 3) := by decide +kernel
theorem dX12_feed_5 : decode cX12_feed 5 = .ok (.iconst 0, 1) := by decide +kernel
theorem dX12_feed_6 : decode cX12_feed 6 = .ok (.istore 7, 2) := by decide +kernel
theorem dX12_feed_8 : decode cX12_feed 8 = .ok (.iload 7, 2) := by decide +kernel
theorem dX12_feed_10 : decode cX12_feed 10 = .ok (.bipush 24, 2) := by decide +kernel
theorem dX12_feed_12 : decode cX12_feed 12 = .ok (.if_icmp .ge 108, 3) := by decide +kernel
theorem dX12_feed_15 : decode cX12_feed 15 = .ok (.iload 7, 2) := by decide +kernel
theorem dX12_feed_17 : decode cX12_feed 17 = .ok (.bipush 8, 2) := by decide +kernel
theorem dX12_feed_19 : decode cX12_feed 19 = .ok (.if_icmp .ge 7, 3) := by decide +kernel
theorem dX12_feed_22 : decode cX12_feed 22 = .ok (.lload_n 1, 1) := by decide +kernel
theorem dX12_feed_23 : decode cX12_feed 23 = .ok (.goto 16, 3) := by decide +kernel
theorem dX12_feed_26 : decode cX12_feed 26 = .ok (.iload 7, 2) := by decide +kernel
theorem dX12_feed_28 : decode cX12_feed 28 = .ok (.bipush 16, 2) := by decide +kernel
theorem dX12_feed_30 : decode cX12_feed 30 = .ok (.if_icmp .ge 7, 3) := by decide +kernel
theorem dX12_feed_33 : decode cX12_feed 33 = .ok (.lload_n 3, 1) := by decide +kernel
theorem dX12_feed_34 : decode cX12_feed 34 = .ok (.goto 5, 3) := by decide +kernel
theorem dX12_feed_37 : decode cX12_feed 37 = .ok (.lload 5, 2) := by decide +kernel
theorem dX12_feed_39 : decode cX12_feed 39 = .ok (.lstore 8, 2) := by decide +kernel
theorem dX12_feed_41 : decode cX12_feed 41 = .ok (.lload 8, 2) := by decide +kernel
theorem dX12_feed_43 : decode cX12_feed 43 = .ok (.bipush 56, 2) := by decide +kernel
theorem dX12_feed_45 : decode cX12_feed 45 = .ok (.bipush 8, 2) := by decide +kernel
theorem dX12_feed_47 : decode cX12_feed 47 = .ok (.iload 7, 2) := by decide +kernel
theorem dX12_feed_49 : decode cX12_feed 49 = .ok (.bipush 7, 2) := by decide +kernel
theorem dX12_feed_51 : decode cX12_feed 51 = .ok (.iand, 1) := by decide +kernel
theorem dX12_feed_52 : decode cX12_feed 52 = .ok (.imul, 1) := by decide +kernel
theorem dX12_feed_53 : decode cX12_feed 53 = .ok (.isub, 1) := by decide +kernel
theorem dX12_feed_54 : decode cX12_feed 54 = .ok (.lushr, 1) := by decide +kernel
theorem dX12_feed_55 : decode cX12_feed 55 = .ok (.ldc2_w 160, 3) := by decide +kernel
theorem dX12_feed_58 : decode cX12_feed 58 = .ok (.land, 1) := by decide +kernel
theorem dX12_feed_59 : decode cX12_feed 59 = .ok (.l2i, 1) := by decide +kernel
theorem dX12_feed_60 : decode cX12_feed 60 = .ok (.istore 10, 2) := by decide +kernel
theorem dX12_feed_62 : decode cX12_feed 62 = .ok (.aload_n 0, 1) := by decide +kernel
theorem dX12_feed_63 : decode cX12_feed 63 = .ok (.getfield 162, 3) := by decide +kernel
theorem dX12_feed_66 : decode cX12_feed 66 = .ok (.sipush 1000, 3) := by decide +kernel
theorem dX12_feed_69 : decode cX12_feed 69 = .ok (.if_icmp .ge 45, 3) := by decide +kernel
theorem dX12_feed_72 : decode cX12_feed 72 = .ok (.iload 10, 2) := by decide +kernel
theorem dX12_feed_74 : decode cX12_feed 74 = .ok (.bipush 10, 2) := by decide +kernel
theorem dX12_feed_76 : decode cX12_feed 76 = .ok (.if_icmp .eq 17, 3) := by decide +kernel
theorem dX12_feed_79 : decode cX12_feed 79 = .ok (.iload 10, 2) := by decide +kernel
theorem dX12_feed_81 : decode cX12_feed 81 = .ok (.bipush 32, 2) := by decide +kernel
theorem dX12_feed_83 : decode cX12_feed 83 = .ok (.if_icmp .lt 31, 3) := by decide +kernel
theorem dX12_feed_86 : decode cX12_feed 86 = .ok (.iload 10, 2) := by decide +kernel
theorem dX12_feed_88 : decode cX12_feed 88 = .ok (.bipush 126, 2) := by decide +kernel
theorem dX12_feed_90 : decode cX12_feed 90 = .ok (.if_icmp .gt 24, 3) := by decide +kernel
theorem dX12_feed_93 : decode cX12_feed 93 = .ok (.aload_n 0, 1) := by decide +kernel
theorem dX12_feed_94 : decode cX12_feed 94 = .ok (.getfield 7, 3) := by decide +kernel
theorem dX12_feed_97 : decode cX12_feed 97 = .ok (.aload_n 0, 1) := by decide +kernel
theorem dX12_feed_98 : decode cX12_feed 98 = .ok (.getfield 162, 3) := by decide +kernel
theorem dX12_feed_101 : decode cX12_feed 101 = .ok (.iload 10, 2) := by decide +kernel
theorem dX12_feed_103 : decode cX12_feed 103 = .ok (.iastore, 1) := by decide +kernel
theorem dX12_feed_104 : decode cX12_feed 104 = .ok (.aload_n 0, 1) := by decide +kernel
theorem dX12_feed_105 : decode cX12_feed 105 = .ok (.dup, 1) := by decide +kernel
theorem dX12_feed_106 : decode cX12_feed 106 = .ok (.getfield 162, 3) := by decide +kernel
theorem dX12_feed_109 : decode cX12_feed 109 = .ok (.iconst 1, 1) := by decide +kernel
theorem dX12_feed_110 : decode cX12_feed 110 = .ok (.iadd, 1) := by decide +kernel
theorem dX12_feed_111 : decode cX12_feed 111 = .ok (.putfield 162, 3) := by decide +kernel
theorem dX12_feed_114 : decode cX12_feed 114 = .ok (.iinc 7 1, 3) := by decide +kernel
theorem dX12_feed_117 : decode cX12_feed 117 = .ok (.goto (-109), 3) := by decide +kernel
theorem dX12_feed_120 : decode cX12_feed 120 = .ok (.aload_n 0, 1) := by decide +kernel
theorem dX12_feed_121 : decode cX12_feed 121 = .ok (.getfield 162, 3) := by decide +kernel
theorem dX12_feed_124 : decode cX12_feed 124 = .ok (.ireturn, 1) := by decide +kernel
theorem dX12_signAt_0 : decode cX12_signAt 0 = .ok (.iload_n 1, 1) := by decide +kernel
theorem dX12_signAt_1 : decode cX12_signAt 1 = .ok (.aload_n 0, 1) := by decide +kernel
theorem dX12_signAt_2 : decode cX12_signAt 2 = .ok (.getfield 165, 3) := by decide +kernel
theorem dX12_signAt_5 : decode cX12_signAt 5 = .ok (.if_icmp .ge 12, 3) := by decide +kernel
theorem dX12_signAt_8 : decode cX12_signAt 8 = .ok (.aload_n 0, 1) := by decide +kernel
theorem dX12_signAt_9 : decode cX12_signAt 9 = .ok (.getfield 7, 3) := by decide +kernel
theorem dX12_signAt_12 : decode cX12_signAt 12 = .ok (.iload_n 1, 1) := by decide +kernel
theorem dX12_signAt_13 : decode cX12_signAt 13 = .ok (.iaload, 1) := by decide +kernel
theorem dX12_signAt_14 : decode cX12_signAt 14 = .ok (.goto 4, 3) := by decide +kernel
theorem dX12_signAt_17 : decode cX12_signAt 17 = .ok (.iconst 0, 1) := by decide +kernel
theorem dX12_signAt_18 : decode cX12_signAt 18 = .ok (.ireturn, 1) := by decide +kernel
theorem dX12_nextToken_0 : decode cX12_nextToken 0 = .ok (.aload_n 0, 1) := by decide +kernel
theorem dX12_nextToken_1 : decode cX12_nextToken 1 = .ok (.getfield 168, 3) := by decide +kernel
theorem dX12_nextToken_4 : decode cX12_nextToken 4 = .ok (.aload_n 0, 1) := by decide +kernel
theorem dX12_nextToken_5 : decode cX12_nextToken 5 = .ok (.getfield 165, 3) := by decide +kernel
theorem dX12_nextToken_8 : decode cX12_nextToken 8 = .ok (.if_icmp .ge 44, 3) := by decide +kernel
theorem dX12_nextToken_11 : decode cX12_nextToken 11 = .ok (.aload_n 0, 1) := by decide +kernel
theorem dX12_nextToken_12 : decode cX12_nextToken 12 = .ok (.getfield 7, 3) := by decide +kernel
theorem dX12_nextToken_15 : decode cX12_nextToken 15 = .ok (.aload_n 0, 1) := by decide +kernel
theorem dX12_nextToken_16 : decode cX12_nextToken 16 = .ok (.getfield 168, 3) := by decide +kernel
theorem dX12_nextToken_19 : decode cX12_nextToken 19 = .ok (.iaload, 1) := by decide +kernel
theorem dX12_nextToken_20 : decode cX12_nextToken 20 = .ok (.bipush 32, 2) := by decide +kernel
theorem dX12_nextToken_22 : decode cX12_nextToken 22 = .ok (.if_icmp .eq 17, 3) := by decide +kernel
theorem dX12_nextToken_25 : decode cX12_nextToken 25 = .ok (.aload_n 0, 1) := by decide +kernel
theorem dX12_nextToken_26 : decode cX12_nextToken 26 = .ok (.getfield 7, 3) := by decide +kernel
theorem dX12_nextToken_29 : decode cX12_nextToken 29 = .ok (.aload_n 0, 1) := by decide +kernel
theorem dX12_nextToken_30 : decode cX12_nextToken 30 = .ok (.getfield 168, 3) := by decide +kernel
theorem dX12_nextToken_33 : decode cX12_nextToken 33 = .ok (.iaload, 1) := by decide +kernel
theorem dX12_nextToken_34 : decode cX12_nextToken 34 = .ok (.bipush 10, 2) := by decide +kernel
theorem dX12_nextToken_36 : decode cX12_nextToken 36 = .ok (.if_icmp .ne 16, 3) := by decide +kernel
theorem dX12_nextToken_39 : decode cX12_nextToken 39 = .ok (.aload_n 0, 1) := by decide +kernel
theorem dX12_nextToken_40 : decode cX12_nextToken 40 = .ok (.dup, 1) := by decide +kernel
theorem dX12_nextToken_41 : decode cX12_nextToken 41 = .ok (.getfield 168, 3) := by decide +kernel
theorem dX12_nextToken_44 : decode cX12_nextToken 44 = .ok (.iconst 1, 1) := by decide +kernel
theorem dX12_nextToken_45 : decode cX12_nextToken 45 = .ok (.iadd, 1) := by decide +kernel
theorem dX12_nextToken_46 : decode cX12_nextToken 46 = .ok (.putfield 168, 3) := by decide +kernel
theorem dX12_nextToken_49 : decode cX12_nextToken 49 = .ok (.goto (-49), 3) := by decide +kernel
theorem dX12_nextToken_52 : decode cX12_nextToken 52 = .ok (.aload_n 0, 1) := by decide +kernel
theorem dX12_nextToken_53 : decode cX12_nextToken 53 = .ok (.aload_n 0, 1) := by decide +kernel
theorem dX12_nextToken_54 : decode cX12_nextToken 54 = .ok (.getfield 168, 3) := by decide +kernel
theorem dX12_nextToken_57 : decode cX12_nextToken 57 = .ok (.putfield 171, 3) := by decide +kernel
theorem dX12_nextToken_60 : decode cX12_nextToken 60 = .ok (.aload_n 0, 1) := by decide +kernel
theorem dX12_nextToken_61 : decode cX12_nextToken 61 = .ok (.lconst 0, 1) := by decide +kernel
theorem dX12_nextToken_62 : decode cX12_nextToken 62 = .ok (.putfield 174, 3) := by decide +kernel
theorem dX12_nextToken_65 : decode cX12_nextToken 65 = .ok (.aload_n 0, 1) := by decide +kernel
theorem dX12_nextToken_66 : decode cX12_nextToken 66 = .ok (.iconst 0, 1) := by decide +kernel
theorem dX12_nextToken_67 : decode cX12_nextToken 67 = .ok (.putfield 178, 3) := by decide +kernel
theorem dX12_nextToken_70 : decode cX12_nextToken 70 = .ok (.aload_n 0, 1) := by decide +kernel
theorem dX12_nextToken_71 : decode cX12_nextToken 71 = .ok (.getfield 168, 3) := by decide +kernel
theorem dX12_nextToken_74 : decode cX12_nextToken 74 = .ok (.aload_n 0, 1) := by decide +kernel
theorem dX12_nextToken_75 : decode cX12_nextToken 75 = .ok (.getfield 165, 3) := by decide +kernel
theorem dX12_nextToken_78 : decode cX12_nextToken 78 = .ok (.if_icmp .ne 9, 3) := by decide +kernel
theorem dX12_nextToken_81 : decode cX12_nextToken 81 = .ok (.aload_n 0, 1) := by decide +kernel
theorem dX12_nextToken_82 : decode cX12_nextToken 82 = .ok (.iconst 0, 1) := by decide +kernel
theorem dX12_nextToken_83 : decode cX12_nextToken 83 = .ok (.putfield 181, 3) := by decide +kernel
theorem dX12_nextToken_86 : decode cX12_nextToken 86 = .ok (.return_, 1) := by decide +kernel
theorem dX12_nextToken_87 : decode cX12_nextToken 87 = .ok (.aload_n 0, 1) := by decide +kernel
theorem dX12_nextToken_88 : decode cX12_nextToken 88 = .ok (.getfield 7, 3) := by decide +kernel
theorem dX12_nextToken_91 : decode cX12_nextToken 91 = .ok (.aload_n 0, 1) := by decide +kernel
theorem dX12_nextToken_92 : decode cX12_nextToken 92 = .ok (.getfield 168, 3) := by decide +kernel
theorem dX12_nextToken_95 : decode cX12_nextToken 95 = .ok (.iaload, 1) := by decide +kernel
theorem dX12_nextToken_96 : decode cX12_nextToken 96 = .ok (.istore_n 1, 1) := by decide +kernel
theorem dX12_nextToken_97 : decode cX12_nextToken 97 = .ok (.iload_n 1, 1) := by decide +kernel
theorem dX12_nextToken_98 : decode cX12_nextToken 98 = .ok (.bipush 97, 2) := by decide +kernel
theorem dX12_nextToken_100 : decode cX12_nextToken 100 = .ok (.if_icmp .lt 112, 3) := by decide +kernel
theorem dX12_nextToken_103 : decode cX12_nextToken 103 = .ok (.iload_n 1, 1) := by decide +kernel
theorem dX12_nextToken_104 : decode cX12_nextToken 104 = .ok (.bipush 122, 2) := by decide +kernel
theorem dX12_nextToken_106 : decode cX12_nextToken 106 = .ok (.if_icmp .gt 106, 3) := by decide +kernel
theorem dX12_nextToken_109 : decode cX12_nextToken 109 = .ok (.aload_n 0, 1) := by decide +kernel
theorem dX12_nextToken_110 : decode cX12_nextToken 110 = .ok (.aload_n 0, 1) := by decide +kernel
theorem dX12_nextToken_111 : decode cX12_nextToken 111 = .ok (.getfield 168, 3) := by decide +kernel
theorem dX12_nextToken_114 : decode cX12_nextToken 114 = .ok (.invokevirtual 184, 3) := by decide +kernel
theorem dX12_nextToken_117 : decode cX12_nextToken 117 = .ok (.bipush 97, 2) := by decide +kernel
theorem dX12_nextToken_119 : decode cX12_nextToken 119 = .ok (.if_icmp .lt 69, 3) := by decide +kernel
theorem dX12_nextToken_122 : decode cX12_nextToken 122 = .ok (.aload_n 0, 1) := by decide +kernel
theorem dX12_nextToken_123 : decode cX12_nextToken 123 = .ok (.aload_n 0, 1) := by decide +kernel
theorem dX12_nextToken_124 : decode cX12_nextToken 124 = .ok (.getfield 168, 3) := by decide +kernel
theorem dX12_nextToken_127 : decode cX12_nextToken 127 = .ok (.invokevirtual 184, 3) := by decide +kernel
theorem dX12_nextToken_130 : decode cX12_nextToken 130 = .ok (.bipush 122, 2) := by decide +kernel
theorem dX12_nextToken_132 : decode cX12_nextToken 132 = .ok (.if_icmp .gt 56, 3) := by decide +kernel
theorem dX12_nextToken_135 : decode cX12_nextToken 135 = .ok (.aload_n 0, 1) := by decide +kernel
theorem dX12_nextToken_136 : decode cX12_nextToken 136 = .ok (.getfield 168, 3) := by decide +kernel
theorem dX12_nextToken_139 : decode cX12_nextToken 139 = .ok (.aload_n 0, 1) := by decide +kernel
theorem dX12_nextToken_140 : decode cX12_nextToken 140 = .ok (.getfield 171, 3) := by decide +kernel
theorem dX12_nextToken_143 : decode cX12_nextToken 143 = .ok (.isub, 1) := by decide +kernel
theorem dX12_nextToken_144 : decode cX12_nextToken 144 = .ok (.bipush 8, 2) := by decide +kernel
theorem dX12_nextToken_146 : decode cX12_nextToken 146 = .ok (.if_icmp .ge 29, 3) := by decide +kernel
theorem dX12_nextToken_149 : decode cX12_nextToken 149 = .ok (.aload_n 0, 1) := by decide +kernel
theorem dX12_nextToken_150 : decode cX12_nextToken 150 = .ok (.aload_n 0, 1) := by decide +kernel
theorem dX12_nextToken_151 : decode cX12_nextToken 151 = .ok (.getfield 174, 3) := by decide +kernel
theorem dX12_nextToken_154 : decode cX12_nextToken 154 = .ok (.ldc2_w 188, 3) := by decide +kernel
theorem dX12_nextToken_157 : decode cX12_nextToken 157 = .ok (.lmul, 1) := by decide +kernel
theorem dX12_nextToken_158 : decode cX12_nextToken 158 = .ok (.aload_n 0, 1) := by decide +kernel
theorem dX12_nextToken_159 : decode cX12_nextToken 159 = .ok (.aload_n 0, 1) := by decide +kernel
theorem dX12_nextToken_160 : decode cX12_nextToken 160 = .ok (.getfield 168, 3) := by decide +kernel
theorem dX12_nextToken_163 : decode cX12_nextToken 163 = .ok (.invokevirtual 184, 3) := by decide +kernel
theorem dX12_nextToken_166 : decode cX12_nextToken 166 = .ok (.i2l, 1) := by decide +kernel
theorem dX12_nextToken_167 : decode cX12_nextToken 167 = .ok (.ladd, 1) := by decide +kernel
theorem dX12_nextToken_168 : decode cX12_nextToken 168 = .ok (.ldc2_w 190, 3) := by decide +kernel
theorem dX12_nextToken_171 : decode cX12_nextToken 171 = .ok (.lsub, 1) := by decide +kernel
theorem dX12_nextToken_172 : decode cX12_nextToken 172 = .ok (.putfield 174, 3) := by decide +kernel
theorem dX12_nextToken_175 : decode cX12_nextToken 175 = .ok (.aload_n 0, 1) := by decide +kernel
theorem dX12_nextToken_176 : decode cX12_nextToken 176 = .ok (.dup, 1) := by decide +kernel
theorem dX12_nextToken_177 : decode cX12_nextToken 177 = .ok (.getfield 168, 3) := by decide +kernel
theorem dX12_nextToken_180 : decode cX12_nextToken 180 = .ok (.iconst 1, 1) := by decide +kernel
theorem dX12_nextToken_181 : decode cX12_nextToken 181 = .ok (.iadd, 1) := by decide +kernel
theorem dX12_nextToken_182 : decode cX12_nextToken 182 = .ok (.putfield 168, 3) := by decide +kernel
theorem dX12_nextToken_185 : decode cX12_nextToken 185 = .ok (.goto (-76), 3) := by decide +kernel
theorem dX12_nextToken_188 : decode cX12_nextToken 188 = .ok (.aload_n 0, 1) := by decide +kernel
theorem dX12_nextToken_189 : decode cX12_nextToken 189 = .ok (.aload_n 0, 1) := by decide +kernel
theorem dX12_nextToken_190 : decode cX12_nextToken 190 = .ok (.getfield 168, 3) := by decide +kernel
theorem dX12_nextToken_193 : decode cX12_nextToken 193 = .ok (.aload_n 0, 1) := by decide +kernel
theorem dX12_nextToken_194 : decode cX12_nextToken 194 = .ok (.getfield 171, 3) := by decide +kernel
theorem dX12_nextToken_197 : decode cX12_nextToken 197 = .ok (.isub, 1) := by decide +kernel
theorem dX12_nextToken_198 : decode cX12_nextToken 198 = .ok (.bipush 8, 2) := by decide +kernel
theorem dX12_nextToken_200 : decode cX12_nextToken 200 = .ok (.if_icmp .le 7, 3) := by decide +kernel
theorem dX12_nextToken_203 : decode cX12_nextToken 203 = .ok (.iconst 4, 1) := by decide +kernel
theorem dX12_nextToken_204 : decode cX12_nextToken 204 = .ok (.goto 4, 3) := by decide +kernel
theorem dX12_nextToken_207 : decode cX12_nextToken 207 = .ok (.iconst 1, 1) := by decide +kernel
theorem dX12_nextToken_208 : decode cX12_nextToken 208 = .ok (.putfield 181, 3) := by decide +kernel
theorem dX12_nextToken_211 : decode cX12_nextToken 211 = .ok (.return_, 1) := by decide +kernel
theorem dX12_nextToken_212 : decode cX12_nextToken 212 = .ok (.iload_n 1, 1) := by decide +kernel
theorem dX12_nextToken_213 : decode cX12_nextToken 213 = .ok (.bipush 48, 2) := by decide +kernel
theorem dX12_nextToken_215 : decode cX12_nextToken 215 = .ok (.if_icmp .lt 107, 3) := by decide +kernel
theorem dX12_nextToken_218 : decode cX12_nextToken 218 = .ok (.iload_n 1, 1) := by decide +kernel
theorem dX12_nextToken_219 : decode cX12_nextToken 219 = .ok (.bipush 57, 2) := by decide +kernel
theorem dX12_nextToken_221 : decode cX12_nextToken 221 = .ok (.if_icmp .gt 101, 3) := by decide +kernel
theorem dX12_nextToken_224 : decode cX12_nextToken 224 = .ok (.aload_n 0, 1) := by decide +kernel
theorem dX12_nextToken_225 : decode cX12_nextToken 225 = .ok (.aload_n 0, 1) := by decide +kernel
theorem dX12_nextToken_226 : decode cX12_nextToken 226 = .ok (.getfield 168, 3) := by decide +kernel
theorem dX12_nextToken_229 : decode cX12_nextToken 229 = .ok (.invokevirtual 184, 3) := by decide +kernel
theorem dX12_nextToken_232 : decode cX12_nextToken 232 = .ok (.bipush 48, 2) := by decide +kernel
theorem dX12_nextToken_234 : decode cX12_nextToken 234 = .ok (.if_icmp .lt 65, 3) := by decide +kernel
theorem dX12_nextToken_237 : decode cX12_nextToken 237 = .ok (.aload_n 0, 1) := by decide +kernel
theorem dX12_nextToken_238 : decode cX12_nextToken 238 = .ok (.aload_n 0, 1) := by decide +kernel
theorem dX12_nextToken_239 : decode cX12_nextToken 239 = .ok (.getfield 168, 3) := by decide +kernel
theorem dX12_nextToken_242 : decode cX12_nextToken 242 = .ok (.invokevirtual 184, 3) := by decide +kernel
theorem dX12_nextToken_245 : decode cX12_nextToken 245 = .ok (.bipush 57, 2) := by decide +kernel
theorem dX12_nextToken_247 : decode cX12_nextToken 247 = .ok (.if_icmp .gt 52, 3) := by decide +kernel
theorem dX12_nextToken_250 : decode cX12_nextToken 250 = .ok (.aload_n 0, 1) := by decide +kernel
theorem dX12_nextToken_251 : decode cX12_nextToken 251 = .ok (.getfield 168, 3) := by decide +kernel
theorem dX12_nextToken_254 : decode cX12_nextToken 254 = .ok (.aload_n 0, 1) := by decide +kernel
theorem dX12_nextToken_255 : decode cX12_nextToken 255 = .ok (.getfield 171, 3) := by decide +kernel
theorem dX12_nextToken_258 : decode cX12_nextToken 258 = .ok (.isub, 1) := by decide +kernel
theorem dX12_nextToken_259 : decode cX12_nextToken 259 = .ok (.iconst 4, 1) := by decide +kernel
theorem dX12_nextToken_260 : decode cX12_nextToken 260 = .ok (.if_icmp .ge 26, 3) := by decide +kernel
theorem dX12_nextToken_263 : decode cX12_nextToken 263 = .ok (.aload_n 0, 1) := by decide +kernel
theorem dX12_nextToken_264 : decode cX12_nextToken 264 = .ok (.aload_n 0, 1) := by decide +kernel
theorem dX12_nextToken_265 : decode cX12_nextToken 265 = .ok (.getfield 178, 3) := by decide +kernel
theorem dX12_nextToken_268 : decode cX12_nextToken 268 = .ok (.bipush 10, 2) := by decide +kernel
theorem dX12_nextToken_270 : decode cX12_nextToken 270 = .ok (.imul, 1) := by decide +kernel
theorem dX12_nextToken_271 : decode cX12_nextToken 271 = .ok (.aload_n 0, 1) := by decide +kernel
theorem dX12_nextToken_272 : decode cX12_nextToken 272 = .ok (.aload_n 0, 1) := by decide +kernel
theorem dX12_nextToken_273 : decode cX12_nextToken 273 = .ok (.getfield 168, 3) := by decide +kernel
theorem dX12_nextToken_276 : decode cX12_nextToken 276 = .ok (.invokevirtual 184, 3) := by decide +kernel
theorem dX12_nextToken_279 : decode cX12_nextToken 279 = .ok (.iadd, 1) := by decide +kernel
theorem dX12_nextToken_280 : decode cX12_nextToken 280 = .ok (.bipush 48, 2) := by decide +kernel
theorem dX12_nextToken_282 : decode cX12_nextToken 282 = .ok (.isub, 1) := by decide +kernel
theorem dX12_nextToken_283 : decode cX12_nextToken 283 = .ok (.putfield 178, 3) := by decide +kernel
theorem dX12_nextToken_286 : decode cX12_nextToken 286 = .ok (.aload_n 0, 1) := by decide +kernel
theorem dX12_nextToken_287 : decode cX12_nextToken 287 = .ok (.dup, 1) := by decide +kernel
theorem dX12_nextToken_288 : decode cX12_nextToken 288 = .ok (.getfield 168, 3) := by decide +kernel
theorem dX12_nextToken_291 : decode cX12_nextToken 291 = .ok (.iconst 1, 1) := by decide +kernel
theorem dX12_nextToken_292 : decode cX12_nextToken 292 = .ok (.iadd, 1) := by decide +kernel
theorem dX12_nextToken_293 : decode cX12_nextToken 293 = .ok (.putfield 168, 3) := by decide +kernel
theorem dX12_nextToken_296 : decode cX12_nextToken 296 = .ok (.goto (-72), 3) := by decide +kernel
theorem dX12_nextToken_299 : decode cX12_nextToken 299 = .ok (.aload_n 0, 1) := by decide +kernel
theorem dX12_nextToken_300 : decode cX12_nextToken 300 = .ok (.aload_n 0, 1) := by decide +kernel
theorem dX12_nextToken_301 : decode cX12_nextToken 301 = .ok (.getfield 168, 3) := by decide +kernel
theorem dX12_nextToken_304 : decode cX12_nextToken 304 = .ok (.aload_n 0, 1) := by decide +kernel
theorem dX12_nextToken_305 : decode cX12_nextToken 305 = .ok (.getfield 171, 3) := by decide +kernel
theorem dX12_nextToken_308 : decode cX12_nextToken 308 = .ok (.isub, 1) := by decide +kernel
theorem dX12_nextToken_309 : decode cX12_nextToken 309 = .ok (.iconst 4, 1) := by decide +kernel
theorem dX12_nextToken_310 : decode cX12_nextToken 310 = .ok (.if_icmp .le 7, 3) := by decide +kernel
theorem dX12_nextToken_313 : decode cX12_nextToken 313 = .ok (.iconst 4, 1) := by decide +kernel
theorem dX12_nextToken_314 : decode cX12_nextToken 314 = .ok (.goto 4, 3) := by decide +kernel
theorem dX12_nextToken_317 : decode cX12_nextToken 317 = .ok (.iconst 2, 1) := by decide +kernel
theorem dX12_nextToken_318 : decode cX12_nextToken 318 = .ok (.putfield 181, 3) := by decide +kernel
theorem dX12_nextToken_321 : decode cX12_nextToken 321 = .ok (.return_, 1) := by decide +kernel
theorem dX12_nextToken_322 : decode cX12_nextToken 322 = .ok (.aload_n 0, 1) := by decide +kernel
theorem dX12_nextToken_323 : decode cX12_nextToken 323 = .ok (.dup, 1) := by decide +kernel
theorem dX12_nextToken_324 : decode cX12_nextToken 324 = .ok (.getfield 168, 3) := by decide +kernel
theorem dX12_nextToken_327 : decode cX12_nextToken 327 = .ok (.iconst 1, 1) := by decide +kernel
theorem dX12_nextToken_328 : decode cX12_nextToken 328 = .ok (.iadd, 1) := by decide +kernel
theorem dX12_nextToken_329 : decode cX12_nextToken 329 = .ok (.putfield 168, 3) := by decide +kernel
theorem dX12_nextToken_332 : decode cX12_nextToken 332 = .ok (.aload_n 0, 1) := by decide +kernel
theorem dX12_nextToken_333 : decode cX12_nextToken 333 = .ok (.iload_n 1, 1) := by decide +kernel
theorem dX12_nextToken_334 : decode cX12_nextToken 334 = .ok (.bipush 40, 2) := by decide +kernel
theorem dX12_nextToken_336 : decode cX12_nextToken 336 = .ok (.if_icmp .lt 9, 3) := by decide +kernel
theorem dX12_nextToken_339 : decode cX12_nextToken 339 = .ok (.iload_n 1, 1) := by decide +kernel
theorem dX12_nextToken_340 : decode cX12_nextToken 340 = .ok (.bipush 43, 2) := by decide +kernel
theorem dX12_nextToken_342 : decode cX12_nextToken 342 = .ok (.if_icmp .le 21, 3) := by decide +kernel
theorem dX12_nextToken_345 : decode cX12_nextToken 345 = .ok (.iload_n 1, 1) := by decide +kernel
theorem dX12_nextToken_346 : decode cX12_nextToken 346 = .ok (.bipush 45, 2) := by decide +kernel
theorem dX12_nextToken_348 : decode cX12_nextToken 348 = .ok (.if_icmp .eq 15, 3) := by decide +kernel
theorem dX12_nextToken_351 : decode cX12_nextToken 351 = .ok (.iload_n 1, 1) := by decide +kernel
theorem dX12_nextToken_352 : decode cX12_nextToken 352 = .ok (.bipush 59, 2) := by decide +kernel
theorem dX12_nextToken_354 : decode cX12_nextToken 354 = .ok (.if_icmp .lt 13, 3) := by decide +kernel
theorem dX12_nextToken_357 : decode cX12_nextToken 357 = .ok (.iload_n 1, 1) := by decide +kernel
theorem dX12_nextToken_358 : decode cX12_nextToken 358 = .ok (.bipush 61, 2) := by decide +kernel
theorem dX12_nextToken_360 : decode cX12_nextToken 360 = .ok (.if_icmp .gt 7, 3) := by decide +kernel
theorem dX12_nextToken_363 : decode cX12_nextToken 363 = .ok (.iconst 3, 1) := by decide +kernel
theorem dX12_nextToken_364 : decode cX12_nextToken 364 = .ok (.goto 4, 3) := by decide +kernel
theorem dX12_nextToken_367 : decode cX12_nextToken 367 = .ok (.iconst 4, 1) := by decide +kernel
theorem dX12_nextToken_368 : decode cX12_nextToken 368 = .ok (.putfield 181, 3) := by decide +kernel
theorem dX12_nextToken_371 : decode cX12_nextToken 371 = .ok (.return_, 1) := by decide +kernel
theorem dX12_isWord_0 : decode cX12_isWord 0 = .ok (.aload_n 0, 1) := by decide +kernel
theorem dX12_isWord_1 : decode cX12_isWord 1 = .ok (.getfield 181, 3) := by decide +kernel
theorem dX12_isWord_4 : decode cX12_isWord 4 = .ok (.iconst 1, 1) := by decide +kernel
theorem dX12_isWord_5 : decode cX12_isWord 5 = .ok (.if_icmp .ne 16, 3) := by decide +kernel
theorem dX12_isWord_8 : decode cX12_isWord 8 = .ok (.aload_n 0, 1) := by decide +kernel
theorem dX12_isWord_9 : decode cX12_isWord 9 = .ok (.getfield 174, 3) := by decide +kernel
theorem dX12_isWord_12 : decode cX12_isWord 12 = .ok (.lload_n 1, 1) := by decide +kernel
theorem dX12_isWord_13 : decode cX12_isWord 13 = .ok (.lcmp, 1) := by decide +kernel
theorem dX12_isWord_14 : decode cX12_isWord 14 = .ok (.ifCond .ne 7, 3) := by decide +kernel
theorem dX12_isWord_17 : decode cX12_isWord 17 = .ok (.iconst 1, 1) := by decide +kernel
theorem dX12_isWord_18 : decode cX12_isWord 18 = .ok (.goto 4, 3) := by decide +kernel
theorem dX12_isWord_21 : decode cX12_isWord 21 = .ok (.iconst 0, 1) := by decide +kernel
theorem dX12_isWord_22 : decode cX12_isWord 22 = .ok (.ireturn, 1) := by decide +kernel
theorem dX12_isSign_0 : decode cX12_isSign 0 = .ok (.aload_n 0, 1) := by decide +kernel
theorem dX12_isSign_1 : decode cX12_isSign 1 = .ok (.getfield 181, 3) := by decide +kernel
theorem dX12_isSign_4 : decode cX12_isSign 4 = .ok (.iconst 3, 1) := by decide +kernel
theorem dX12_isSign_5 : decode cX12_isSign 5 = .ok (.if_icmp .ne 20, 3) := by decide +kernel
theorem dX12_isSign_8 : decode cX12_isSign 8 = .ok (.aload_n 0, 1) := by decide +kernel
theorem dX12_isSign_9 : decode cX12_isSign 9 = .ok (.getfield 7, 3) := by decide +kernel
theorem dX12_isSign_12 : decode cX12_isSign 12 = .ok (.aload_n 0, 1) := by decide +kernel
theorem dX12_isSign_13 : decode cX12_isSign 13 = .ok (.getfield 171, 3) := by decide +kernel
theorem dX12_isSign_16 : decode cX12_isSign 16 = .ok (.iaload, 1) := by decide +kernel
theorem dX12_isSign_17 : decode cX12_isSign 17 = .ok (.iload_n 1, 1) := by decide +kernel
theorem dX12_isSign_18 : decode cX12_isSign 18 = .ok (.if_icmp .ne 7, 3) := by decide +kernel
theorem dX12_isSign_21 : decode cX12_isSign 21 = .ok (.iconst 1, 1) := by decide +kernel
theorem dX12_isSign_22 : decode cX12_isSign 22 = .ok (.goto 4, 3) := by decide +kernel
theorem dX12_isSign_25 : decode cX12_isSign 25 = .ok (.iconst 0, 1) := by decide +kernel
theorem dX12_isSign_26 : decode cX12_isSign 26 = .ok (.ireturn, 1) := by decide +kernel
theorem dX12_fails_0 : decode cX12_fails 0 = .ok (.aload_n 0, 1) := by decide +kernel
theorem dX12_fails_1 : decode cX12_fails 1 = .ok (.iload_n 1, 1) := by decide +kernel
theorem dX12_fails_2 : decode cX12_fails 2 = .ok (.bipush 16, 2) := by decide +kernel
theorem dX12_fails_4 : decode cX12_fails 4 = .ok (.aload_n 0, 1) := by decide +kernel
theorem dX12_fails_5 : decode cX12_fails 5 = .ok (.getfield 171, 3) := by decide +kernel
theorem dX12_fails_8 : decode cX12_fails 8 = .ok (.imul, 1) := by decide +kernel
theorem dX12_fails_9 : decode cX12_fails 9 = .ok (.iadd, 1) := by decide +kernel
theorem dX12_fails_10 : decode cX12_fails 10 = .ok (.putfield 192, 3) := by decide +kernel
theorem dX12_fails_13 : decode cX12_fails 13 = .ok (.iconst 0, 1) := by decide +kernel
theorem dX12_fails_14 : decode cX12_fails 14 = .ok (.ireturn, 1) := by decide +kernel
theorem dX12_puts_0 : decode cX12_puts 0 = .ok (.aload_n 0, 1) := by decide +kernel
theorem dX12_puts_1 : decode cX12_puts 1 = .ok (.getfield 59, 3) := by decide +kernel
theorem dX12_puts_4 : decode cX12_puts 4 = .ok (.aload_n 0, 1) := by decide +kernel
theorem dX12_puts_5 : decode cX12_puts 5 = .ok (.getfield 195, 3) := by decide +kernel
theorem dX12_puts_8 : decode cX12_puts 8 = .ok (.iload_n 1, 1) := by decide +kernel
theorem dX12_puts_9 : decode cX12_puts 9 = .ok (.iastore, 1) := by decide +kernel
theorem dX12_puts_10 : decode cX12_puts 10 = .ok (.aload_n 0, 1) := by decide +kernel
theorem dX12_puts_11 : decode cX12_puts 11 = .ok (.dup, 1) := by decide +kernel
theorem dX12_puts_12 : decode cX12_puts 12 = .ok (.getfield 195, 3) := by decide +kernel
theorem dX12_puts_15 : decode cX12_puts 15 = .ok (.iconst 1, 1) := by decide +kernel
theorem dX12_puts_16 : decode cX12_puts 16 = .ok (.iadd, 1) := by decide +kernel
theorem dX12_puts_17 : decode cX12_puts 17 = .ok (.putfield 195, 3) := by decide +kernel
theorem dX12_puts_20 : decode cX12_puts 20 = .ok (.return_, 1) := by decide +kernel
theorem dX12_fact_0 : decode cX12_fact 0 = .ok (.aload_n 0, 1) := by decide +kernel
theorem dX12_fact_1 : decode cX12_fact 1 = .ok (.getfield 181, 3) := by decide +kernel
theorem dX12_fact_4 : decode cX12_fact 4 = .ok (.iconst 1, 1) := by decide +kernel
theorem dX12_fact_5 : decode cX12_fact 5 = .ok (.if_icmp .eq 5, 3) := by decide +kernel
theorem dX12_fact_8 : decode cX12_fact 8 = .ok (.iconst 0, 1) := by decide +kernel
theorem dX12_fact_9 : decode cX12_fact 9 = .ok (.ireturn, 1) := by decide +kernel
theorem dX12_fact_10 : decode cX12_fact 10 = .ok (.aload_n 0, 1) := by decide +kernel
theorem dX12_fact_11 : decode cX12_fact 11 = .ok (.getfield 174, 3) := by decide +kernel
theorem dX12_fact_14 : decode cX12_fact 14 = .ok (.ldc2_w 198, 3) := by decide +kernel
theorem dX12_fact_17 : decode cX12_fact 17 = .ok (.lcmp, 1) := by decide +kernel
theorem dX12_fact_18 : decode cX12_fact 18 = .ok (.ifCond .ne 5, 3) := by decide +kernel
theorem dX12_fact_21 : decode cX12_fact 21 = .ok (.iconst 1, 1) := by decide +kernel
theorem dX12_fact_22 : decode cX12_fact 22 = .ok (.ireturn, 1) := by decide +kernel
theorem dX12_fact_23 : decode cX12_fact 23 = .ok (.aload_n 0, 1) := by decide +kernel
theorem dX12_fact_24 : decode cX12_fact 24 = .ok (.getfield 174, 3) := by decide +kernel
theorem dX12_fact_27 : decode cX12_fact 27 = .ok (.ldc2_w 200, 3) := by decide +kernel
theorem dX12_fact_30 : decode cX12_fact 30 = .ok (.lcmp, 1) := by decide +kernel
theorem dX12_fact_31 : decode cX12_fact 31 = .ok (.ifCond .ne 7, 3) := by decide +kernel
theorem dX12_fact_34 : decode cX12_fact 34 = .ok (.iconst 2, 1) := by decide +kernel
theorem dX12_fact_35 : decode cX12_fact 35 = .ok (.goto 49, 3) := by decide +kernel
theorem dX12_fact_38 : decode cX12_fact 38 = .ok (.aload_n 0, 1) := by decide +kernel
theorem dX12_fact_39 : decode cX12_fact 39 = .ok (.getfield 174, 3) := by decide +kernel
theorem dX12_fact_42 : decode cX12_fact 42 = .ok (.ldc2_w 202, 3) := by decide +kernel
theorem dX12_fact_45 : decode cX12_fact 45 = .ok (.lcmp, 1) := by decide +kernel
theorem dX12_fact_46 : decode cX12_fact 46 = .ok (.ifCond .ne 7, 3) := by decide +kernel
theorem dX12_fact_49 : decode cX12_fact 49 = .ok (.iconst 3, 1) := by decide +kernel
theorem dX12_fact_50 : decode cX12_fact 50 = .ok (.goto 34, 3) := by decide +kernel
theorem dX12_fact_53 : decode cX12_fact 53 = .ok (.aload_n 0, 1) := by decide +kernel
theorem dX12_fact_54 : decode cX12_fact 54 = .ok (.getfield 174, 3) := by decide +kernel
theorem dX12_fact_57 : decode cX12_fact 57 = .ok (.ldc2_w 204, 3) := by decide +kernel
theorem dX12_fact_60 : decode cX12_fact 60 = .ok (.lcmp, 1) := by decide +kernel
theorem dX12_fact_61 : decode cX12_fact 61 = .ok (.ifCond .ne 7, 3) := by decide +kernel
theorem dX12_fact_64 : decode cX12_fact 64 = .ok (.iconst 4, 1) := by decide +kernel
theorem dX12_fact_65 : decode cX12_fact 65 = .ok (.goto 19, 3) := by decide +kernel
theorem dX12_fact_68 : decode cX12_fact 68 = .ok (.aload_n 0, 1) := by decide +kernel
theorem dX12_fact_69 : decode cX12_fact 69 = .ok (.getfield 174, 3) := by decide +kernel
theorem dX12_fact_72 : decode cX12_fact 72 = .ok (.ldc2_w 206, 3) := by decide +kernel
theorem dX12_fact_75 : decode cX12_fact 75 = .ok (.lcmp, 1) := by decide +kernel
theorem dX12_fact_76 : decode cX12_fact 76 = .ok (.ifCond .ne 7, 3) := by decide +kernel
theorem dX12_fact_79 : decode cX12_fact 79 = .ok (.iconst 5, 1) := by decide +kernel
theorem dX12_fact_80 : decode cX12_fact 80 = .ok (.goto 4, 3) := by decide +kernel
theorem dX12_fact_83 : decode cX12_fact 83 = .ok (.iconst 0, 1) := by decide +kernel
theorem dX12_fact_84 : decode cX12_fact 84 = .ok (.ireturn, 1) := by decide +kernel
theorem dX12_reads_0 : decode cX12_reads 0 = .ok (.iconst 0, 1) := by decide +kernel
theorem dX12_reads_1 : decode cX12_reads 1 = .ok (.istore_n 1, 1) := by decide +kernel
theorem dX12_reads_2 : decode cX12_reads 2 = .ok (.iconst 1, 1) := by decide +kernel
theorem dX12_reads_3 : decode cX12_reads 3 = .ok (.istore_n 2, 1) := by decide +kernel
theorem dX12_reads_4 : decode cX12_reads 4 = .ok (.aload_n 0, 1) := by decide +kernel
theorem dX12_reads_5 : decode cX12_reads 5 = .ok (.getfield 65, 3) := by decide +kernel
theorem dX12_reads_8 : decode cX12_reads 8 = .ok (.iconst 0, 1) := by decide +kernel
theorem dX12_reads_9 : decode cX12_reads 9 = .ok (.iconst 0, 1) := by decide +kernel
theorem dX12_reads_10 : decode cX12_reads 10 = .ok (.bastore, 1) := by decide +kernel
theorem dX12_reads_11 : decode cX12_reads 11 = .ok (.iload_n 2, 1) := by decide +kernel
theorem dX12_reads_12 : decode cX12_reads 12 = .ok (.ifCond .eq 167, 3) := by decide +kernel
theorem dX12_reads_15 : decode cX12_reads 15 = .ok (.aload_n 0, 1) := by decide +kernel
theorem dX12_reads_16 : decode cX12_reads 16 = .ok (.invokevirtual 208, 3) := by decide +kernel
theorem dX12_reads_19 : decode cX12_reads 19 = .ok (.istore_n 3, 1) := by decide +kernel
theorem dX12_reads_20 : decode cX12_reads 20 = .ok (.aload_n 0, 1) := by decide +kernel
theorem dX12_reads_21 : decode cX12_reads 21 = .ok (.ldc2_w 212, 3) := by decide +kernel
theorem dX12_reads_24 : decode cX12_reads 24 = .ok (.invokevirtual 214, 3) := by decide +kernel
theorem dX12_reads_27 : decode cX12_reads 27 = .ok (.istore 4, 2) := by decide +kernel
theorem dX12_reads_29 : decode cX12_reads 29 = .ok (.aload_n 0, 1) := by decide +kernel
theorem dX12_reads_30 : decode cX12_reads 30 = .ok (.bipush 40, 2) := by decide +kernel
theorem dX12_reads_32 : decode cX12_reads 32 = .ok (.invokevirtual 218, 3) := by decide +kernel
theorem dX12_reads_35 : decode cX12_reads 35 = .ok (.istore 5, 2) := by decide +kernel
theorem dX12_reads_37 : decode cX12_reads 37 = .ok (.iload_n 3, 1) := by decide +kernel
theorem dX12_reads_38 : decode cX12_reads 38 = .ok (.ifCond .ne 27, 3) := by decide +kernel
theorem dX12_reads_41 : decode cX12_reads 41 = .ok (.iload 4, 2) := by decide +kernel
theorem dX12_reads_43 : decode cX12_reads 43 = .ok (.ifCond .ne 22, 3) := by decide +kernel
theorem dX12_reads_46 : decode cX12_reads 46 = .ok (.iload 5, 2) := by decide +kernel
theorem dX12_reads_48 : decode cX12_reads 48 = .ok (.ifCond .ne 17, 3) := by decide +kernel
theorem dX12_reads_51 : decode cX12_reads 51 = .ok (.aload_n 0, 1) := by decide +kernel
theorem dX12_reads_52 : decode cX12_reads 52 = .ok (.getfield 181, 3) := by decide +kernel
theorem dX12_reads_55 : decode cX12_reads 55 = .ok (.iconst 2, 1) := by decide +kernel
theorem dX12_reads_56 : decode cX12_reads 56 = .ok (.if_icmp .eq 9, 3) := by decide +kernel
theorem dX12_reads_59 : decode cX12_reads 59 = .ok (.aload_n 0, 1) := by decide +kernel
theorem dX12_reads_60 : decode cX12_reads 60 = .ok (.iconst 1, 1) := by decide +kernel
theorem dX12_reads_61 : decode cX12_reads 61 = .ok (.invokevirtual 222, 3) := by decide +kernel
theorem dX12_reads_64 : decode cX12_reads 64 = .ok (.ireturn, 1) := by decide +kernel
theorem dX12_reads_65 : decode cX12_reads 65 = .ok (.iload_n 1, 1) := by decide +kernel
theorem dX12_reads_66 : decode cX12_reads 66 = .ok (.iconst 5, 1) := by decide +kernel
theorem dX12_reads_67 : decode cX12_reads 67 = .ok (.if_icmp .ne 9, 3) := by decide +kernel
theorem dX12_reads_70 : decode cX12_reads 70 = .ok (.aload_n 0, 1) := by decide +kernel
theorem dX12_reads_71 : decode cX12_reads 71 = .ok (.iconst 5, 1) := by decide +kernel
theorem dX12_reads_72 : decode cX12_reads 72 = .ok (.invokevirtual 222, 3) := by decide +kernel
theorem dX12_reads_75 : decode cX12_reads 75 = .ok (.ireturn, 1) := by decide +kernel
theorem dX12_reads_76 : decode cX12_reads 76 = .ok (.iload 4, 2) := by decide +kernel
theorem dX12_reads_78 : decode cX12_reads 78 = .ok (.ifCond .ne 8, 3) := by decide +kernel
theorem dX12_reads_81 : decode cX12_reads 81 = .ok (.iload 5, 2) := by decide +kernel
theorem dX12_reads_83 : decode cX12_reads 83 = .ok (.ifCond .eq 48, 3) := by decide +kernel
theorem dX12_reads_86 : decode cX12_reads 86 = .ok (.aload_n 0, 1) := by decide +kernel
theorem dX12_reads_87 : decode cX12_reads 87 = .ok (.iload 4, 2) := by decide +kernel
theorem dX12_reads_89 : decode cX12_reads 89 = .ok (.ifCond .eq 8, 3) := by decide +kernel
theorem dX12_reads_92 : decode cX12_reads 92 = .ok (.bipush 30, 2) := by decide +kernel
theorem dX12_reads_94 : decode cX12_reads 94 = .ok (.goto 5, 3) := by decide +kernel
theorem dX12_reads_97 : decode cX12_reads 97 = .ok (.bipush 28, 2) := by decide +kernel
theorem dX12_reads_99 : decode cX12_reads 99 = .ok (.invokevirtual 225, 3) := by decide +kernel
theorem dX12_reads_102 : decode cX12_reads 102 = .ok (.iinc 1 1, 3) := by decide +kernel
theorem dX12_reads_105 : decode cX12_reads 105 = .ok (.aload_n 0, 1) := by decide +kernel
theorem dX12_reads_106 : decode cX12_reads 106 = .ok (.getfield 62, 3) := by decide +kernel
theorem dX12_reads_109 : decode cX12_reads 109 = .ok (.iload_n 1, 1) := by decide +kernel
theorem dX12_reads_110 : decode cX12_reads 110 = .ok (.iload 4, 2) := by decide +kernel
theorem dX12_reads_112 : decode cX12_reads 112 = .ok (.ifCond .eq 7, 3) := by decide +kernel
theorem dX12_reads_115 : decode cX12_reads 115 = .ok (.iconst 1, 1) := by decide +kernel
theorem dX12_reads_116 : decode cX12_reads 116 = .ok (.goto 4, 3) := by decide +kernel
theorem dX12_reads_119 : decode cX12_reads 119 = .ok (.iconst 2, 1) := by decide +kernel
theorem dX12_reads_120 : decode cX12_reads 120 = .ok (.iastore, 1) := by decide +kernel
theorem dX12_reads_121 : decode cX12_reads 121 = .ok (.aload_n 0, 1) := by decide +kernel
theorem dX12_reads_122 : decode cX12_reads 122 = .ok (.getfield 65, 3) := by decide +kernel
theorem dX12_reads_125 : decode cX12_reads 125 = .ok (.iload_n 1, 1) := by decide +kernel
theorem dX12_reads_126 : decode cX12_reads 126 = .ok (.iconst 0, 1) := by decide +kernel
theorem dX12_reads_127 : decode cX12_reads 127 = .ok (.bastore, 1) := by decide +kernel
theorem dX12_reads_128 : decode cX12_reads 128 = .ok (.goto 44, 3) := by decide +kernel
theorem dX12_reads_131 : decode cX12_reads 131 = .ok (.aload_n 0, 1) := by decide +kernel
theorem dX12_reads_132 : decode cX12_reads 132 = .ok (.iload_n 3, 1) := by decide +kernel
theorem dX12_reads_133 : decode cX12_reads 133 = .ok (.ifCond .le 7, 3) := by decide +kernel
theorem dX12_reads_136 : decode cX12_reads 136 = .ok (.iload_n 3, 1) := by decide +kernel
theorem dX12_reads_137 : decode cX12_reads 137 = .ok (.goto 10, 3) := by decide +kernel
theorem dX12_reads_140 : decode cX12_reads 140 = .ok (.bipush 100, 2) := by decide +kernel
theorem dX12_reads_142 : decode cX12_reads 142 = .ok (.aload_n 0, 1) := by decide +kernel
theorem dX12_reads_143 : decode cX12_reads 143 = .ok (.getfield 178, 3) := by decide +kernel
theorem dX12_reads_146 : decode cX12_reads 146 = .ok (.iadd, 1) := by decide +kernel
theorem dX12_reads_147 : decode cX12_reads 147 = .ok (.invokevirtual 225, 3) := by decide +kernel
theorem dX12_reads_150 : decode cX12_reads 150 = .ok (.iconst 0, 1) := by decide +kernel
theorem dX12_reads_151 : decode cX12_reads 151 = .ok (.istore_n 2, 1) := by decide +kernel
theorem dX12_reads_152 : decode cX12_reads 152 = .ok (.iload_n 1, 1) := by decide +kernel
theorem dX12_reads_153 : decode cX12_reads 153 = .ok (.ifCond .le 19, 3) := by decide +kernel
theorem dX12_reads_156 : decode cX12_reads 156 = .ok (.aload_n 0, 1) := by decide +kernel
theorem dX12_reads_157 : decode cX12_reads 157 = .ok (.getfield 62, 3) := by decide +kernel
theorem dX12_reads_160 : decode cX12_reads 160 = .ok (.iload_n 1, 1) := by decide +kernel
theorem dX12_reads_161 : decode cX12_reads 161 = .ok (.iaload, 1) := by decide +kernel
theorem dX12_reads_162 : decode cX12_reads 162 = .ok (.iconst 1, 1) := by decide +kernel
theorem dX12_reads_163 : decode cX12_reads 163 = .ok (.if_icmp .ne 9, 3) := by decide +kernel
theorem dX12_reads_166 : decode cX12_reads 166 = .ok (.iinc 1 (-1), 3) := by decide +kernel
theorem dX12_reads_169 : decode cX12_reads 169 = .ok (.goto (-17), 3) := by decide +kernel
theorem dX12_reads_172 : decode cX12_reads 172 = .ok (.aload_n 0, 1) := by decide +kernel
theorem dX12_reads_173 : decode cX12_reads 173 = .ok (.invokevirtual 229, 3) := by decide +kernel
theorem dX12_reads_176 : decode cX12_reads 176 = .ok (.goto (-165), 3) := by decide +kernel
theorem dX12_reads_179 : decode cX12_reads 179 = .ok (.aload_n 0, 1) := by decide +kernel
theorem dX12_reads_180 : decode cX12_reads 180 = .ok (.bipush 43, 2) := by decide +kernel
theorem dX12_reads_182 : decode cX12_reads 182 = .ok (.invokevirtual 218, 3) := by decide +kernel
theorem dX12_reads_185 : decode cX12_reads 185 = .ok (.ifCond .ne 21, 3) := by decide +kernel
theorem dX12_reads_188 : decode cX12_reads 188 = .ok (.aload_n 0, 1) := by decide +kernel
theorem dX12_reads_189 : decode cX12_reads 189 = .ok (.bipush 45, 2) := by decide +kernel
theorem dX12_reads_191 : decode cX12_reads 191 = .ok (.invokevirtual 218, 3) := by decide +kernel
theorem dX12_reads_194 : decode cX12_reads 194 = .ok (.ifCond .ne 12, 3) := by decide +kernel
theorem dX12_reads_197 : decode cX12_reads 197 = .ok (.aload_n 0, 1) := by decide +kernel
theorem dX12_reads_198 : decode cX12_reads 198 = .ok (.bipush 42, 2) := by decide +kernel
theorem dX12_reads_200 : decode cX12_reads 200 = .ok (.invokevirtual 218, 3) := by decide +kernel
theorem dX12_reads_203 : decode cX12_reads 203 = .ok (.ifCond .eq 42, 3) := by decide +kernel
theorem dX12_reads_206 : decode cX12_reads 206 = .ok (.aload_n 0, 1) := by decide +kernel
theorem dX12_reads_207 : decode cX12_reads 207 = .ok (.aload_n 0, 1) := by decide +kernel
theorem dX12_reads_208 : decode cX12_reads 208 = .ok (.bipush 43, 2) := by decide +kernel
theorem dX12_reads_210 : decode cX12_reads 210 = .ok (.invokevirtual 218, 3) := by decide +kernel
theorem dX12_reads_213 : decode cX12_reads 213 = .ok (.ifCond .eq 8, 3) := by decide +kernel
theorem dX12_reads_216 : decode cX12_reads 216 = .ok (.bipush 20, 2) := by decide +kernel
theorem dX12_reads_218 : decode cX12_reads 218 = .ok (.goto 19, 3) := by decide +kernel
theorem dX12_reads_221 : decode cX12_reads 221 = .ok (.aload_n 0, 1) := by decide +kernel
theorem dX12_reads_222 : decode cX12_reads 222 = .ok (.bipush 45, 2) := by decide +kernel
theorem dX12_reads_224 : decode cX12_reads 224 = .ok (.invokevirtual 218, 3) := by decide +kernel
theorem dX12_reads_227 : decode cX12_reads 227 = .ok (.ifCond .eq 8, 3) := by decide +kernel
theorem dX12_reads_230 : decode cX12_reads 230 = .ok (.bipush 21, 2) := by decide +kernel
theorem dX12_reads_232 : decode cX12_reads 232 = .ok (.goto 5, 3) := by decide +kernel
theorem dX12_reads_235 : decode cX12_reads 235 = .ok (.bipush 22, 2) := by decide +kernel
theorem dX12_reads_237 : decode cX12_reads 237 = .ok (.invokevirtual 225, 3) := by decide +kernel
theorem dX12_reads_240 : decode cX12_reads 240 = .ok (.iconst 1, 1) := by decide +kernel
theorem dX12_reads_241 : decode cX12_reads 241 = .ok (.istore_n 2, 1) := by decide +kernel
theorem dX12_reads_242 : decode cX12_reads 242 = .ok (.goto 182, 3) := by decide +kernel
theorem dX12_reads_245 : decode cX12_reads 245 = .ok (.aload_n 0, 1) := by decide +kernel
theorem dX12_reads_246 : decode cX12_reads 246 = .ok (.bipush 60, 2) := by decide +kernel
theorem dX12_reads_248 : decode cX12_reads 248 = .ok (.invokevirtual 218, 3) := by decide +kernel
theorem dX12_reads_251 : decode cX12_reads 251 = .ok (.ifCond .ne 12, 3) := by decide +kernel
theorem dX12_reads_254 : decode cX12_reads 254 = .ok (.aload_n 0, 1) := by decide +kernel
theorem dX12_reads_255 : decode cX12_reads 255 = .ok (.bipush 61, 2) := by decide +kernel
theorem dX12_reads_257 : decode cX12_reads 257 = .ok (.invokevirtual 218, 3) := by decide +kernel
theorem dX12_reads_260 : decode cX12_reads 260 = .ok (.ifCond .eq 44, 3) := by decide +kernel
theorem dX12_reads_263 : decode cX12_reads 263 = .ok (.aload_n 0, 1) := by decide +kernel
theorem dX12_reads_264 : decode cX12_reads 264 = .ok (.getfield 65, 3) := by decide +kernel
theorem dX12_reads_267 : decode cX12_reads 267 = .ok (.iload_n 1, 1) := by decide +kernel
theorem dX12_reads_268 : decode cX12_reads 268 = .ok (.baload, 1) := by decide +kernel
theorem dX12_reads_269 : decode cX12_reads 269 = .ok (.ifCond .ne 35, 3) := by decide +kernel
theorem dX12_reads_272 : decode cX12_reads 272 = .ok (.aload_n 0, 1) := by decide +kernel
theorem dX12_reads_273 : decode cX12_reads 273 = .ok (.aload_n 0, 1) := by decide +kernel
theorem dX12_reads_274 : decode cX12_reads 274 = .ok (.bipush 60, 2) := by decide +kernel
theorem dX12_reads_276 : decode cX12_reads 276 = .ok (.invokevirtual 218, 3) := by decide +kernel
theorem dX12_reads_279 : decode cX12_reads 279 = .ok (.ifCond .eq 8, 3) := by decide +kernel
theorem dX12_reads_282 : decode cX12_reads 282 = .ok (.bipush 24, 2) := by decide +kernel
theorem dX12_reads_284 : decode cX12_reads 284 = .ok (.goto 5, 3) := by decide +kernel
theorem dX12_reads_287 : decode cX12_reads 287 = .ok (.bipush 25, 2) := by decide +kernel
theorem dX12_reads_289 : decode cX12_reads 289 = .ok (.invokevirtual 225, 3) := by decide +kernel
theorem dX12_reads_292 : decode cX12_reads 292 = .ok (.aload_n 0, 1) := by decide +kernel
theorem dX12_reads_293 : decode cX12_reads 293 = .ok (.getfield 65, 3) := by decide +kernel
theorem dX12_reads_296 : decode cX12_reads 296 = .ok (.iload_n 1, 1) := by decide +kernel
theorem dX12_reads_297 : decode cX12_reads 297 = .ok (.iconst 1, 1) := by decide +kernel
theorem dX12_reads_298 : decode cX12_reads 298 = .ok (.bastore, 1) := by decide +kernel
theorem dX12_reads_299 : decode cX12_reads 299 = .ok (.iconst 1, 1) := by decide +kernel
theorem dX12_reads_300 : decode cX12_reads 300 = .ok (.istore_n 2, 1) := by decide +kernel
theorem dX12_reads_301 : decode cX12_reads 301 = .ok (.goto 123, 3) := by decide +kernel
theorem dX12_reads_304 : decode cX12_reads 304 = .ok (.aload_n 0, 1) := by decide +kernel
theorem dX12_reads_305 : decode cX12_reads 305 = .ok (.ldc2_w 232, 3) := by decide +kernel
theorem dX12_reads_308 : decode cX12_reads 308 = .ok (.invokevirtual 214, 3) := by decide +kernel
theorem dX12_reads_311 : decode cX12_reads 311 = .ok (.ifCond .ne 13, 3) := by decide +kernel
theorem dX12_reads_314 : decode cX12_reads 314 = .ok (.aload_n 0, 1) := by decide +kernel
theorem dX12_reads_315 : decode cX12_reads 315 = .ok (.ldc2_w 234, 3) := by decide +kernel
theorem dX12_reads_318 : decode cX12_reads 318 = .ok (.invokevirtual 214, 3) := by decide +kernel
theorem dX12_reads_321 : decode cX12_reads 321 = .ok (.ifCond .eq 36, 3) := by decide +kernel
theorem dX12_reads_324 : decode cX12_reads 324 = .ok (.aload_n 0, 1) := by decide +kernel
theorem dX12_reads_325 : decode cX12_reads 325 = .ok (.aload_n 0, 1) := by decide +kernel
theorem dX12_reads_326 : decode cX12_reads 326 = .ok (.ldc2_w 232, 3) := by decide +kernel
theorem dX12_reads_329 : decode cX12_reads 329 = .ok (.invokevirtual 214, 3) := by decide +kernel
theorem dX12_reads_332 : decode cX12_reads 332 = .ok (.ifCond .eq 8, 3) := by decide +kernel
theorem dX12_reads_335 : decode cX12_reads 335 = .ok (.bipush 26, 2) := by decide +kernel
theorem dX12_reads_337 : decode cX12_reads 337 = .ok (.goto 5, 3) := by decide +kernel
theorem dX12_reads_340 : decode cX12_reads 340 = .ok (.bipush 27, 2) := by decide +kernel
theorem dX12_reads_342 : decode cX12_reads 342 = .ok (.invokevirtual 225, 3) := by decide +kernel
theorem dX12_reads_345 : decode cX12_reads 345 = .ok (.aload_n 0, 1) := by decide +kernel
theorem dX12_reads_346 : decode cX12_reads 346 = .ok (.getfield 65, 3) := by decide +kernel
theorem dX12_reads_349 : decode cX12_reads 349 = .ok (.iload_n 1, 1) := by decide +kernel
theorem dX12_reads_350 : decode cX12_reads 350 = .ok (.iconst 0, 1) := by decide +kernel
theorem dX12_reads_351 : decode cX12_reads 351 = .ok (.bastore, 1) := by decide +kernel
theorem dX12_reads_352 : decode cX12_reads 352 = .ok (.iconst 1, 1) := by decide +kernel
theorem dX12_reads_353 : decode cX12_reads 353 = .ok (.istore_n 2, 1) := by decide +kernel
theorem dX12_reads_354 : decode cX12_reads 354 = .ok (.goto 70, 3) := by decide +kernel
theorem dX12_reads_357 : decode cX12_reads 357 = .ok (.aload_n 0, 1) := by decide +kernel
theorem dX12_reads_358 : decode cX12_reads 358 = .ok (.bipush 41, 2) := by decide +kernel
theorem dX12_reads_360 : decode cX12_reads 360 = .ok (.invokevirtual 218, 3) := by decide +kernel
theorem dX12_reads_363 : decode cX12_reads 363 = .ok (.ifCond .eq 36, 3) := by decide +kernel
theorem dX12_reads_366 : decode cX12_reads 366 = .ok (.iload_n 1, 1) := by decide +kernel
theorem dX12_reads_367 : decode cX12_reads 367 = .ok (.ifCond .le 32, 3) := by decide +kernel
theorem dX12_reads_370 : decode cX12_reads 370 = .ok (.aload_n 0, 1) := by decide +kernel
theorem dX12_reads_371 : decode cX12_reads 371 = .ok (.bipush 29, 2) := by decide +kernel
theorem dX12_reads_373 : decode cX12_reads 373 = .ok (.invokevirtual 225, 3) := by decide +kernel
theorem dX12_reads_376 : decode cX12_reads 376 = .ok (.iinc 1 (-1), 3) := by decide +kernel
theorem dX12_reads_379 : decode cX12_reads 379 = .ok (.iload_n 1, 1) := by decide +kernel
theorem dX12_reads_380 : decode cX12_reads 380 = .ok (.ifCond .le 44, 3) := by decide +kernel
theorem dX12_reads_383 : decode cX12_reads 383 = .ok (.aload_n 0, 1) := by decide +kernel
theorem dX12_reads_384 : decode cX12_reads 384 = .ok (.getfield 62, 3) := by decide +kernel
theorem dX12_reads_387 : decode cX12_reads 387 = .ok (.iload_n 1, 1) := by decide +kernel
theorem dX12_reads_388 : decode cX12_reads 388 = .ok (.iaload, 1) := by decide +kernel
theorem dX12_reads_389 : decode cX12_reads 389 = .ok (.iconst 1, 1) := by decide +kernel
theorem dX12_reads_390 : decode cX12_reads 390 = .ok (.if_icmp .ne 34, 3) := by decide +kernel
theorem dX12_reads_393 : decode cX12_reads 393 = .ok (.iinc 1 (-1), 3) := by decide +kernel
theorem dX12_reads_396 : decode cX12_reads 396 = .ok (.goto (-17), 3) := by decide +kernel
theorem dX12_reads_399 : decode cX12_reads 399 = .ok (.iload_n 1, 1) := by decide +kernel
theorem dX12_reads_400 : decode cX12_reads 400 = .ok (.ifCond .ne 18, 3) := by decide +kernel
theorem dX12_reads_403 : decode cX12_reads 403 = .ok (.aload_n 0, 1) := by decide +kernel
theorem dX12_reads_404 : decode cX12_reads 404 = .ok (.bipush 59, 2) := by decide +kernel
theorem dX12_reads_406 : decode cX12_reads 406 = .ok (.invokevirtual 218, 3) := by decide +kernel
theorem dX12_reads_409 : decode cX12_reads 409 = .ok (.ifCond .eq 9, 3) := by decide +kernel
theorem dX12_reads_412 : decode cX12_reads 412 = .ok (.aload_n 0, 1) := by decide +kernel
theorem dX12_reads_413 : decode cX12_reads 413 = .ok (.invokevirtual 229, 3) := by decide +kernel
theorem dX12_reads_416 : decode cX12_reads 416 = .ok (.iconst 1, 1) := by decide +kernel
theorem dX12_reads_417 : decode cX12_reads 417 = .ok (.ireturn, 1) := by decide +kernel
theorem dX12_reads_418 : decode cX12_reads 418 = .ok (.aload_n 0, 1) := by decide +kernel
theorem dX12_reads_419 : decode cX12_reads 419 = .ok (.iconst 1, 1) := by decide +kernel
theorem dX12_reads_420 : decode cX12_reads 420 = .ok (.invokevirtual 222, 3) := by decide +kernel
theorem dX12_reads_423 : decode cX12_reads 423 = .ok (.ireturn, 1) := by decide +kernel
theorem dX12_reads_424 : decode cX12_reads 424 = .ok (.aload_n 0, 1) := by decide +kernel
theorem dX12_reads_425 : decode cX12_reads 425 = .ok (.invokevirtual 229, 3) := by decide +kernel
theorem dX12_reads_428 : decode cX12_reads 428 = .ok (.goto (-417), 3) := by decide +kernel
theorem dX12_opens_0 : decode cX12_opens 0 = .ok (.aload_n 0, 1) := by decide +kernel
theorem dX12_opens_1 : decode cX12_opens 1 = .ok (.getfield 72, 3) := by decide +kernel
theorem dX12_opens_4 : decode cX12_opens 4 = .ok (.iload_n 1, 1) := by decide +kernel
theorem dX12_opens_5 : decode cX12_opens 5 = .ok (.iconst 0, 1) := by decide +kernel
theorem dX12_opens_6 : decode cX12_opens 6 = .ok (.iastore, 1) := by decide +kernel
theorem dX12_opens_7 : decode cX12_opens 7 = .ok (.aload_n 0, 1) := by decide +kernel
theorem dX12_opens_8 : decode cX12_opens 8 = .ok (.getfield 78, 3) := by decide +kernel
theorem dX12_opens_11 : decode cX12_opens 11 = .ok (.iload_n 1, 1) := by decide +kernel
theorem dX12_opens_12 : decode cX12_opens 12 = .ok (.iconst 0, 1) := by decide +kernel
theorem dX12_opens_13 : decode cX12_opens 13 = .ok (.iastore, 1) := by decide +kernel
theorem dX12_opens_14 : decode cX12_opens 14 = .ok (.aload_n 0, 1) := by decide +kernel
theorem dX12_opens_15 : decode cX12_opens 15 = .ok (.getfield 81, 3) := by decide +kernel
theorem dX12_opens_18 : decode cX12_opens 18 = .ok (.iload_n 1, 1) := by decide +kernel
theorem dX12_opens_19 : decode cX12_opens 19 = .ok (.iconst 0, 1) := by decide +kernel
theorem dX12_opens_20 : decode cX12_opens 20 = .ok (.iastore, 1) := by decide +kernel
theorem dX12_opens_21 : decode cX12_opens 21 = .ok (.aload_n 0, 1) := by decide +kernel
theorem dX12_opens_22 : decode cX12_opens 22 = .ok (.getfield 84, 3) := by decide +kernel
theorem dX12_opens_25 : decode cX12_opens 25 = .ok (.iload_n 1, 1) := by decide +kernel
theorem dX12_opens_26 : decode cX12_opens 26 = .ok (.bipush 20, 2) := by decide +kernel
theorem dX12_opens_28 : decode cX12_opens 28 = .ok (.iastore, 1) := by decide +kernel
theorem dX12_opens_29 : decode cX12_opens 29 = .ok (.aload_n 0, 1) := by decide +kernel
theorem dX12_opens_30 : decode cX12_opens 30 = .ok (.getfield 90, 3) := by decide +kernel
theorem dX12_opens_33 : decode cX12_opens 33 = .ok (.iload_n 1, 1) := by decide +kernel
theorem dX12_opens_34 : decode cX12_opens 34 = .ok (.iconst 0, 1) := by decide +kernel
theorem dX12_opens_35 : decode cX12_opens 35 = .ok (.iastore, 1) := by decide +kernel
theorem dX12_opens_36 : decode cX12_opens 36 = .ok (.return_, 1) := by decide +kernel
theorem dX12_sums_0 : decode cX12_sums 0 = .ok (.aload_n 0, 1) := by decide +kernel
theorem dX12_sums_1 : decode cX12_sums 1 = .ok (.getfield 81, 3) := by decide +kernel
theorem dX12_sums_4 : decode cX12_sums 4 = .ok (.iload_n 1, 1) := by decide +kernel
theorem dX12_sums_5 : decode cX12_sums 5 = .ok (.aload_n 0, 1) := by decide +kernel
theorem dX12_sums_6 : decode cX12_sums 6 = .ok (.getfield 84, 3) := by decide +kernel
theorem dX12_sums_9 : decode cX12_sums 9 = .ok (.iload_n 1, 1) := by decide +kernel
theorem dX12_sums_10 : decode cX12_sums 10 = .ok (.iaload, 1) := by decide +kernel
theorem dX12_sums_11 : decode cX12_sums 11 = .ok (.bipush 21, 2) := by decide +kernel
theorem dX12_sums_13 : decode cX12_sums 13 = .ok (.if_icmp .ne 19, 3) := by decide +kernel
theorem dX12_sums_16 : decode cX12_sums 16 = .ok (.aload_n 0, 1) := by decide +kernel
theorem dX12_sums_17 : decode cX12_sums 17 = .ok (.getfield 81, 3) := by decide +kernel
theorem dX12_sums_20 : decode cX12_sums 20 = .ok (.iload_n 1, 1) := by decide +kernel
theorem dX12_sums_21 : decode cX12_sums 21 = .ok (.iaload, 1) := by decide +kernel
theorem dX12_sums_22 : decode cX12_sums 22 = .ok (.aload_n 0, 1) := by decide +kernel
theorem dX12_sums_23 : decode cX12_sums 23 = .ok (.getfield 87, 3) := by decide +kernel
theorem dX12_sums_26 : decode cX12_sums 26 = .ok (.iload_n 1, 1) := by decide +kernel
theorem dX12_sums_27 : decode cX12_sums 27 = .ok (.iaload, 1) := by decide +kernel
theorem dX12_sums_28 : decode cX12_sums 28 = .ok (.isub, 1) := by decide +kernel
theorem dX12_sums_29 : decode cX12_sums 29 = .ok (.goto 16, 3) := by decide +kernel
theorem dX12_sums_32 : decode cX12_sums 32 = .ok (.aload_n 0, 1) := by decide +kernel
theorem dX12_sums_33 : decode cX12_sums 33 = .ok (.getfield 81, 3) := by decide +kernel
theorem dX12_sums_36 : decode cX12_sums 36 = .ok (.iload_n 1, 1) := by decide +kernel
theorem dX12_sums_37 : decode cX12_sums 37 = .ok (.iaload, 1) := by decide +kernel
theorem dX12_sums_38 : decode cX12_sums 38 = .ok (.aload_n 0, 1) := by decide +kernel
theorem dX12_sums_39 : decode cX12_sums 39 = .ok (.getfield 87, 3) := by decide +kernel
theorem dX12_sums_42 : decode cX12_sums 42 = .ok (.iload_n 1, 1) := by decide +kernel
theorem dX12_sums_43 : decode cX12_sums 43 = .ok (.iaload, 1) := by decide +kernel
theorem dX12_sums_44 : decode cX12_sums 44 = .ok (.iadd, 1) := by decide +kernel
theorem dX12_sums_45 : decode cX12_sums 45 = .ok (.iastore, 1) := by decide +kernel
theorem dX12_sums_46 : decode cX12_sums 46 = .ok (.aload_n 0, 1) := by decide +kernel
theorem dX12_sums_47 : decode cX12_sums 47 = .ok (.getfield 90, 3) := by decide +kernel
theorem dX12_sums_50 : decode cX12_sums 50 = .ok (.iload_n 1, 1) := by decide +kernel
theorem dX12_sums_51 : decode cX12_sums 51 = .ok (.iconst 0, 1) := by decide +kernel
theorem dX12_sums_52 : decode cX12_sums 52 = .ok (.iastore, 1) := by decide +kernel
theorem dX12_sums_53 : decode cX12_sums 53 = .ok (.return_, 1) := by decide +kernel
theorem dX12_tests_0 : decode cX12_tests 0 = .ok (.aload_n 0, 1) := by decide +kernel
theorem dX12_tests_1 : decode cX12_tests 1 = .ok (.iload_n 1, 1) := by decide +kernel
theorem dX12_tests_2 : decode cX12_tests 2 = .ok (.invokevirtual 236, 3) := by decide +kernel
theorem dX12_tests_5 : decode cX12_tests 5 = .ok (.aload_n 0, 1) := by decide +kernel
theorem dX12_tests_6 : decode cX12_tests 6 = .ok (.getfield 81, 3) := by decide +kernel
theorem dX12_tests_9 : decode cX12_tests 9 = .ok (.iload_n 1, 1) := by decide +kernel
theorem dX12_tests_10 : decode cX12_tests 10 = .ok (.iaload, 1) := by decide +kernel
theorem dX12_tests_11 : decode cX12_tests 11 = .ok (.istore_n 2, 1) := by decide +kernel
theorem dX12_tests_12 : decode cX12_tests 12 = .ok (.aload_n 0, 1) := by decide +kernel
theorem dX12_tests_13 : decode cX12_tests 13 = .ok (.getfield 78, 3) := by decide +kernel
theorem dX12_tests_16 : decode cX12_tests 16 = .ok (.iload_n 1, 1) := by decide +kernel
theorem dX12_tests_17 : decode cX12_tests 17 = .ok (.iaload, 1) := by decide +kernel
theorem dX12_tests_18 : decode cX12_tests 18 = .ok (.bipush 24, 2) := by decide +kernel
theorem dX12_tests_20 : decode cX12_tests 20 = .ok (.if_icmp .ne 24, 3) := by decide +kernel
theorem dX12_tests_23 : decode cX12_tests 23 = .ok (.aload_n 0, 1) := by decide +kernel
theorem dX12_tests_24 : decode cX12_tests 24 = .ok (.getfield 75, 3) := by decide +kernel
theorem dX12_tests_27 : decode cX12_tests 27 = .ok (.iload_n 1, 1) := by decide +kernel
theorem dX12_tests_28 : decode cX12_tests 28 = .ok (.iaload, 1) := by decide +kernel
theorem dX12_tests_29 : decode cX12_tests 29 = .ok (.aload_n 0, 1) := by decide +kernel
theorem dX12_tests_30 : decode cX12_tests 30 = .ok (.getfield 81, 3) := by decide +kernel
theorem dX12_tests_33 : decode cX12_tests 33 = .ok (.iload_n 1, 1) := by decide +kernel
theorem dX12_tests_34 : decode cX12_tests 34 = .ok (.iaload, 1) := by decide +kernel
theorem dX12_tests_35 : decode cX12_tests 35 = .ok (.if_icmp .ge 7, 3) := by decide +kernel
theorem dX12_tests_38 : decode cX12_tests 38 = .ok (.iconst 1, 1) := by decide +kernel
theorem dX12_tests_39 : decode cX12_tests 39 = .ok (.goto 4, 3) := by decide +kernel
theorem dX12_tests_42 : decode cX12_tests 42 = .ok (.iconst 0, 1) := by decide +kernel
theorem dX12_tests_43 : decode cX12_tests 43 = .ok (.istore_n 2, 1) := by decide +kernel
theorem dX12_tests_44 : decode cX12_tests 44 = .ok (.aload_n 0, 1) := by decide +kernel
theorem dX12_tests_45 : decode cX12_tests 45 = .ok (.getfield 78, 3) := by decide +kernel
theorem dX12_tests_48 : decode cX12_tests 48 = .ok (.iload_n 1, 1) := by decide +kernel
theorem dX12_tests_49 : decode cX12_tests 49 = .ok (.iaload, 1) := by decide +kernel
theorem dX12_tests_50 : decode cX12_tests 50 = .ok (.bipush 25, 2) := by decide +kernel
theorem dX12_tests_52 : decode cX12_tests 52 = .ok (.if_icmp .ne 24, 3) := by decide +kernel
theorem dX12_tests_55 : decode cX12_tests 55 = .ok (.aload_n 0, 1) := by decide +kernel
theorem dX12_tests_56 : decode cX12_tests 56 = .ok (.getfield 75, 3) := by decide +kernel
theorem dX12_tests_59 : decode cX12_tests 59 = .ok (.iload_n 1, 1) := by decide +kernel
theorem dX12_tests_60 : decode cX12_tests 60 = .ok (.iaload, 1) := by decide +kernel
theorem dX12_tests_61 : decode cX12_tests 61 = .ok (.aload_n 0, 1) := by decide +kernel
theorem dX12_tests_62 : decode cX12_tests 62 = .ok (.getfield 81, 3) := by decide +kernel
theorem dX12_tests_65 : decode cX12_tests 65 = .ok (.iload_n 1, 1) := by decide +kernel
theorem dX12_tests_66 : decode cX12_tests 66 = .ok (.iaload, 1) := by decide +kernel
theorem dX12_tests_67 : decode cX12_tests 67 = .ok (.if_icmp .ne 7, 3) := by decide +kernel
theorem dX12_tests_70 : decode cX12_tests 70 = .ok (.iconst 1, 1) := by decide +kernel
theorem dX12_tests_71 : decode cX12_tests 71 = .ok (.goto 4, 3) := by decide +kernel
theorem dX12_tests_74 : decode cX12_tests 74 = .ok (.iconst 0, 1) := by decide +kernel
theorem dX12_tests_75 : decode cX12_tests 75 = .ok (.istore_n 2, 1) := by decide +kernel
theorem dX12_tests_76 : decode cX12_tests 76 = .ok (.aload_n 0, 1) := by decide +kernel
theorem dX12_tests_77 : decode cX12_tests 77 = .ok (.getfield 72, 3) := by decide +kernel
theorem dX12_tests_80 : decode cX12_tests 80 = .ok (.iload_n 1, 1) := by decide +kernel
theorem dX12_tests_81 : decode cX12_tests 81 = .ok (.iaload, 1) := by decide +kernel
theorem dX12_tests_82 : decode cX12_tests 82 = .ok (.bipush 26, 2) := by decide +kernel
theorem dX12_tests_84 : decode cX12_tests 84 = .ok (.if_icmp .ne 22, 3) := by decide +kernel
theorem dX12_tests_87 : decode cX12_tests 87 = .ok (.aload_n 0, 1) := by decide +kernel
theorem dX12_tests_88 : decode cX12_tests 88 = .ok (.getfield 69, 3) := by decide +kernel
theorem dX12_tests_91 : decode cX12_tests 91 = .ok (.iload_n 1, 1) := by decide +kernel
theorem dX12_tests_92 : decode cX12_tests 92 = .ok (.iaload, 1) := by decide +kernel
theorem dX12_tests_93 : decode cX12_tests 93 = .ok (.ifCond .eq 11, 3) := by decide +kernel
theorem dX12_tests_96 : decode cX12_tests 96 = .ok (.iload_n 2, 1) := by decide +kernel
theorem dX12_tests_97 : decode cX12_tests 97 = .ok (.ifCond .eq 7, 3) := by decide +kernel
theorem dX12_tests_100 : decode cX12_tests 100 = .ok (.iconst 1, 1) := by decide +kernel
theorem dX12_tests_101 : decode cX12_tests 101 = .ok (.goto 4, 3) := by decide +kernel
theorem dX12_tests_104 : decode cX12_tests 104 = .ok (.iconst 0, 1) := by decide +kernel
theorem dX12_tests_105 : decode cX12_tests 105 = .ok (.istore_n 2, 1) := by decide +kernel
theorem dX12_tests_106 : decode cX12_tests 106 = .ok (.aload_n 0, 1) := by decide +kernel
theorem dX12_tests_107 : decode cX12_tests 107 = .ok (.getfield 72, 3) := by decide +kernel
theorem dX12_tests_110 : decode cX12_tests 110 = .ok (.iload_n 1, 1) := by decide +kernel
theorem dX12_tests_111 : decode cX12_tests 111 = .ok (.iaload, 1) := by decide +kernel
theorem dX12_tests_112 : decode cX12_tests 112 = .ok (.bipush 27, 2) := by decide +kernel
theorem dX12_tests_114 : decode cX12_tests 114 = .ok (.if_icmp .ne 22, 3) := by decide +kernel
theorem dX12_tests_117 : decode cX12_tests 117 = .ok (.aload_n 0, 1) := by decide +kernel
theorem dX12_tests_118 : decode cX12_tests 118 = .ok (.getfield 69, 3) := by decide +kernel
theorem dX12_tests_121 : decode cX12_tests 121 = .ok (.iload_n 1, 1) := by decide +kernel
theorem dX12_tests_122 : decode cX12_tests 122 = .ok (.iaload, 1) := by decide +kernel
theorem dX12_tests_123 : decode cX12_tests 123 = .ok (.ifCond .ne 7, 3) := by decide +kernel
theorem dX12_tests_126 : decode cX12_tests 126 = .ok (.iload_n 2, 1) := by decide +kernel
theorem dX12_tests_127 : decode cX12_tests 127 = .ok (.ifCond .eq 7, 3) := by decide +kernel
theorem dX12_tests_130 : decode cX12_tests 130 = .ok (.iconst 1, 1) := by decide +kernel
theorem dX12_tests_131 : decode cX12_tests 131 = .ok (.goto 4, 3) := by decide +kernel
theorem dX12_tests_134 : decode cX12_tests 134 = .ok (.iconst 0, 1) := by decide +kernel
theorem dX12_tests_135 : decode cX12_tests 135 = .ok (.istore_n 2, 1) := by decide +kernel
theorem dX12_tests_136 : decode cX12_tests 136 = .ok (.aload_n 0, 1) := by decide +kernel
theorem dX12_tests_137 : decode cX12_tests 137 = .ok (.getfield 69, 3) := by decide +kernel
theorem dX12_tests_140 : decode cX12_tests 140 = .ok (.iload_n 1, 1) := by decide +kernel
theorem dX12_tests_141 : decode cX12_tests 141 = .ok (.iload_n 2, 1) := by decide +kernel
theorem dX12_tests_142 : decode cX12_tests 142 = .ok (.iastore, 1) := by decide +kernel
theorem dX12_tests_143 : decode cX12_tests 143 = .ok (.aload_n 0, 1) := by decide +kernel
theorem dX12_tests_144 : decode cX12_tests 144 = .ok (.getfield 78, 3) := by decide +kernel
theorem dX12_tests_147 : decode cX12_tests 147 = .ok (.iload_n 1, 1) := by decide +kernel
theorem dX12_tests_148 : decode cX12_tests 148 = .ok (.iconst 0, 1) := by decide +kernel
theorem dX12_tests_149 : decode cX12_tests 149 = .ok (.iastore, 1) := by decide +kernel
theorem dX12_tests_150 : decode cX12_tests 150 = .ok (.aload_n 0, 1) := by decide +kernel
theorem dX12_tests_151 : decode cX12_tests 151 = .ok (.getfield 81, 3) := by decide +kernel
theorem dX12_tests_154 : decode cX12_tests 154 = .ok (.iload_n 1, 1) := by decide +kernel
theorem dX12_tests_155 : decode cX12_tests 155 = .ok (.iconst 0, 1) := by decide +kernel
theorem dX12_tests_156 : decode cX12_tests 156 = .ok (.iastore, 1) := by decide +kernel
theorem dX12_tests_157 : decode cX12_tests 157 = .ok (.aload_n 0, 1) := by decide +kernel
theorem dX12_tests_158 : decode cX12_tests 158 = .ok (.getfield 84, 3) := by decide +kernel
theorem dX12_tests_161 : decode cX12_tests 161 = .ok (.iload_n 1, 1) := by decide +kernel
theorem dX12_tests_162 : decode cX12_tests 162 = .ok (.bipush 20, 2) := by decide +kernel
theorem dX12_tests_164 : decode cX12_tests 164 = .ok (.iastore, 1) := by decide +kernel
theorem dX12_tests_165 : decode cX12_tests 165 = .ok (.return_, 1) := by decide +kernel
theorem dX12_worked_0 : decode cX12_worked 0 = .ok (.iconst 0, 1) := by decide +kernel
theorem dX12_worked_1 : decode cX12_worked 1 = .ok (.istore_n 2, 1) := by decide +kernel
theorem dX12_worked_2 : decode cX12_worked 2 = .ok (.aload_n 0, 1) := by decide +kernel
theorem dX12_worked_3 : decode cX12_worked 3 = .ok (.iconst 0, 1) := by decide +kernel
theorem dX12_worked_4 : decode cX12_worked 4 = .ok (.invokevirtual 239, 3) := by decide +kernel
theorem dX12_worked_7 : decode cX12_worked 7 = .ok (.aload_n 0, 1) := by decide +kernel
theorem dX12_worked_8 : decode cX12_worked 8 = .ok (.getfield 53, 3) := by decide +kernel
theorem dX12_worked_11 : decode cX12_worked 11 = .ok (.iload_n 1, 1) := by decide +kernel
theorem dX12_worked_12 : decode cX12_worked 12 = .ok (.iaload, 1) := by decide +kernel
theorem dX12_worked_13 : decode cX12_worked 13 = .ok (.istore_n 3, 1) := by decide +kernel
theorem dX12_worked_14 : decode cX12_worked 14 = .ok (.iload_n 3, 1) := by decide +kernel
theorem dX12_worked_15 : decode cX12_worked 15 = .ok (.aload_n 0, 1) := by decide +kernel
theorem dX12_worked_16 : decode cX12_worked 16 = .ok (.getfield 56, 3) := by decide +kernel
theorem dX12_worked_19 : decode cX12_worked 19 = .ok (.iload_n 1, 1) := by decide +kernel
theorem dX12_worked_20 : decode cX12_worked 20 = .ok (.iaload, 1) := by decide +kernel
theorem dX12_worked_21 : decode cX12_worked 21 = .ok (.if_icmp .ge 314, 3) := by decide +kernel
theorem dX12_worked_24 : decode cX12_worked 24 = .ok (.aload_n 0, 1) := by decide +kernel
theorem dX12_worked_25 : decode cX12_worked 25 = .ok (.getfield 59, 3) := by decide +kernel
theorem dX12_worked_28 : decode cX12_worked 28 = .ok (.iload_n 3, 1) := by decide +kernel
theorem dX12_worked_29 : decode cX12_worked 29 = .ok (.iaload, 1) := by decide +kernel
theorem dX12_worked_30 : decode cX12_worked 30 = .ok (.istore 4, 2) := by decide +kernel
theorem dX12_worked_32 : decode cX12_worked 32 = .ok (.iload 4, 2) := by decide +kernel
theorem dX12_worked_34 : decode cX12_worked 34 = .ok (.bipush 28, 2) := by decide +kernel
theorem dX12_worked_36 : decode cX12_worked 36 = .ok (.if_icmp .eq 10, 3) := by decide +kernel
theorem dX12_worked_39 : decode cX12_worked 39 = .ok (.iload 4, 2) := by decide +kernel
theorem dX12_worked_41 : decode cX12_worked 41 = .ok (.bipush 30, 2) := by decide +kernel
theorem dX12_worked_43 : decode cX12_worked 43 = .ok (.if_icmp .ne 32, 3) := by decide +kernel
theorem dX12_worked_46 : decode cX12_worked 46 = .ok (.iinc 2 1, 3) := by decide +kernel
theorem dX12_worked_49 : decode cX12_worked 49 = .ok (.aload_n 0, 1) := by decide +kernel
theorem dX12_worked_50 : decode cX12_worked 50 = .ok (.getfield 93, 3) := by decide +kernel
theorem dX12_worked_53 : decode cX12_worked 53 = .ok (.iload_n 2, 1) := by decide +kernel
theorem dX12_worked_54 : decode cX12_worked 54 = .ok (.iload 4, 2) := by decide +kernel
theorem dX12_worked_56 : decode cX12_worked 56 = .ok (.bipush 30, 2) := by decide +kernel
theorem dX12_worked_58 : decode cX12_worked 58 = .ok (.if_icmp .ne 7, 3) := by decide +kernel
theorem dX12_worked_61 : decode cX12_worked 61 = .ok (.iconst 1, 1) := by decide +kernel
theorem dX12_worked_62 : decode cX12_worked 62 = .ok (.goto 4, 3) := by decide +kernel
theorem dX12_worked_65 : decode cX12_worked 65 = .ok (.iconst 0, 1) := by decide +kernel
theorem dX12_worked_66 : decode cX12_worked 66 = .ok (.iastore, 1) := by decide +kernel
theorem dX12_worked_67 : decode cX12_worked 67 = .ok (.aload_n 0, 1) := by decide +kernel
theorem dX12_worked_68 : decode cX12_worked 68 = .ok (.iload_n 2, 1) := by decide +kernel
theorem dX12_worked_69 : decode cX12_worked 69 = .ok (.invokevirtual 239, 3) := by decide +kernel
theorem dX12_worked_72 : decode cX12_worked 72 = .ok (.goto 257, 3) := by decide +kernel
theorem dX12_worked_75 : decode cX12_worked 75 = .ok (.iload 4, 2) := by decide +kernel
theorem dX12_worked_77 : decode cX12_worked 77 = .ok (.bipush 20, 2) := by decide +kernel
theorem dX12_worked_79 : decode cX12_worked 79 = .ok (.if_icmp .eq 10, 3) := by decide +kernel
theorem dX12_worked_82 : decode cX12_worked 82 = .ok (.iload 4, 2) := by decide +kernel
theorem dX12_worked_84 : decode cX12_worked 84 = .ok (.bipush 21, 2) := by decide +kernel
theorem dX12_worked_86 : decode cX12_worked 86 = .ok (.if_icmp .ne 19, 3) := by decide +kernel
theorem dX12_worked_89 : decode cX12_worked 89 = .ok (.aload_n 0, 1) := by decide +kernel
theorem dX12_worked_90 : decode cX12_worked 90 = .ok (.iload_n 2, 1) := by decide +kernel
theorem dX12_worked_91 : decode cX12_worked 91 = .ok (.invokevirtual 236, 3) := by decide +kernel
theorem dX12_worked_94 : decode cX12_worked 94 = .ok (.aload_n 0, 1) := by decide +kernel
theorem dX12_worked_95 : decode cX12_worked 95 = .ok (.getfield 84, 3) := by decide +kernel
theorem dX12_worked_98 : decode cX12_worked 98 = .ok (.iload_n 2, 1) := by decide +kernel
theorem dX12_worked_99 : decode cX12_worked 99 = .ok (.iload 4, 2) := by decide +kernel
theorem dX12_worked_101 : decode cX12_worked 101 = .ok (.iastore, 1) := by decide +kernel
theorem dX12_worked_102 : decode cX12_worked 102 = .ok (.goto 227, 3) := by decide +kernel
theorem dX12_worked_105 : decode cX12_worked 105 = .ok (.iload 4, 2) := by decide +kernel
theorem dX12_worked_107 : decode cX12_worked 107 = .ok (.bipush 22, 2) := by decide +kernel
theorem dX12_worked_109 : decode cX12_worked 109 = .ok (.if_icmp .ne 14, 3) := by decide +kernel
theorem dX12_worked_112 : decode cX12_worked 112 = .ok (.aload_n 0, 1) := by decide +kernel
theorem dX12_worked_113 : decode cX12_worked 113 = .ok (.getfield 90, 3) := by decide +kernel
theorem dX12_worked_116 : decode cX12_worked 116 = .ok (.iload_n 2, 1) := by decide +kernel
theorem dX12_worked_117 : decode cX12_worked 117 = .ok (.iload 4, 2) := by decide +kernel
theorem dX12_worked_119 : decode cX12_worked 119 = .ok (.iastore, 1) := by decide +kernel
theorem dX12_worked_120 : decode cX12_worked 120 = .ok (.goto 209, 3) := by decide +kernel
theorem dX12_worked_123 : decode cX12_worked 123 = .ok (.iload 4, 2) := by decide +kernel
theorem dX12_worked_125 : decode cX12_worked 125 = .ok (.bipush 24, 2) := by decide +kernel
theorem dX12_worked_127 : decode cX12_worked 127 = .ok (.if_icmp .eq 10, 3) := by decide +kernel
theorem dX12_worked_130 : decode cX12_worked 130 = .ok (.iload 4, 2) := by decide +kernel
theorem dX12_worked_132 : decode cX12_worked 132 = .ok (.bipush 25, 2) := by decide +kernel
theorem dX12_worked_134 : decode cX12_worked 134 = .ok (.if_icmp .ne 46, 3) := by decide +kernel
theorem dX12_worked_137 : decode cX12_worked 137 = .ok (.aload_n 0, 1) := by decide +kernel
theorem dX12_worked_138 : decode cX12_worked 138 = .ok (.iload_n 2, 1) := by decide +kernel
theorem dX12_worked_139 : decode cX12_worked 139 = .ok (.invokevirtual 236, 3) := by decide +kernel
theorem dX12_worked_142 : decode cX12_worked 142 = .ok (.aload_n 0, 1) := by decide +kernel
theorem dX12_worked_143 : decode cX12_worked 143 = .ok (.getfield 75, 3) := by decide +kernel
theorem dX12_worked_146 : decode cX12_worked 146 = .ok (.iload_n 2, 1) := by decide +kernel
theorem dX12_worked_147 : decode cX12_worked 147 = .ok (.aload_n 0, 1) := by decide +kernel
theorem dX12_worked_148 : decode cX12_worked 148 = .ok (.getfield 81, 3) := by decide +kernel
theorem dX12_worked_151 : decode cX12_worked 151 = .ok (.iload_n 2, 1) := by decide +kernel
theorem dX12_worked_152 : decode cX12_worked 152 = .ok (.iaload, 1) := by decide +kernel
theorem dX12_worked_153 : decode cX12_worked 153 = .ok (.iastore, 1) := by decide +kernel
theorem dX12_worked_154 : decode cX12_worked 154 = .ok (.aload_n 0, 1) := by decide +kernel
theorem dX12_worked_155 : decode cX12_worked 155 = .ok (.getfield 78, 3) := by decide +kernel
theorem dX12_worked_158 : decode cX12_worked 158 = .ok (.iload_n 2, 1) := by decide +kernel
theorem dX12_worked_159 : decode cX12_worked 159 = .ok (.iload 4, 2) := by decide +kernel
theorem dX12_worked_161 : decode cX12_worked 161 = .ok (.iastore, 1) := by decide +kernel
theorem dX12_worked_162 : decode cX12_worked 162 = .ok (.aload_n 0, 1) := by decide +kernel
theorem dX12_worked_163 : decode cX12_worked 163 = .ok (.getfield 81, 3) := by decide +kernel
theorem dX12_worked_166 : decode cX12_worked 166 = .ok (.iload_n 2, 1) := by decide +kernel
theorem dX12_worked_167 : decode cX12_worked 167 = .ok (.iconst 0, 1) := by decide +kernel
theorem dX12_worked_168 : decode cX12_worked 168 = .ok (.iastore, 1) := by decide +kernel
theorem dX12_worked_169 : decode cX12_worked 169 = .ok (.aload_n 0, 1) := by decide +kernel
theorem dX12_worked_170 : decode cX12_worked 170 = .ok (.getfield 84, 3) := by decide +kernel
theorem dX12_worked_173 : decode cX12_worked 173 = .ok (.iload_n 2, 1) := by decide +kernel
theorem dX12_worked_174 : decode cX12_worked 174 = .ok (.bipush 20, 2) := by decide +kernel
theorem dX12_worked_176 : decode cX12_worked 176 = .ok (.iastore, 1) := by decide +kernel
theorem dX12_worked_177 : decode cX12_worked 177 = .ok (.goto 152, 3) := by decide +kernel
theorem dX12_worked_180 : decode cX12_worked 180 = .ok (.iload 4, 2) := by decide +kernel
theorem dX12_worked_182 : decode cX12_worked 182 = .ok (.bipush 26, 2) := by decide +kernel
theorem dX12_worked_184 : decode cX12_worked 184 = .ok (.if_icmp .eq 10, 3) := by decide +kernel
theorem dX12_worked_187 : decode cX12_worked 187 = .ok (.iload 4, 2) := by decide +kernel
theorem dX12_worked_189 : decode cX12_worked 189 = .ok (.bipush 27, 2) := by decide +kernel
theorem dX12_worked_191 : decode cX12_worked 191 = .ok (.if_icmp .ne 19, 3) := by decide +kernel
theorem dX12_worked_194 : decode cX12_worked 194 = .ok (.aload_n 0, 1) := by decide +kernel
theorem dX12_worked_195 : decode cX12_worked 195 = .ok (.iload_n 2, 1) := by decide +kernel
theorem dX12_worked_196 : decode cX12_worked 196 = .ok (.invokevirtual 242, 3) := by decide +kernel
theorem dX12_worked_199 : decode cX12_worked 199 = .ok (.aload_n 0, 1) := by decide +kernel
theorem dX12_worked_200 : decode cX12_worked 200 = .ok (.getfield 72, 3) := by decide +kernel
theorem dX12_worked_203 : decode cX12_worked 203 = .ok (.iload_n 2, 1) := by decide +kernel
theorem dX12_worked_204 : decode cX12_worked 204 = .ok (.iload 4, 2) := by decide +kernel
theorem dX12_worked_206 : decode cX12_worked 206 = .ok (.iastore, 1) := by decide +kernel
theorem dX12_worked_207 : decode cX12_worked 207 = .ok (.goto 122, 3) := by decide +kernel
theorem dX12_worked_210 : decode cX12_worked 210 = .ok (.iload 4, 2) := by decide +kernel
theorem dX12_worked_212 : decode cX12_worked 212 = .ok (.bipush 100, 2) := by decide +kernel
theorem dX12_worked_214 : decode cX12_worked 214 = .ok (.if_icmp .lt 11, 3) := by decide +kernel
theorem dX12_worked_217 : decode cX12_worked 217 = .ok (.iload 4, 2) := by decide +kernel
theorem dX12_worked_219 : decode cX12_worked 219 = .ok (.bipush 100, 2) := by decide +kernel
theorem dX12_worked_221 : decode cX12_worked 221 = .ok (.isub, 1) := by decide +kernel
theorem dX12_worked_222 : decode cX12_worked 222 = .ok (.goto 21, 3) := by decide +kernel
theorem dX12_worked_225 : decode cX12_worked 225 = .ok (.iload 4, 2) := by decide +kernel
theorem dX12_worked_227 : decode cX12_worked 227 = .ok (.bipush 20, 2) := by decide +kernel
theorem dX12_worked_229 : decode cX12_worked 229 = .ok (.if_icmp .ge 13, 3) := by decide +kernel
theorem dX12_worked_232 : decode cX12_worked 232 = .ok (.aload_n 0, 1) := by decide +kernel
theorem dX12_worked_233 : decode cX12_worked 233 = .ok (.getfield 96, 3) := by decide +kernel
theorem dX12_worked_236 : decode cX12_worked 236 = .ok (.iload 4, 2) := by decide +kernel
theorem dX12_worked_238 : decode cX12_worked 238 = .ok (.iaload, 1) := by decide +kernel
theorem dX12_worked_239 : decode cX12_worked 239 = .ok (.goto 4, 3) := by decide +kernel
theorem dX12_worked_242 : decode cX12_worked 242 = .ok (.iconst 0, 1) := by decide +kernel
theorem dX12_worked_243 : decode cX12_worked 243 = .ok (.istore 5, 2) := by decide +kernel
theorem dX12_worked_245 : decode cX12_worked 245 = .ok (.iload 4, 2) := by decide +kernel
theorem dX12_worked_247 : decode cX12_worked 247 = .ok (.bipush 29, 2) := by decide +kernel
theorem dX12_worked_249 : decode cX12_worked 249 = .ok (.if_icmp .ne 19, 3) := by decide +kernel
theorem dX12_worked_252 : decode cX12_worked 252 = .ok (.aload_n 0, 1) := by decide +kernel
theorem dX12_worked_253 : decode cX12_worked 253 = .ok (.iload_n 2, 1) := by decide +kernel
theorem dX12_worked_254 : decode cX12_worked 254 = .ok (.invokevirtual 242, 3) := by decide +kernel
theorem dX12_worked_257 : decode cX12_worked 257 = .ok (.aload_n 0, 1) := by decide +kernel
theorem dX12_worked_258 : decode cX12_worked 258 = .ok (.getfield 69, 3) := by decide +kernel
theorem dX12_worked_261 : decode cX12_worked 261 = .ok (.iload_n 2, 1) := by decide +kernel
theorem dX12_worked_262 : decode cX12_worked 262 = .ok (.iaload, 1) := by decide +kernel
theorem dX12_worked_263 : decode cX12_worked 263 = .ok (.istore 5, 2) := by decide +kernel
theorem dX12_worked_265 : decode cX12_worked 265 = .ok (.iinc 2 (-1), 3) := by decide +kernel
theorem dX12_worked_268 : decode cX12_worked 268 = .ok (.iload_n 2, 1) := by decide +kernel
theorem dX12_worked_269 : decode cX12_worked 269 = .ok (.ifCond .le 31, 3) := by decide +kernel
theorem dX12_worked_272 : decode cX12_worked 272 = .ok (.aload_n 0, 1) := by decide +kernel
theorem dX12_worked_273 : decode cX12_worked 273 = .ok (.getfield 93, 3) := by decide +kernel
theorem dX12_worked_276 : decode cX12_worked 276 = .ok (.iload_n 2, 1) := by decide +kernel
theorem dX12_worked_277 : decode cX12_worked 277 = .ok (.iaload, 1) := by decide +kernel
theorem dX12_worked_278 : decode cX12_worked 278 = .ok (.iconst 1, 1) := by decide +kernel
theorem dX12_worked_279 : decode cX12_worked 279 = .ok (.if_icmp .ne 21, 3) := by decide +kernel
theorem dX12_worked_282 : decode cX12_worked 282 = .ok (.iload 5, 2) := by decide +kernel
theorem dX12_worked_284 : decode cX12_worked 284 = .ok (.ifCond .ne 7, 3) := by decide +kernel
theorem dX12_worked_287 : decode cX12_worked 287 = .ok (.iconst 1, 1) := by decide +kernel
theorem dX12_worked_288 : decode cX12_worked 288 = .ok (.goto 4, 3) := by decide +kernel
theorem dX12_worked_291 : decode cX12_worked 291 = .ok (.iconst 0, 1) := by decide +kernel
theorem dX12_worked_292 : decode cX12_worked 292 = .ok (.istore 5, 2) := by decide +kernel
theorem dX12_worked_294 : decode cX12_worked 294 = .ok (.iinc 2 (-1), 3) := by decide +kernel
theorem dX12_worked_297 : decode cX12_worked 297 = .ok (.goto (-29), 3) := by decide +kernel
theorem dX12_worked_300 : decode cX12_worked 300 = .ok (.aload_n 0, 1) := by decide +kernel
theorem dX12_worked_301 : decode cX12_worked 301 = .ok (.getfield 87, 3) := by decide +kernel
theorem dX12_worked_304 : decode cX12_worked 304 = .ok (.iload_n 2, 1) := by decide +kernel
theorem dX12_worked_305 : decode cX12_worked 305 = .ok (.aload_n 0, 1) := by decide +kernel
theorem dX12_worked_306 : decode cX12_worked 306 = .ok (.getfield 90, 3) := by decide +kernel
theorem dX12_worked_309 : decode cX12_worked 309 = .ok (.iload_n 2, 1) := by decide +kernel
theorem dX12_worked_310 : decode cX12_worked 310 = .ok (.iaload, 1) := by decide +kernel
theorem dX12_worked_311 : decode cX12_worked 311 = .ok (.ifCond .ne 8, 3) := by decide +kernel
theorem dX12_worked_314 : decode cX12_worked 314 = .ok (.iload 5, 2) := by decide +kernel
theorem dX12_worked_316 : decode cX12_worked 316 = .ok (.goto 12, 3) := by decide +kernel
theorem dX12_worked_319 : decode cX12_worked 319 = .ok (.aload_n 0, 1) := by decide +kernel
theorem dX12_worked_320 : decode cX12_worked 320 = .ok (.getfield 87, 3) := by decide +kernel
theorem dX12_worked_323 : decode cX12_worked 323 = .ok (.iload_n 2, 1) := by decide +kernel
theorem dX12_worked_324 : decode cX12_worked 324 = .ok (.iaload, 1) := by decide +kernel
theorem dX12_worked_325 : decode cX12_worked 325 = .ok (.iload 5, 2) := by decide +kernel
theorem dX12_worked_327 : decode cX12_worked 327 = .ok (.imul, 1) := by decide +kernel
theorem dX12_worked_328 : decode cX12_worked 328 = .ok (.iastore, 1) := by decide +kernel
theorem dX12_worked_329 : decode cX12_worked 329 = .ok (.iinc 3 1, 3) := by decide +kernel
theorem dX12_worked_332 : decode cX12_worked 332 = .ok (.goto (-318), 3) := by decide +kernel
theorem dX12_worked_335 : decode cX12_worked 335 = .ok (.aload_n 0, 1) := by decide +kernel
theorem dX12_worked_336 : decode cX12_worked 336 = .ok (.iconst 0, 1) := by decide +kernel
theorem dX12_worked_337 : decode cX12_worked 337 = .ok (.invokevirtual 242, 3) := by decide +kernel
theorem dX12_worked_340 : decode cX12_worked 340 = .ok (.aload_n 0, 1) := by decide +kernel
theorem dX12_worked_341 : decode cX12_worked 341 = .ok (.getfield 69, 3) := by decide +kernel
theorem dX12_worked_344 : decode cX12_worked 344 = .ok (.iconst 0, 1) := by decide +kernel
theorem dX12_worked_345 : decode cX12_worked 345 = .ok (.iaload, 1) := by decide +kernel
theorem dX12_worked_346 : decode cX12_worked 346 = .ok (.ireturn, 1) := by decide +kernel
theorem dX12_isKept_0 : decode cX12_isKept 0 = .ok (.aload_n 0, 1) := by decide +kernel
theorem dX12_isKept_1 : decode cX12_isKept 1 = .ok (.getfield 181, 3) := by decide +kernel
theorem dX12_isKept_4 : decode cX12_isKept 4 = .ok (.iconst 1, 1) := by decide +kernel
theorem dX12_isKept_5 : decode cX12_isKept 5 = .ok (.if_icmp .eq 5, 3) := by decide +kernel
theorem dX12_isKept_8 : decode cX12_isKept 8 = .ok (.iconst 1, 1) := by decide +kernel
theorem dX12_isKept_9 : decode cX12_isKept 9 = .ok (.ireturn, 1) := by decide +kernel
theorem dX12_isKept_10 : decode cX12_isKept 10 = .ok (.aload_n 0, 1) := by decide +kernel
theorem dX12_isKept_11 : decode cX12_isKept 11 = .ok (.getfield 174, 3) := by decide +kernel
theorem dX12_isKept_14 : decode cX12_isKept 14 = .ok (.ldc2_w 245, 3) := by decide +kernel
theorem dX12_isKept_17 : decode cX12_isKept 17 = .ok (.lcmp, 1) := by decide +kernel
theorem dX12_isKept_18 : decode cX12_isKept 18 = .ok (.ifCond .eq 289, 3) := by decide +kernel
theorem dX12_isKept_21 : decode cX12_isKept 21 = .ok (.aload_n 0, 1) := by decide +kernel
theorem dX12_isKept_22 : decode cX12_isKept 22 = .ok (.getfield 174, 3) := by decide +kernel
theorem dX12_isKept_25 : decode cX12_isKept 25 = .ok (.ldc2_w 247, 3) := by decide +kernel
theorem dX12_isKept_28 : decode cX12_isKept 28 = .ok (.lcmp, 1) := by decide +kernel
theorem dX12_isKept_29 : decode cX12_isKept 29 = .ok (.ifCond .eq 278, 3) := by decide +kernel
theorem dX12_isKept_32 : decode cX12_isKept 32 = .ok (.aload_n 0, 1) := by decide +kernel
theorem dX12_isKept_33 : decode cX12_isKept 33 = .ok (.getfield 174, 3) := by decide +kernel
theorem dX12_isKept_36 : decode cX12_isKept 36 = .ok (.ldc2_w 249, 3) := by decide +kernel
theorem dX12_isKept_39 : decode cX12_isKept 39 = .ok (.lcmp, 1) := by decide +kernel
theorem dX12_isKept_40 : decode cX12_isKept 40 = .ok (.ifCond .eq 267, 3) := by decide +kernel
theorem dX12_isKept_43 : decode cX12_isKept 43 = .ok (.aload_n 0, 1) := by decide +kernel
theorem dX12_isKept_44 : decode cX12_isKept 44 = .ok (.getfield 174, 3) := by decide +kernel
theorem dX12_isKept_47 : decode cX12_isKept 47 = .ok (.ldc2_w 251, 3) := by decide +kernel
theorem dX12_isKept_50 : decode cX12_isKept 50 = .ok (.lcmp, 1) := by decide +kernel
theorem dX12_isKept_51 : decode cX12_isKept 51 = .ok (.ifCond .eq 256, 3) := by decide +kernel
theorem dX12_isKept_54 : decode cX12_isKept 54 = .ok (.aload_n 0, 1) := by decide +kernel
theorem dX12_isKept_55 : decode cX12_isKept 55 = .ok (.getfield 174, 3) := by decide +kernel
theorem dX12_isKept_58 : decode cX12_isKept 58 = .ok (.ldc2_w 253, 3) := by decide +kernel
theorem dX12_isKept_61 : decode cX12_isKept 61 = .ok (.lcmp, 1) := by decide +kernel
theorem dX12_isKept_62 : decode cX12_isKept 62 = .ok (.ifCond .eq 245, 3) := by decide +kernel
theorem dX12_isKept_65 : decode cX12_isKept 65 = .ok (.aload_n 0, 1) := by decide +kernel
theorem dX12_isKept_66 : decode cX12_isKept 66 = .ok (.getfield 174, 3) := by decide +kernel
theorem dX12_isKept_69 : decode cX12_isKept 69 = .ok (.ldc2_w 255, 3) := by decide +kernel
theorem dX12_isKept_72 : decode cX12_isKept 72 = .ok (.lcmp, 1) := by decide +kernel
theorem dX12_isKept_73 : decode cX12_isKept 73 = .ok (.ifCond .eq 234, 3) := by decide +kernel
theorem dX12_isKept_76 : decode cX12_isKept 76 = .ok (.aload_n 0, 1) := by decide +kernel
theorem dX12_isKept_77 : decode cX12_isKept 77 = .ok (.getfield 174, 3) := by decide +kernel
theorem dX12_isKept_80 : decode cX12_isKept 80 = .ok (.ldc2_w 257, 3) := by decide +kernel
theorem dX12_isKept_83 : decode cX12_isKept 83 = .ok (.lcmp, 1) := by decide +kernel
theorem dX12_isKept_84 : decode cX12_isKept 84 = .ok (.ifCond .eq 223, 3) := by decide +kernel
theorem dX12_isKept_87 : decode cX12_isKept 87 = .ok (.aload_n 0, 1) := by decide +kernel
theorem dX12_isKept_88 : decode cX12_isKept 88 = .ok (.getfield 174, 3) := by decide +kernel
theorem dX12_isKept_91 : decode cX12_isKept 91 = .ok (.ldc2_w 259, 3) := by decide +kernel
theorem dX12_isKept_94 : decode cX12_isKept 94 = .ok (.lcmp, 1) := by decide +kernel
theorem dX12_isKept_95 : decode cX12_isKept 95 = .ok (.ifCond .eq 212, 3) := by decide +kernel
theorem dX12_isKept_98 : decode cX12_isKept 98 = .ok (.aload_n 0, 1) := by decide +kernel
theorem dX12_isKept_99 : decode cX12_isKept 99 = .ok (.getfield 174, 3) := by decide +kernel
theorem dX12_isKept_102 : decode cX12_isKept 102 = .ok (.ldc2_w 261, 3) := by decide +kernel
theorem dX12_isKept_105 : decode cX12_isKept 105 = .ok (.lcmp, 1) := by decide +kernel
theorem dX12_isKept_106 : decode cX12_isKept 106 = .ok (.ifCond .eq 201, 3) := by decide +kernel
theorem dX12_isKept_109 : decode cX12_isKept 109 = .ok (.aload_n 0, 1) := by decide +kernel
theorem dX12_isKept_110 : decode cX12_isKept 110 = .ok (.getfield 174, 3) := by decide +kernel
theorem dX12_isKept_113 : decode cX12_isKept 113 = .ok (.ldc2_w 263, 3) := by decide +kernel
theorem dX12_isKept_116 : decode cX12_isKept 116 = .ok (.lcmp, 1) := by decide +kernel
theorem dX12_isKept_117 : decode cX12_isKept 117 = .ok (.ifCond .eq 190, 3) := by decide +kernel
theorem dX12_isKept_120 : decode cX12_isKept 120 = .ok (.aload_n 0, 1) := by decide +kernel
theorem dX12_isKept_121 : decode cX12_isKept 121 = .ok (.getfield 174, 3) := by decide +kernel
theorem dX12_isKept_124 : decode cX12_isKept 124 = .ok (.ldc2_w 265, 3) := by decide +kernel
theorem dX12_isKept_127 : decode cX12_isKept 127 = .ok (.lcmp, 1) := by decide +kernel
theorem dX12_isKept_128 : decode cX12_isKept 128 = .ok (.ifCond .eq 179, 3) := by decide +kernel
theorem dX12_isKept_131 : decode cX12_isKept 131 = .ok (.aload_n 0, 1) := by decide +kernel
theorem dX12_isKept_132 : decode cX12_isKept 132 = .ok (.getfield 174, 3) := by decide +kernel
theorem dX12_isKept_135 : decode cX12_isKept 135 = .ok (.ldc2_w 267, 3) := by decide +kernel
theorem dX12_isKept_138 : decode cX12_isKept 138 = .ok (.lcmp, 1) := by decide +kernel
theorem dX12_isKept_139 : decode cX12_isKept 139 = .ok (.ifCond .eq 168, 3) := by decide +kernel
theorem dX12_isKept_142 : decode cX12_isKept 142 = .ok (.aload_n 0, 1) := by decide +kernel
theorem dX12_isKept_143 : decode cX12_isKept 143 = .ok (.getfield 174, 3) := by decide +kernel
theorem dX12_isKept_146 : decode cX12_isKept 146 = .ok (.ldc2_w 269, 3) := by decide +kernel
theorem dX12_isKept_149 : decode cX12_isKept 149 = .ok (.lcmp, 1) := by decide +kernel
theorem dX12_isKept_150 : decode cX12_isKept 150 = .ok (.ifCond .eq 157, 3) := by decide +kernel
theorem dX12_isKept_153 : decode cX12_isKept 153 = .ok (.aload_n 0, 1) := by decide +kernel
theorem dX12_isKept_154 : decode cX12_isKept 154 = .ok (.getfield 174, 3) := by decide +kernel
theorem dX12_isKept_157 : decode cX12_isKept 157 = .ok (.ldc2_w 271, 3) := by decide +kernel
theorem dX12_isKept_160 : decode cX12_isKept 160 = .ok (.lcmp, 1) := by decide +kernel
theorem dX12_isKept_161 : decode cX12_isKept 161 = .ok (.ifCond .eq 146, 3) := by decide +kernel
theorem dX12_isKept_164 : decode cX12_isKept 164 = .ok (.aload_n 0, 1) := by decide +kernel
theorem dX12_isKept_165 : decode cX12_isKept 165 = .ok (.getfield 174, 3) := by decide +kernel
theorem dX12_isKept_168 : decode cX12_isKept 168 = .ok (.ldc2_w 273, 3) := by decide +kernel
theorem dX12_isKept_171 : decode cX12_isKept 171 = .ok (.lcmp, 1) := by decide +kernel
theorem dX12_isKept_172 : decode cX12_isKept 172 = .ok (.ifCond .eq 135, 3) := by decide +kernel
theorem dX12_isKept_175 : decode cX12_isKept 175 = .ok (.aload_n 0, 1) := by decide +kernel
theorem dX12_isKept_176 : decode cX12_isKept 176 = .ok (.getfield 174, 3) := by decide +kernel
theorem dX12_isKept_179 : decode cX12_isKept 179 = .ok (.ldc2_w 275, 3) := by decide +kernel
theorem dX12_isKept_182 : decode cX12_isKept 182 = .ok (.lcmp, 1) := by decide +kernel
theorem dX12_isKept_183 : decode cX12_isKept 183 = .ok (.ifCond .eq 124, 3) := by decide +kernel
theorem dX12_isKept_186 : decode cX12_isKept 186 = .ok (.aload_n 0, 1) := by decide +kernel
theorem dX12_isKept_187 : decode cX12_isKept 187 = .ok (.getfield 174, 3) := by decide +kernel
theorem dX12_isKept_190 : decode cX12_isKept 190 = .ok (.ldc2_w 277, 3) := by decide +kernel
theorem dX12_isKept_193 : decode cX12_isKept 193 = .ok (.lcmp, 1) := by decide +kernel
theorem dX12_isKept_194 : decode cX12_isKept 194 = .ok (.ifCond .eq 113, 3) := by decide +kernel
theorem dX12_isKept_197 : decode cX12_isKept 197 = .ok (.aload_n 0, 1) := by decide +kernel
theorem dX12_isKept_198 : decode cX12_isKept 198 = .ok (.getfield 174, 3) := by decide +kernel
theorem dX12_isKept_201 : decode cX12_isKept 201 = .ok (.ldc2_w 279, 3) := by decide +kernel
theorem dX12_isKept_204 : decode cX12_isKept 204 = .ok (.lcmp, 1) := by decide +kernel
theorem dX12_isKept_205 : decode cX12_isKept 205 = .ok (.ifCond .eq 102, 3) := by decide +kernel
theorem dX12_isKept_208 : decode cX12_isKept 208 = .ok (.aload_n 0, 1) := by decide +kernel
theorem dX12_isKept_209 : decode cX12_isKept 209 = .ok (.getfield 174, 3) := by decide +kernel
theorem dX12_isKept_212 : decode cX12_isKept 212 = .ok (.ldc2_w 281, 3) := by decide +kernel
theorem dX12_isKept_215 : decode cX12_isKept 215 = .ok (.lcmp, 1) := by decide +kernel
theorem dX12_isKept_216 : decode cX12_isKept 216 = .ok (.ifCond .eq 91, 3) := by decide +kernel
theorem dX12_isKept_219 : decode cX12_isKept 219 = .ok (.aload_n 0, 1) := by decide +kernel
theorem dX12_isKept_220 : decode cX12_isKept 220 = .ok (.getfield 174, 3) := by decide +kernel
theorem dX12_isKept_223 : decode cX12_isKept 223 = .ok (.ldc2_w 283, 3) := by decide +kernel
theorem dX12_isKept_226 : decode cX12_isKept 226 = .ok (.lcmp, 1) := by decide +kernel
theorem dX12_isKept_227 : decode cX12_isKept 227 = .ok (.ifCond .eq 80, 3) := by decide +kernel
theorem dX12_isKept_230 : decode cX12_isKept 230 = .ok (.aload_n 0, 1) := by decide +kernel
theorem dX12_isKept_231 : decode cX12_isKept 231 = .ok (.getfield 174, 3) := by decide +kernel
theorem dX12_isKept_234 : decode cX12_isKept 234 = .ok (.ldc2_w 285, 3) := by decide +kernel
theorem dX12_isKept_237 : decode cX12_isKept 237 = .ok (.lcmp, 1) := by decide +kernel
theorem dX12_isKept_238 : decode cX12_isKept 238 = .ok (.ifCond .eq 69, 3) := by decide +kernel
theorem dX12_isKept_241 : decode cX12_isKept 241 = .ok (.aload_n 0, 1) := by decide +kernel
theorem dX12_isKept_242 : decode cX12_isKept 242 = .ok (.getfield 174, 3) := by decide +kernel
theorem dX12_isKept_245 : decode cX12_isKept 245 = .ok (.ldc2_w 287, 3) := by decide +kernel
theorem dX12_isKept_248 : decode cX12_isKept 248 = .ok (.lcmp, 1) := by decide +kernel
theorem dX12_isKept_249 : decode cX12_isKept 249 = .ok (.ifCond .eq 58, 3) := by decide +kernel
theorem dX12_isKept_252 : decode cX12_isKept 252 = .ok (.aload_n 0, 1) := by decide +kernel
theorem dX12_isKept_253 : decode cX12_isKept 253 = .ok (.getfield 174, 3) := by decide +kernel
theorem dX12_isKept_256 : decode cX12_isKept 256 = .ok (.ldc2_w 289, 3) := by decide +kernel
theorem dX12_isKept_259 : decode cX12_isKept 259 = .ok (.lcmp, 1) := by decide +kernel
theorem dX12_isKept_260 : decode cX12_isKept 260 = .ok (.ifCond .eq 47, 3) := by decide +kernel
theorem dX12_isKept_263 : decode cX12_isKept 263 = .ok (.aload_n 0, 1) := by decide +kernel
theorem dX12_isKept_264 : decode cX12_isKept 264 = .ok (.getfield 174, 3) := by decide +kernel
theorem dX12_isKept_267 : decode cX12_isKept 267 = .ok (.ldc2_w 291, 3) := by decide +kernel
theorem dX12_isKept_270 : decode cX12_isKept 270 = .ok (.lcmp, 1) := by decide +kernel
theorem dX12_isKept_271 : decode cX12_isKept 271 = .ok (.ifCond .eq 36, 3) := by decide +kernel
theorem dX12_isKept_274 : decode cX12_isKept 274 = .ok (.aload_n 0, 1) := by decide +kernel
theorem dX12_isKept_275 : decode cX12_isKept 275 = .ok (.getfield 174, 3) := by decide +kernel
theorem dX12_isKept_278 : decode cX12_isKept 278 = .ok (.ldc2_w 212, 3) := by decide +kernel
theorem dX12_isKept_281 : decode cX12_isKept 281 = .ok (.lcmp, 1) := by decide +kernel
theorem dX12_isKept_282 : decode cX12_isKept 282 = .ok (.ifCond .eq 25, 3) := by decide +kernel
theorem dX12_isKept_285 : decode cX12_isKept 285 = .ok (.aload_n 0, 1) := by decide +kernel
theorem dX12_isKept_286 : decode cX12_isKept 286 = .ok (.getfield 174, 3) := by decide +kernel
theorem dX12_isKept_289 : decode cX12_isKept 289 = .ok (.ldc2_w 232, 3) := by decide +kernel
theorem dX12_isKept_292 : decode cX12_isKept 292 = .ok (.lcmp, 1) := by decide +kernel
theorem dX12_isKept_293 : decode cX12_isKept 293 = .ok (.ifCond .eq 14, 3) := by decide +kernel
theorem dX12_isKept_296 : decode cX12_isKept 296 = .ok (.aload_n 0, 1) := by decide +kernel
theorem dX12_isKept_297 : decode cX12_isKept 297 = .ok (.getfield 174, 3) := by decide +kernel
theorem dX12_isKept_300 : decode cX12_isKept 300 = .ok (.ldc2_w 234, 3) := by decide +kernel
theorem dX12_isKept_303 : decode cX12_isKept 303 = .ok (.lcmp, 1) := by decide +kernel
theorem dX12_isKept_304 : decode cX12_isKept 304 = .ok (.ifCond .ne 7, 3) := by decide +kernel
theorem dX12_isKept_307 : decode cX12_isKept 307 = .ok (.iconst 1, 1) := by decide +kernel
theorem dX12_isKept_308 : decode cX12_isKept 308 = .ok (.goto 4, 3) := by decide +kernel
theorem dX12_isKept_311 : decode cX12_isKept 311 = .ok (.iconst 0, 1) := by decide +kernel
theorem dX12_isKept_312 : decode cX12_isKept 312 = .ok (.ireturn, 1) := by decide +kernel
theorem dX12_personNamed_0 : decode cX12_personNamed 0 = .ok (.iconst 0, 1) := by decide +kernel
theorem dX12_personNamed_1 : decode cX12_personNamed 1 = .ok (.istore_n 2, 1) := by decide +kernel
theorem dX12_personNamed_2 : decode cX12_personNamed 2 = .ok (.iload_n 2, 1) := by decide +kernel
theorem dX12_personNamed_3 : decode cX12_personNamed 3 = .ok (.aload_n 0, 1) := by decide +kernel
theorem dX12_personNamed_4 : decode cX12_personNamed 4 = .ok (.getfield 13, 3) := by decide +kernel
theorem dX12_personNamed_7 : decode cX12_personNamed 7 = .ok (.iconst 5, 1) := by decide +kernel
theorem dX12_personNamed_8 : decode cX12_personNamed 8 = .ok (.iload_n 1, 1) := by decide +kernel
theorem dX12_personNamed_9 : decode cX12_personNamed 9 = .ok (.imul, 1) := by decide +kernel
theorem dX12_personNamed_10 : decode cX12_personNamed 10 = .ok (.iconst 0, 1) := by decide +kernel
theorem dX12_personNamed_11 : decode cX12_personNamed 11 = .ok (.iadd, 1) := by decide +kernel
theorem dX12_personNamed_12 : decode cX12_personNamed 12 = .ok (.iaload, 1) := by decide +kernel
theorem dX12_personNamed_13 : decode cX12_personNamed 13 = .ok (.if_icmp .ge 30, 3) := by decide +kernel
theorem dX12_personNamed_16 : decode cX12_personNamed 16 = .ok (.aload_n 0, 1) := by decide +kernel
theorem dX12_personNamed_17 : decode cX12_personNamed 17 = .ok (.getfield 16, 3) := by decide +kernel
theorem dX12_personNamed_20 : decode cX12_personNamed 20 = .ok (.bipush 6, 2) := by decide +kernel
theorem dX12_personNamed_22 : decode cX12_personNamed 22 = .ok (.iload_n 1, 1) := by decide +kernel
theorem dX12_personNamed_23 : decode cX12_personNamed 23 = .ok (.imul, 1) := by decide +kernel
theorem dX12_personNamed_24 : decode cX12_personNamed 24 = .ok (.iload_n 2, 1) := by decide +kernel
theorem dX12_personNamed_25 : decode cX12_personNamed 25 = .ok (.iadd, 1) := by decide +kernel
theorem dX12_personNamed_26 : decode cX12_personNamed 26 = .ok (.laload, 1) := by decide +kernel
theorem dX12_personNamed_27 : decode cX12_personNamed 27 = .ok (.aload_n 0, 1) := by decide +kernel
theorem dX12_personNamed_28 : decode cX12_personNamed 28 = .ok (.getfield 174, 3) := by decide +kernel
theorem dX12_personNamed_31 : decode cX12_personNamed 31 = .ok (.lcmp, 1) := by decide +kernel
theorem dX12_personNamed_32 : decode cX12_personNamed 32 = .ok (.ifCond .ne 5, 3) := by decide +kernel
theorem dX12_personNamed_35 : decode cX12_personNamed 35 = .ok (.iload_n 2, 1) := by decide +kernel
theorem dX12_personNamed_36 : decode cX12_personNamed 36 = .ok (.ireturn, 1) := by decide +kernel
theorem dX12_personNamed_37 : decode cX12_personNamed 37 = .ok (.iinc 2 1, 3) := by decide +kernel
theorem dX12_personNamed_40 : decode cX12_personNamed 40 = .ok (.goto (-38), 3) := by decide +kernel
theorem dX12_personNamed_43 : decode cX12_personNamed 43 = .ok (.iconst (-1), 1) := by decide +kernel
theorem dX12_personNamed_44 : decode cX12_personNamed 44 = .ok (.ireturn, 1) := by decide +kernel
theorem dX12_dishNamed_0 : decode cX12_dishNamed 0 = .ok (.iconst 0, 1) := by decide +kernel
theorem dX12_dishNamed_1 : decode cX12_dishNamed 1 = .ok (.istore_n 2, 1) := by decide +kernel
theorem dX12_dishNamed_2 : decode cX12_dishNamed 2 = .ok (.iload_n 2, 1) := by decide +kernel
theorem dX12_dishNamed_3 : decode cX12_dishNamed 3 = .ok (.aload_n 0, 1) := by decide +kernel
theorem dX12_dishNamed_4 : decode cX12_dishNamed 4 = .ok (.getfield 13, 3) := by decide +kernel
theorem dX12_dishNamed_7 : decode cX12_dishNamed 7 = .ok (.iconst 5, 1) := by decide +kernel
theorem dX12_dishNamed_8 : decode cX12_dishNamed 8 = .ok (.iload_n 1, 1) := by decide +kernel
theorem dX12_dishNamed_9 : decode cX12_dishNamed 9 = .ok (.imul, 1) := by decide +kernel
theorem dX12_dishNamed_10 : decode cX12_dishNamed 10 = .ok (.iconst 1, 1) := by decide +kernel
theorem dX12_dishNamed_11 : decode cX12_dishNamed 11 = .ok (.iadd, 1) := by decide +kernel
theorem dX12_dishNamed_12 : decode cX12_dishNamed 12 = .ok (.iaload, 1) := by decide +kernel
theorem dX12_dishNamed_13 : decode cX12_dishNamed 13 = .ok (.if_icmp .ge 29, 3) := by decide +kernel
theorem dX12_dishNamed_16 : decode cX12_dishNamed 16 = .ok (.aload_n 0, 1) := by decide +kernel
theorem dX12_dishNamed_17 : decode cX12_dishNamed 17 = .ok (.getfield 20, 3) := by decide +kernel
theorem dX12_dishNamed_20 : decode cX12_dishNamed 20 = .ok (.iconst 5, 1) := by decide +kernel
theorem dX12_dishNamed_21 : decode cX12_dishNamed 21 = .ok (.iload_n 1, 1) := by decide +kernel
theorem dX12_dishNamed_22 : decode cX12_dishNamed 22 = .ok (.imul, 1) := by decide +kernel
theorem dX12_dishNamed_23 : decode cX12_dishNamed 23 = .ok (.iload_n 2, 1) := by decide +kernel
theorem dX12_dishNamed_24 : decode cX12_dishNamed 24 = .ok (.iadd, 1) := by decide +kernel
theorem dX12_dishNamed_25 : decode cX12_dishNamed 25 = .ok (.laload, 1) := by decide +kernel
theorem dX12_dishNamed_26 : decode cX12_dishNamed 26 = .ok (.aload_n 0, 1) := by decide +kernel
theorem dX12_dishNamed_27 : decode cX12_dishNamed 27 = .ok (.getfield 174, 3) := by decide +kernel
theorem dX12_dishNamed_30 : decode cX12_dishNamed 30 = .ok (.lcmp, 1) := by decide +kernel
theorem dX12_dishNamed_31 : decode cX12_dishNamed 31 = .ok (.ifCond .ne 5, 3) := by decide +kernel
theorem dX12_dishNamed_34 : decode cX12_dishNamed 34 = .ok (.iload_n 2, 1) := by decide +kernel
theorem dX12_dishNamed_35 : decode cX12_dishNamed 35 = .ok (.ireturn, 1) := by decide +kernel
theorem dX12_dishNamed_36 : decode cX12_dishNamed 36 = .ok (.iinc 2 1, 3) := by decide +kernel
theorem dX12_dishNamed_39 : decode cX12_dishNamed 39 = .ok (.goto (-37), 3) := by decide +kernel
theorem dX12_dishNamed_42 : decode cX12_dishNamed 42 = .ok (.iconst (-1), 1) := by decide +kernel
theorem dX12_dishNamed_43 : decode cX12_dishNamed 43 = .ok (.ireturn, 1) := by decide +kernel
theorem dX12_needsNumber_0 : decode cX12_needsNumber 0 = .ok (.aload_n 0, 1) := by decide +kernel
theorem dX12_needsNumber_1 : decode cX12_needsNumber 1 = .ok (.getfield 181, 3) := by decide +kernel
theorem dX12_needsNumber_4 : decode cX12_needsNumber 4 = .ok (.iconst 2, 1) := by decide +kernel
theorem dX12_needsNumber_5 : decode cX12_needsNumber 5 = .ok (.if_icmp .eq 9, 3) := by decide +kernel
theorem dX12_needsNumber_8 : decode cX12_needsNumber 8 = .ok (.aload_n 0, 1) := by decide +kernel
theorem dX12_needsNumber_9 : decode cX12_needsNumber 9 = .ok (.iconst 1, 1) := by decide +kernel
theorem dX12_needsNumber_10 : decode cX12_needsNumber 10 = .ok (.invokevirtual 222, 3) := by decide +kernel
theorem dX12_needsNumber_13 : decode cX12_needsNumber 13 = .ok (.ireturn, 1) := by decide +kernel
theorem dX12_needsNumber_14 : decode cX12_needsNumber 14 = .ok (.aload_n 0, 1) := by decide +kernel
theorem dX12_needsNumber_15 : decode cX12_needsNumber 15 = .ok (.getfield 178, 3) := by decide +kernel
theorem dX12_needsNumber_18 : decode cX12_needsNumber 18 = .ok (.iload_n 1, 1) := by decide +kernel
theorem dX12_needsNumber_19 : decode cX12_needsNumber 19 = .ok (.iload_n 2, 1) := by decide +kernel
theorem dX12_needsNumber_20 : decode cX12_needsNumber 20 = .ok (.invokestatic 293, 3) := by decide +kernel
theorem dX12_needsNumber_23 : decode cX12_needsNumber 23 = .ok (.ifCond .ne 9, 3) := by decide +kernel
theorem dX12_needsNumber_26 : decode cX12_needsNumber 26 = .ok (.aload_n 0, 1) := by decide +kernel
theorem dX12_needsNumber_27 : decode cX12_needsNumber 27 = .ok (.iconst 4, 1) := by decide +kernel
theorem dX12_needsNumber_28 : decode cX12_needsNumber 28 = .ok (.invokevirtual 222, 3) := by decide +kernel
theorem dX12_needsNumber_31 : decode cX12_needsNumber 31 = .ok (.ireturn, 1) := by decide +kernel
theorem dX12_needsNumber_32 : decode cX12_needsNumber 32 = .ok (.aload_n 0, 1) := by decide +kernel
theorem dX12_needsNumber_33 : decode cX12_needsNumber 33 = .ok (.aload_n 0, 1) := by decide +kernel
theorem dX12_needsNumber_34 : decode cX12_needsNumber 34 = .ok (.getfield 178, 3) := by decide +kernel
theorem dX12_needsNumber_37 : decode cX12_needsNumber 37 = .ok (.putfield 297, 3) := by decide +kernel
theorem dX12_needsNumber_40 : decode cX12_needsNumber 40 = .ok (.aload_n 0, 1) := by decide +kernel
theorem dX12_needsNumber_41 : decode cX12_needsNumber 41 = .ok (.invokevirtual 229, 3) := by decide +kernel
theorem dX12_needsNumber_44 : decode cX12_needsNumber 44 = .ok (.iconst 1, 1) := by decide +kernel
theorem dX12_needsNumber_45 : decode cX12_needsNumber 45 = .ok (.ireturn, 1) := by decide +kernel
theorem dX12_needsWord_0 : decode cX12_needsWord 0 = .ok (.aload_n 0, 1) := by decide +kernel
theorem dX12_needsWord_1 : decode cX12_needsWord 1 = .ok (.lload_n 1, 1) := by decide +kernel
theorem dX12_needsWord_2 : decode cX12_needsWord 2 = .ok (.invokevirtual 214, 3) := by decide +kernel
theorem dX12_needsWord_5 : decode cX12_needsWord 5 = .ok (.ifCond .ne 9, 3) := by decide +kernel
theorem dX12_needsWord_8 : decode cX12_needsWord 8 = .ok (.aload_n 0, 1) := by decide +kernel
theorem dX12_needsWord_9 : decode cX12_needsWord 9 = .ok (.iconst 1, 1) := by decide +kernel
theorem dX12_needsWord_10 : decode cX12_needsWord 10 = .ok (.invokevirtual 222, 3) := by decide +kernel
theorem dX12_needsWord_13 : decode cX12_needsWord 13 = .ok (.ireturn, 1) := by decide +kernel
theorem dX12_needsWord_14 : decode cX12_needsWord 14 = .ok (.aload_n 0, 1) := by decide +kernel
theorem dX12_needsWord_15 : decode cX12_needsWord 15 = .ok (.invokevirtual 229, 3) := by decide +kernel
theorem dX12_needsWord_18 : decode cX12_needsWord 18 = .ok (.iconst 1, 1) := by decide +kernel
theorem dX12_needsWord_19 : decode cX12_needsWord 19 = .ok (.ireturn, 1) := by decide +kernel
theorem dX12_needsBoth_0 : decode cX12_needsBoth 0 = .ok (.aload_n 0, 1) := by decide +kernel
theorem dX12_needsBoth_1 : decode cX12_needsBoth 1 = .ok (.lload_n 1, 1) := by decide +kernel
theorem dX12_needsBoth_2 : decode cX12_needsBoth 2 = .ok (.invokevirtual 300, 3) := by decide +kernel
theorem dX12_needsBoth_5 : decode cX12_needsBoth 5 = .ok (.ifCond .eq 17, 3) := by decide +kernel
theorem dX12_needsBoth_8 : decode cX12_needsBoth 8 = .ok (.aload_n 0, 1) := by decide +kernel
theorem dX12_needsBoth_9 : decode cX12_needsBoth 9 = .ok (.iload_n 3, 1) := by decide +kernel
theorem dX12_needsBoth_10 : decode cX12_needsBoth 10 = .ok (.iload 4, 2) := by decide +kernel
theorem dX12_needsBoth_12 : decode cX12_needsBoth 12 = .ok (.invokevirtual 303, 3) := by decide +kernel
theorem dX12_needsBoth_15 : decode cX12_needsBoth 15 = .ok (.ifCond .eq 7, 3) := by decide +kernel
theorem dX12_needsBoth_18 : decode cX12_needsBoth 18 = .ok (.iconst 1, 1) := by decide +kernel
theorem dX12_needsBoth_19 : decode cX12_needsBoth 19 = .ok (.goto 4, 3) := by decide +kernel
theorem dX12_needsBoth_22 : decode cX12_needsBoth 22 = .ok (.iconst 0, 1) := by decide +kernel
theorem dX12_needsBoth_23 : decode cX12_needsBoth 23 = .ok (.ireturn, 1) := by decide +kernel
theorem dX12_closes_0 : decode cX12_closes 0 = .ok (.aload_n 0, 1) := by decide +kernel
theorem dX12_closes_1 : decode cX12_closes 1 = .ok (.bipush 59, 2) := by decide +kernel
theorem dX12_closes_3 : decode cX12_closes 3 = .ok (.invokevirtual 218, 3) := by decide +kernel
theorem dX12_closes_6 : decode cX12_closes 6 = .ok (.ifCond .ne 9, 3) := by decide +kernel
theorem dX12_closes_9 : decode cX12_closes 9 = .ok (.aload_n 0, 1) := by decide +kernel
theorem dX12_closes_10 : decode cX12_closes 10 = .ok (.iconst 1, 1) := by decide +kernel
theorem dX12_closes_11 : decode cX12_closes 11 = .ok (.invokevirtual 222, 3) := by decide +kernel
theorem dX12_closes_14 : decode cX12_closes 14 = .ok (.ireturn, 1) := by decide +kernel
theorem dX12_closes_15 : decode cX12_closes 15 = .ok (.aload_n 0, 1) := by decide +kernel
theorem dX12_closes_16 : decode cX12_closes 16 = .ok (.invokevirtual 229, 3) := by decide +kernel
theorem dX12_closes_19 : decode cX12_closes 19 = .ok (.iconst 1, 1) := by decide +kernel
theorem dX12_closes_20 : decode cX12_closes 20 = .ok (.ireturn, 1) := by decide +kernel
theorem dX12_needsNew_0 : decode cX12_needsNew 0 = .ok (.aload_n 0, 1) := by decide +kernel
theorem dX12_needsNew_1 : decode cX12_needsNew 1 = .ok (.invokevirtual 307, 3) := by decide +kernel
theorem dX12_needsNew_4 : decode cX12_needsNew 4 = .ok (.ifCond .eq 9, 3) := by decide +kernel
theorem dX12_needsNew_7 : decode cX12_needsNew 7 = .ok (.aload_n 0, 1) := by decide +kernel
theorem dX12_needsNew_8 : decode cX12_needsNew 8 = .ok (.iconst 1, 1) := by decide +kernel
theorem dX12_needsNew_9 : decode cX12_needsNew 9 = .ok (.invokevirtual 222, 3) := by decide +kernel
theorem dX12_needsNew_12 : decode cX12_needsNew 12 = .ok (.ireturn, 1) := by decide +kernel
theorem dX12_needsNew_13 : decode cX12_needsNew 13 = .ok (.aload_n 0, 1) := by decide +kernel
theorem dX12_needsNew_14 : decode cX12_needsNew 14 = .ok (.iconst 1, 1) := by decide +kernel
theorem dX12_needsNew_15 : decode cX12_needsNew 15 = .ok (.invokevirtual 311, 3) := by decide +kernel
theorem dX12_needsNew_18 : decode cX12_needsNew 18 = .ok (.ifCond .ge 11, 3) := by decide +kernel
theorem dX12_needsNew_21 : decode cX12_needsNew 21 = .ok (.aload_n 0, 1) := by decide +kernel
theorem dX12_needsNew_22 : decode cX12_needsNew 22 = .ok (.iconst 1, 1) := by decide +kernel
theorem dX12_needsNew_23 : decode cX12_needsNew 23 = .ok (.invokevirtual 314, 3) := by decide +kernel
theorem dX12_needsNew_26 : decode cX12_needsNew 26 = .ok (.ifCond .lt 9, 3) := by decide +kernel
theorem dX12_needsNew_29 : decode cX12_needsNew 29 = .ok (.aload_n 0, 1) := by decide +kernel
theorem dX12_needsNew_30 : decode cX12_needsNew 30 = .ok (.iconst 3, 1) := by decide +kernel
theorem dX12_needsNew_31 : decode cX12_needsNew 31 = .ok (.invokevirtual 222, 3) := by decide +kernel
theorem dX12_needsNew_34 : decode cX12_needsNew 34 = .ok (.ireturn, 1) := by decide +kernel
theorem dX12_needsNew_35 : decode cX12_needsNew 35 = .ok (.aload_n 0, 1) := by decide +kernel
theorem dX12_needsNew_36 : decode cX12_needsNew 36 = .ok (.aload_n 0, 1) := by decide +kernel
theorem dX12_needsNew_37 : decode cX12_needsNew 37 = .ok (.getfield 174, 3) := by decide +kernel
theorem dX12_needsNew_40 : decode cX12_needsNew 40 = .ok (.putfield 317, 3) := by decide +kernel
theorem dX12_needsNew_43 : decode cX12_needsNew 43 = .ok (.aload_n 0, 1) := by decide +kernel
theorem dX12_needsNew_44 : decode cX12_needsNew 44 = .ok (.invokevirtual 229, 3) := by decide +kernel
theorem dX12_needsNew_47 : decode cX12_needsNew 47 = .ok (.iconst 1, 1) := by decide +kernel
theorem dX12_needsNew_48 : decode cX12_needsNew 48 = .ok (.ireturn, 1) := by decide +kernel
theorem dX12_needsPerson_0 : decode cX12_needsPerson 0 = .ok (.aload_n 0, 1) := by decide +kernel
theorem dX12_needsPerson_1 : decode cX12_needsPerson 1 = .ok (.invokevirtual 307, 3) := by decide +kernel
theorem dX12_needsPerson_4 : decode cX12_needsPerson 4 = .ok (.ifCond .eq 9, 3) := by decide +kernel
theorem dX12_needsPerson_7 : decode cX12_needsPerson 7 = .ok (.aload_n 0, 1) := by decide +kernel
theorem dX12_needsPerson_8 : decode cX12_needsPerson 8 = .ok (.iconst 1, 1) := by decide +kernel
theorem dX12_needsPerson_9 : decode cX12_needsPerson 9 = .ok (.invokevirtual 222, 3) := by decide +kernel
theorem dX12_needsPerson_12 : decode cX12_needsPerson 12 = .ok (.ireturn, 1) := by decide +kernel
theorem dX12_needsPerson_13 : decode cX12_needsPerson 13 = .ok (.aload_n 0, 1) := by decide +kernel
theorem dX12_needsPerson_14 : decode cX12_needsPerson 14 = .ok (.aload_n 0, 1) := by decide +kernel
theorem dX12_needsPerson_15 : decode cX12_needsPerson 15 = .ok (.iload_n 1, 1) := by decide +kernel
theorem dX12_needsPerson_16 : decode cX12_needsPerson 16 = .ok (.invokevirtual 311, 3) := by decide +kernel
theorem dX12_needsPerson_19 : decode cX12_needsPerson 19 = .ok (.putfield 297, 3) := by decide +kernel
theorem dX12_needsPerson_22 : decode cX12_needsPerson 22 = .ok (.aload_n 0, 1) := by decide +kernel
theorem dX12_needsPerson_23 : decode cX12_needsPerson 23 = .ok (.getfield 297, 3) := by decide +kernel
theorem dX12_needsPerson_26 : decode cX12_needsPerson 26 = .ok (.ifCond .ge 11, 3) := by decide +kernel
theorem dX12_needsPerson_29 : decode cX12_needsPerson 29 = .ok (.aload_n 0, 1) := by decide +kernel
theorem dX12_needsPerson_30 : decode cX12_needsPerson 30 = .ok (.iconst 2, 1) := by decide +kernel
theorem dX12_needsPerson_31 : decode cX12_needsPerson 31 = .ok (.invokevirtual 222, 3) := by decide +kernel
theorem dX12_needsPerson_34 : decode cX12_needsPerson 34 = .ok (.ifCond .eq 7, 3) := by decide +kernel
theorem dX12_needsPerson_37 : decode cX12_needsPerson 37 = .ok (.iconst 1, 1) := by decide +kernel
theorem dX12_needsPerson_38 : decode cX12_needsPerson 38 = .ok (.goto 4, 3) := by decide +kernel
theorem dX12_needsPerson_41 : decode cX12_needsPerson 41 = .ok (.iconst 0, 1) := by decide +kernel
theorem dX12_needsPerson_42 : decode cX12_needsPerson 42 = .ok (.ireturn, 1) := by decide +kernel
theorem dX12_needsDish_0 : decode cX12_needsDish 0 = .ok (.aload_n 0, 1) := by decide +kernel
theorem dX12_needsDish_1 : decode cX12_needsDish 1 = .ok (.invokevirtual 307, 3) := by decide +kernel
theorem dX12_needsDish_4 : decode cX12_needsDish 4 = .ok (.ifCond .eq 9, 3) := by decide +kernel
theorem dX12_needsDish_7 : decode cX12_needsDish 7 = .ok (.aload_n 0, 1) := by decide +kernel
theorem dX12_needsDish_8 : decode cX12_needsDish 8 = .ok (.iconst 1, 1) := by decide +kernel
theorem dX12_needsDish_9 : decode cX12_needsDish 9 = .ok (.invokevirtual 222, 3) := by decide +kernel
theorem dX12_needsDish_12 : decode cX12_needsDish 12 = .ok (.ireturn, 1) := by decide +kernel
theorem dX12_needsDish_13 : decode cX12_needsDish 13 = .ok (.aload_n 0, 1) := by decide +kernel
theorem dX12_needsDish_14 : decode cX12_needsDish 14 = .ok (.aload_n 0, 1) := by decide +kernel
theorem dX12_needsDish_15 : decode cX12_needsDish 15 = .ok (.iload_n 1, 1) := by decide +kernel
theorem dX12_needsDish_16 : decode cX12_needsDish 16 = .ok (.invokevirtual 314, 3) := by decide +kernel
theorem dX12_needsDish_19 : decode cX12_needsDish 19 = .ok (.putfield 297, 3) := by decide +kernel
theorem dX12_needsDish_22 : decode cX12_needsDish 22 = .ok (.aload_n 0, 1) := by decide +kernel
theorem dX12_needsDish_23 : decode cX12_needsDish 23 = .ok (.getfield 297, 3) := by decide +kernel
theorem dX12_needsDish_26 : decode cX12_needsDish 26 = .ok (.ifCond .ge 11, 3) := by decide +kernel
theorem dX12_needsDish_29 : decode cX12_needsDish 29 = .ok (.aload_n 0, 1) := by decide +kernel
theorem dX12_needsDish_30 : decode cX12_needsDish 30 = .ok (.iconst 2, 1) := by decide +kernel
theorem dX12_needsDish_31 : decode cX12_needsDish 31 = .ok (.invokevirtual 222, 3) := by decide +kernel
theorem dX12_needsDish_34 : decode cX12_needsDish 34 = .ok (.ifCond .eq 7, 3) := by decide +kernel
theorem dX12_needsDish_37 : decode cX12_needsDish 37 = .ok (.iconst 1, 1) := by decide +kernel
theorem dX12_needsDish_38 : decode cX12_needsDish 38 = .ok (.goto 4, 3) := by decide +kernel
theorem dX12_needsDish_41 : decode cX12_needsDish 41 = .ok (.iconst 0, 1) := by decide +kernel
theorem dX12_needsDish_42 : decode cX12_needsDish 42 = .ok (.ireturn, 1) := by decide +kernel
theorem dX12_isTwice_0 : decode cX12_isTwice 0 = .ok (.aload_n 0, 1) := by decide +kernel
theorem dX12_isTwice_1 : decode cX12_isTwice 1 = .ok (.getfield 319, 3) := by decide +kernel
theorem dX12_isTwice_4 : decode cX12_isTwice 4 = .ok (.iload_n 1, 1) := by decide +kernel
theorem dX12_isTwice_5 : decode cX12_isTwice 5 = .ok (.ishr, 1) := by decide +kernel
theorem dX12_isTwice_6 : decode cX12_isTwice 6 = .ok (.iconst 1, 1) := by decide +kernel
theorem dX12_isTwice_7 : decode cX12_isTwice 7 = .ok (.iand, 1) := by decide +kernel
theorem dX12_isTwice_8 : decode cX12_isTwice 8 = .ok (.iconst 1, 1) := by decide +kernel
theorem dX12_isTwice_9 : decode cX12_isTwice 9 = .ok (.if_icmp .ne 5, 3) := by decide +kernel
theorem dX12_isTwice_12 : decode cX12_isTwice 12 = .ok (.iconst 1, 1) := by decide +kernel
theorem dX12_isTwice_13 : decode cX12_isTwice 13 = .ok (.ireturn, 1) := by decide +kernel
theorem dX12_isTwice_14 : decode cX12_isTwice 14 = .ok (.aload_n 0, 1) := by decide +kernel
theorem dX12_isTwice_15 : decode cX12_isTwice 15 = .ok (.dup, 1) := by decide +kernel
theorem dX12_isTwice_16 : decode cX12_isTwice 16 = .ok (.getfield 319, 3) := by decide +kernel
theorem dX12_isTwice_19 : decode cX12_isTwice 19 = .ok (.iconst 1, 1) := by decide +kernel
theorem dX12_isTwice_20 : decode cX12_isTwice 20 = .ok (.iload_n 1, 1) := by decide +kernel
theorem dX12_isTwice_21 : decode cX12_isTwice 21 = .ok (.ishl, 1) := by decide +kernel
theorem dX12_isTwice_22 : decode cX12_isTwice 22 = .ok (.ior, 1) := by decide +kernel
theorem dX12_isTwice_23 : decode cX12_isTwice 23 = .ok (.putfield 319, 3) := by decide +kernel
theorem dX12_isTwice_26 : decode cX12_isTwice 26 = .ok (.iconst 0, 1) := by decide +kernel
theorem dX12_isTwice_27 : decode cX12_isTwice 27 = .ok (.ireturn, 1) := by decide +kernel
theorem dX12_readsPerson_0 : decode cX12_readsPerson 0 = .ok (.bipush 6, 2) := by decide +kernel
theorem dX12_readsPerson_2 : decode cX12_readsPerson 2 = .ok (.aload_n 0, 1) := by decide +kernel
theorem dX12_readsPerson_3 : decode cX12_readsPerson 3 = .ok (.getfield 13, 3) := by decide +kernel
theorem dX12_readsPerson_6 : decode cX12_readsPerson 6 = .ok (.iconst 5, 1) := by decide +kernel
theorem dX12_readsPerson_7 : decode cX12_readsPerson 7 = .ok (.iaload, 1) := by decide +kernel
theorem dX12_readsPerson_8 : decode cX12_readsPerson 8 = .ok (.iadd, 1) := by decide +kernel
theorem dX12_readsPerson_9 : decode cX12_readsPerson 9 = .ok (.istore_n 1, 1) := by decide +kernel
theorem dX12_readsPerson_10 : decode cX12_readsPerson 10 = .ok (.iload_n 1, 1) := by decide +kernel
theorem dX12_readsPerson_11 : decode cX12_readsPerson 11 = .ok (.bipush 12, 2) := by decide +kernel
theorem dX12_readsPerson_13 : decode cX12_readsPerson 13 = .ok (.if_icmp .ne 9, 3) := by decide +kernel
theorem dX12_readsPerson_16 : decode cX12_readsPerson 16 = .ok (.aload_n 0, 1) := by decide +kernel
theorem dX12_readsPerson_17 : decode cX12_readsPerson 17 = .ok (.iconst 5, 1) := by decide +kernel
theorem dX12_readsPerson_18 : decode cX12_readsPerson 18 = .ok (.invokevirtual 222, 3) := by decide +kernel
theorem dX12_readsPerson_21 : decode cX12_readsPerson 21 = .ok (.ireturn, 1) := by decide +kernel
theorem dX12_readsPerson_22 : decode cX12_readsPerson 22 = .ok (.aload_n 0, 1) := by decide +kernel
theorem dX12_readsPerson_23 : decode cX12_readsPerson 23 = .ok (.invokevirtual 229, 3) := by decide +kernel
theorem dX12_readsPerson_26 : decode cX12_readsPerson 26 = .ok (.aload_n 0, 1) := by decide +kernel
theorem dX12_readsPerson_27 : decode cX12_readsPerson 27 = .ok (.invokevirtual 322, 3) := by decide +kernel
theorem dX12_readsPerson_30 : decode cX12_readsPerson 30 = .ok (.ifCond .ne 5, 3) := by decide +kernel
theorem dX12_readsPerson_33 : decode cX12_readsPerson 33 = .ok (.iconst 0, 1) := by decide +kernel
theorem dX12_readsPerson_34 : decode cX12_readsPerson 34 = .ok (.ireturn, 1) := by decide +kernel
theorem dX12_readsPerson_35 : decode cX12_readsPerson 35 = .ok (.aload_n 0, 1) := by decide +kernel
theorem dX12_readsPerson_36 : decode cX12_readsPerson 36 = .ok (.getfield 23, 3) := by decide +kernel
theorem dX12_readsPerson_39 : decode cX12_readsPerson 39 = .ok (.iload_n 1, 1) := by decide +kernel
theorem dX12_readsPerson_40 : decode cX12_readsPerson 40 = .ok (.aload_n 0, 1) := by decide +kernel
theorem dX12_readsPerson_41 : decode cX12_readsPerson 41 = .ok (.ldc2_w 285, 3) := by decide +kernel
theorem dX12_readsPerson_44 : decode cX12_readsPerson 44 = .ok (.invokevirtual 214, 3) := by decide +kernel
theorem dX12_readsPerson_47 : decode cX12_readsPerson 47 = .ok (.ifCond .eq 7, 3) := by decide +kernel
theorem dX12_readsPerson_50 : decode cX12_readsPerson 50 = .ok (.iconst 0, 1) := by decide +kernel
theorem dX12_readsPerson_51 : decode cX12_readsPerson 51 = .ok (.goto 46, 3) := by decide +kernel
theorem dX12_readsPerson_54 : decode cX12_readsPerson 54 = .ok (.aload_n 0, 1) := by decide +kernel
theorem dX12_readsPerson_55 : decode cX12_readsPerson 55 = .ok (.ldc2_w 287, 3) := by decide +kernel
theorem dX12_readsPerson_58 : decode cX12_readsPerson 58 = .ok (.invokevirtual 214, 3) := by decide +kernel
theorem dX12_readsPerson_61 : decode cX12_readsPerson 61 = .ok (.ifCond .eq 7, 3) := by decide +kernel
theorem dX12_readsPerson_64 : decode cX12_readsPerson 64 = .ok (.iconst 1, 1) := by decide +kernel
theorem dX12_readsPerson_65 : decode cX12_readsPerson 65 = .ok (.goto 32, 3) := by decide +kernel
theorem dX12_readsPerson_68 : decode cX12_readsPerson 68 = .ok (.aload_n 0, 1) := by decide +kernel
theorem dX12_readsPerson_69 : decode cX12_readsPerson 69 = .ok (.ldc2_w 289, 3) := by decide +kernel
theorem dX12_readsPerson_72 : decode cX12_readsPerson 72 = .ok (.invokevirtual 214, 3) := by decide +kernel
theorem dX12_readsPerson_75 : decode cX12_readsPerson 75 = .ok (.ifCond .eq 7, 3) := by decide +kernel
theorem dX12_readsPerson_78 : decode cX12_readsPerson 78 = .ok (.iconst 2, 1) := by decide +kernel
theorem dX12_readsPerson_79 : decode cX12_readsPerson 79 = .ok (.goto 18, 3) := by decide +kernel
theorem dX12_readsPerson_82 : decode cX12_readsPerson 82 = .ok (.aload_n 0, 1) := by decide +kernel
theorem dX12_readsPerson_83 : decode cX12_readsPerson 83 = .ok (.ldc2_w 291, 3) := by decide +kernel
theorem dX12_readsPerson_86 : decode cX12_readsPerson 86 = .ok (.invokevirtual 214, 3) := by decide +kernel
theorem dX12_readsPerson_89 : decode cX12_readsPerson 89 = .ok (.ifCond .eq 7, 3) := by decide +kernel
theorem dX12_readsPerson_92 : decode cX12_readsPerson 92 = .ok (.iconst 3, 1) := by decide +kernel
theorem dX12_readsPerson_93 : decode cX12_readsPerson 93 = .ok (.goto 4, 3) := by decide +kernel
theorem dX12_readsPerson_96 : decode cX12_readsPerson 96 = .ok (.iconst (-1), 1) := by decide +kernel
theorem dX12_readsPerson_97 : decode cX12_readsPerson 97 = .ok (.iastore, 1) := by decide +kernel
theorem dX12_readsPerson_98 : decode cX12_readsPerson 98 = .ok (.aload_n 0, 1) := by decide +kernel
theorem dX12_readsPerson_99 : decode cX12_readsPerson 99 = .ok (.getfield 23, 3) := by decide +kernel
theorem dX12_readsPerson_102 : decode cX12_readsPerson 102 = .ok (.iload_n 1, 1) := by decide +kernel
theorem dX12_readsPerson_103 : decode cX12_readsPerson 103 = .ok (.iaload, 1) := by decide +kernel
theorem dX12_readsPerson_104 : decode cX12_readsPerson 104 = .ok (.ifCond .ge 9, 3) := by decide +kernel
theorem dX12_readsPerson_107 : decode cX12_readsPerson 107 = .ok (.aload_n 0, 1) := by decide +kernel
theorem dX12_readsPerson_108 : decode cX12_readsPerson 108 = .ok (.iconst 1, 1) := by decide +kernel
theorem dX12_readsPerson_109 : decode cX12_readsPerson 109 = .ok (.invokevirtual 222, 3) := by decide +kernel
theorem dX12_readsPerson_112 : decode cX12_readsPerson 112 = .ok (.ireturn, 1) := by decide +kernel
theorem dX12_readsPerson_113 : decode cX12_readsPerson 113 = .ok (.aload_n 0, 1) := by decide +kernel
theorem dX12_readsPerson_114 : decode cX12_readsPerson 114 = .ok (.invokevirtual 229, 3) := by decide +kernel
theorem dX12_readsPerson_117 : decode cX12_readsPerson 117 = .ok (.aload_n 0, 1) := by decide +kernel
theorem dX12_readsPerson_118 : decode cX12_readsPerson 118 = .ok (.ldc2_w 247, 3) := by decide +kernel
theorem dX12_readsPerson_121 : decode cX12_readsPerson 121 = .ok (.iconst 0, 1) := by decide +kernel
theorem dX12_readsPerson_122 : decode cX12_readsPerson 122 = .ok (.bipush 9, 2) := by decide +kernel
theorem dX12_readsPerson_124 : decode cX12_readsPerson 124 = .ok (.invokevirtual 325, 3) := by decide +kernel
theorem dX12_readsPerson_127 : decode cX12_readsPerson 127 = .ok (.ifCond .ne 5, 3) := by decide +kernel
theorem dX12_readsPerson_130 : decode cX12_readsPerson 130 = .ok (.iconst 0, 1) := by decide +kernel
theorem dX12_readsPerson_131 : decode cX12_readsPerson 131 = .ok (.ireturn, 1) := by decide +kernel
theorem dX12_readsPerson_132 : decode cX12_readsPerson 132 = .ok (.aload_n 0, 1) := by decide +kernel
theorem dX12_readsPerson_133 : decode cX12_readsPerson 133 = .ok (.getfield 26, 3) := by decide +kernel
theorem dX12_readsPerson_136 : decode cX12_readsPerson 136 = .ok (.iload_n 1, 1) := by decide +kernel
theorem dX12_readsPerson_137 : decode cX12_readsPerson 137 = .ok (.aload_n 0, 1) := by decide +kernel
theorem dX12_readsPerson_138 : decode cX12_readsPerson 138 = .ok (.getfield 297, 3) := by decide +kernel
theorem dX12_readsPerson_141 : decode cX12_readsPerson 141 = .ok (.iastore, 1) := by decide +kernel
theorem dX12_readsPerson_142 : decode cX12_readsPerson 142 = .ok (.aload_n 0, 1) := by decide +kernel
theorem dX12_readsPerson_143 : decode cX12_readsPerson 143 = .ok (.ldc2_w 249, 3) := by decide +kernel
theorem dX12_readsPerson_146 : decode cX12_readsPerson 146 = .ok (.iconst 0, 1) := by decide +kernel
theorem dX12_readsPerson_147 : decode cX12_readsPerson 147 = .ok (.bipush 9, 2) := by decide +kernel
theorem dX12_readsPerson_149 : decode cX12_readsPerson 149 = .ok (.invokevirtual 325, 3) := by decide +kernel
theorem dX12_readsPerson_152 : decode cX12_readsPerson 152 = .ok (.ifCond .ne 5, 3) := by decide +kernel
theorem dX12_readsPerson_155 : decode cX12_readsPerson 155 = .ok (.iconst 0, 1) := by decide +kernel
theorem dX12_readsPerson_156 : decode cX12_readsPerson 156 = .ok (.ireturn, 1) := by decide +kernel
theorem dX12_readsPerson_157 : decode cX12_readsPerson 157 = .ok (.aload_n 0, 1) := by decide +kernel
theorem dX12_readsPerson_158 : decode cX12_readsPerson 158 = .ok (.getfield 29, 3) := by decide +kernel
theorem dX12_readsPerson_161 : decode cX12_readsPerson 161 = .ok (.iload_n 1, 1) := by decide +kernel
theorem dX12_readsPerson_162 : decode cX12_readsPerson 162 = .ok (.aload_n 0, 1) := by decide +kernel
theorem dX12_readsPerson_163 : decode cX12_readsPerson 163 = .ok (.getfield 297, 3) := by decide +kernel
theorem dX12_readsPerson_166 : decode cX12_readsPerson 166 = .ok (.iastore, 1) := by decide +kernel
theorem dX12_readsPerson_167 : decode cX12_readsPerson 167 = .ok (.aload_n 0, 1) := by decide +kernel
theorem dX12_readsPerson_168 : decode cX12_readsPerson 168 = .ok (.ldc2_w 251, 3) := by decide +kernel
theorem dX12_readsPerson_171 : decode cX12_readsPerson 171 = .ok (.iconst 0, 1) := by decide +kernel
theorem dX12_readsPerson_172 : decode cX12_readsPerson 172 = .ok (.bipush 99, 2) := by decide +kernel
theorem dX12_readsPerson_174 : decode cX12_readsPerson 174 = .ok (.invokevirtual 325, 3) := by decide +kernel
theorem dX12_readsPerson_177 : decode cX12_readsPerson 177 = .ok (.ifCond .ne 5, 3) := by decide +kernel
theorem dX12_readsPerson_180 : decode cX12_readsPerson 180 = .ok (.iconst 0, 1) := by decide +kernel
theorem dX12_readsPerson_181 : decode cX12_readsPerson 181 = .ok (.ireturn, 1) := by decide +kernel
theorem dX12_readsPerson_182 : decode cX12_readsPerson 182 = .ok (.aload_n 0, 1) := by decide +kernel
theorem dX12_readsPerson_183 : decode cX12_readsPerson 183 = .ok (.getfield 32, 3) := by decide +kernel
theorem dX12_readsPerson_186 : decode cX12_readsPerson 186 = .ok (.iload_n 1, 1) := by decide +kernel
theorem dX12_readsPerson_187 : decode cX12_readsPerson 187 = .ok (.aload_n 0, 1) := by decide +kernel
theorem dX12_readsPerson_188 : decode cX12_readsPerson 188 = .ok (.getfield 297, 3) := by decide +kernel
theorem dX12_readsPerson_191 : decode cX12_readsPerson 191 = .ok (.iastore, 1) := by decide +kernel
theorem dX12_readsPerson_192 : decode cX12_readsPerson 192 = .ok (.aload_n 0, 1) := by decide +kernel
theorem dX12_readsPerson_193 : decode cX12_readsPerson 193 = .ok (.getfield 35, 3) := by decide +kernel
theorem dX12_readsPerson_196 : decode cX12_readsPerson 196 = .ok (.iload_n 1, 1) := by decide +kernel
theorem dX12_readsPerson_197 : decode cX12_readsPerson 197 = .ok (.sipush 1000, 3) := by decide +kernel
theorem dX12_readsPerson_200 : decode cX12_readsPerson 200 = .ok (.iastore, 1) := by decide +kernel
theorem dX12_readsPerson_201 : decode cX12_readsPerson 201 = .ok (.aload_n 0, 1) := by decide +kernel
theorem dX12_readsPerson_202 : decode cX12_readsPerson 202 = .ok (.getfield 38, 3) := by decide +kernel
theorem dX12_readsPerson_205 : decode cX12_readsPerson 205 = .ok (.iload_n 1, 1) := by decide +kernel
theorem dX12_readsPerson_206 : decode cX12_readsPerson 206 = .ok (.iconst (-1), 1) := by decide +kernel
theorem dX12_readsPerson_207 : decode cX12_readsPerson 207 = .ok (.iastore, 1) := by decide +kernel
theorem dX12_readsPerson_208 : decode cX12_readsPerson 208 = .ok (.aload_n 0, 1) := by decide +kernel
theorem dX12_readsPerson_209 : decode cX12_readsPerson 209 = .ok (.getfield 50, 3) := by decide +kernel
theorem dX12_readsPerson_212 : decode cX12_readsPerson 212 = .ok (.iload_n 1, 1) := by decide +kernel
theorem dX12_readsPerson_213 : decode cX12_readsPerson 213 = .ok (.iconst 0, 1) := by decide +kernel
theorem dX12_readsPerson_214 : decode cX12_readsPerson 214 = .ok (.iastore, 1) := by decide +kernel
theorem dX12_readsPerson_215 : decode cX12_readsPerson 215 = .ok (.aload_n 0, 1) := by decide +kernel
theorem dX12_readsPerson_216 : decode cX12_readsPerson 216 = .ok (.getfield 16, 3) := by decide +kernel
theorem dX12_readsPerson_219 : decode cX12_readsPerson 219 = .ok (.iload_n 1, 1) := by decide +kernel
theorem dX12_readsPerson_220 : decode cX12_readsPerson 220 = .ok (.aload_n 0, 1) := by decide +kernel
theorem dX12_readsPerson_221 : decode cX12_readsPerson 221 = .ok (.getfield 317, 3) := by decide +kernel
theorem dX12_readsPerson_224 : decode cX12_readsPerson 224 = .ok (.lastore, 1) := by decide +kernel
theorem dX12_readsPerson_225 : decode cX12_readsPerson 225 = .ok (.aload_n 0, 1) := by decide +kernel
theorem dX12_readsPerson_226 : decode cX12_readsPerson 226 = .ok (.getfield 13, 3) := by decide +kernel
theorem dX12_readsPerson_229 : decode cX12_readsPerson 229 = .ok (.iconst 5, 1) := by decide +kernel
theorem dX12_readsPerson_230 : decode cX12_readsPerson 230 = .ok (.dup2, 1) := by decide +kernel
theorem dX12_readsPerson_231 : decode cX12_readsPerson 231 = .ok (.iaload, 1) := by decide +kernel
theorem dX12_readsPerson_232 : decode cX12_readsPerson 232 = .ok (.iconst 1, 1) := by decide +kernel
theorem dX12_readsPerson_233 : decode cX12_readsPerson 233 = .ok (.iadd, 1) := by decide +kernel
theorem dX12_readsPerson_234 : decode cX12_readsPerson 234 = .ok (.iastore, 1) := by decide +kernel
theorem dX12_readsPerson_235 : decode cX12_readsPerson 235 = .ok (.aload_n 0, 1) := by decide +kernel
theorem dX12_readsPerson_236 : decode cX12_readsPerson 236 = .ok (.invokevirtual 329, 3) := by decide +kernel
theorem dX12_readsPerson_239 : decode cX12_readsPerson 239 = .ok (.ireturn, 1) := by decide +kernel
theorem dX12_readsDish_0 : decode cX12_readsDish 0 = .ok (.iconst 5, 1) := by decide +kernel
theorem dX12_readsDish_1 : decode cX12_readsDish 1 = .ok (.aload_n 0, 1) := by decide +kernel
theorem dX12_readsDish_2 : decode cX12_readsDish 2 = .ok (.getfield 13, 3) := by decide +kernel
theorem dX12_readsDish_5 : decode cX12_readsDish 5 = .ok (.bipush 6, 2) := by decide +kernel
theorem dX12_readsDish_7 : decode cX12_readsDish 7 = .ok (.iaload, 1) := by decide +kernel
theorem dX12_readsDish_8 : decode cX12_readsDish 8 = .ok (.iadd, 1) := by decide +kernel
theorem dX12_readsDish_9 : decode cX12_readsDish 9 = .ok (.istore_n 1, 1) := by decide +kernel
theorem dX12_readsDish_10 : decode cX12_readsDish 10 = .ok (.iload_n 1, 1) := by decide +kernel
theorem dX12_readsDish_11 : decode cX12_readsDish 11 = .ok (.bipush 10, 2) := by decide +kernel
theorem dX12_readsDish_13 : decode cX12_readsDish 13 = .ok (.if_icmp .ne 9, 3) := by decide +kernel
theorem dX12_readsDish_16 : decode cX12_readsDish 16 = .ok (.aload_n 0, 1) := by decide +kernel
theorem dX12_readsDish_17 : decode cX12_readsDish 17 = .ok (.iconst 5, 1) := by decide +kernel
theorem dX12_readsDish_18 : decode cX12_readsDish 18 = .ok (.invokevirtual 222, 3) := by decide +kernel
theorem dX12_readsDish_21 : decode cX12_readsDish 21 = .ok (.ireturn, 1) := by decide +kernel
theorem dX12_readsDish_22 : decode cX12_readsDish 22 = .ok (.aload_n 0, 1) := by decide +kernel
theorem dX12_readsDish_23 : decode cX12_readsDish 23 = .ok (.invokevirtual 229, 3) := by decide +kernel
theorem dX12_readsDish_26 : decode cX12_readsDish 26 = .ok (.aload_n 0, 1) := by decide +kernel
theorem dX12_readsDish_27 : decode cX12_readsDish 27 = .ok (.invokevirtual 322, 3) := by decide +kernel
theorem dX12_readsDish_30 : decode cX12_readsDish 30 = .ok (.ifCond .ne 5, 3) := by decide +kernel
theorem dX12_readsDish_33 : decode cX12_readsDish 33 = .ok (.iconst 0, 1) := by decide +kernel
theorem dX12_readsDish_34 : decode cX12_readsDish 34 = .ok (.ireturn, 1) := by decide +kernel
theorem dX12_readsDish_35 : decode cX12_readsDish 35 = .ok (.aload_n 0, 1) := by decide +kernel
theorem dX12_readsDish_36 : decode cX12_readsDish 36 = .ok (.ldc2_w 255, 3) := by decide +kernel
theorem dX12_readsDish_39 : decode cX12_readsDish 39 = .ok (.iconst 0, 1) := by decide +kernel
theorem dX12_readsDish_40 : decode cX12_readsDish 40 = .ok (.bipush 20, 2) := by decide +kernel
theorem dX12_readsDish_42 : decode cX12_readsDish 42 = .ok (.invokevirtual 325, 3) := by decide +kernel
theorem dX12_readsDish_45 : decode cX12_readsDish 45 = .ok (.ifCond .ne 5, 3) := by decide +kernel
theorem dX12_readsDish_48 : decode cX12_readsDish 48 = .ok (.iconst 0, 1) := by decide +kernel
theorem dX12_readsDish_49 : decode cX12_readsDish 49 = .ok (.ireturn, 1) := by decide +kernel
theorem dX12_readsDish_50 : decode cX12_readsDish 50 = .ok (.aload_n 0, 1) := by decide +kernel
theorem dX12_readsDish_51 : decode cX12_readsDish 51 = .ok (.getfield 41, 3) := by decide +kernel
theorem dX12_readsDish_54 : decode cX12_readsDish 54 = .ok (.iload_n 1, 1) := by decide +kernel
theorem dX12_readsDish_55 : decode cX12_readsDish 55 = .ok (.aload_n 0, 1) := by decide +kernel
theorem dX12_readsDish_56 : decode cX12_readsDish 56 = .ok (.getfield 297, 3) := by decide +kernel
theorem dX12_readsDish_59 : decode cX12_readsDish 59 = .ok (.iastore, 1) := by decide +kernel
theorem dX12_readsDish_60 : decode cX12_readsDish 60 = .ok (.aload_n 0, 1) := by decide +kernel
theorem dX12_readsDish_61 : decode cX12_readsDish 61 = .ok (.ldc2_w 257, 3) := by decide +kernel
theorem dX12_readsDish_64 : decode cX12_readsDish 64 = .ok (.iconst 0, 1) := by decide +kernel
theorem dX12_readsDish_65 : decode cX12_readsDish 65 = .ok (.bipush 9, 2) := by decide +kernel
theorem dX12_readsDish_67 : decode cX12_readsDish 67 = .ok (.invokevirtual 325, 3) := by decide +kernel
theorem dX12_readsDish_70 : decode cX12_readsDish 70 = .ok (.ifCond .ne 5, 3) := by decide +kernel
theorem dX12_readsDish_73 : decode cX12_readsDish 73 = .ok (.iconst 0, 1) := by decide +kernel
theorem dX12_readsDish_74 : decode cX12_readsDish 74 = .ok (.ireturn, 1) := by decide +kernel
theorem dX12_readsDish_75 : decode cX12_readsDish 75 = .ok (.aload_n 0, 1) := by decide +kernel
theorem dX12_readsDish_76 : decode cX12_readsDish 76 = .ok (.getfield 44, 3) := by decide +kernel
theorem dX12_readsDish_79 : decode cX12_readsDish 79 = .ok (.iload_n 1, 1) := by decide +kernel
theorem dX12_readsDish_80 : decode cX12_readsDish 80 = .ok (.aload_n 0, 1) := by decide +kernel
theorem dX12_readsDish_81 : decode cX12_readsDish 81 = .ok (.getfield 297, 3) := by decide +kernel
theorem dX12_readsDish_84 : decode cX12_readsDish 84 = .ok (.iastore, 1) := by decide +kernel
theorem dX12_readsDish_85 : decode cX12_readsDish 85 = .ok (.aload_n 0, 1) := by decide +kernel
theorem dX12_readsDish_86 : decode cX12_readsDish 86 = .ok (.ldc2_w 259, 3) := by decide +kernel
theorem dX12_readsDish_89 : decode cX12_readsDish 89 = .ok (.iconst 0, 1) := by decide +kernel
theorem dX12_readsDish_90 : decode cX12_readsDish 90 = .ok (.bipush 20, 2) := by decide +kernel
theorem dX12_readsDish_92 : decode cX12_readsDish 92 = .ok (.invokevirtual 325, 3) := by decide +kernel
theorem dX12_readsDish_95 : decode cX12_readsDish 95 = .ok (.ifCond .ne 5, 3) := by decide +kernel
theorem dX12_readsDish_98 : decode cX12_readsDish 98 = .ok (.iconst 0, 1) := by decide +kernel
theorem dX12_readsDish_99 : decode cX12_readsDish 99 = .ok (.ireturn, 1) := by decide +kernel
theorem dX12_readsDish_100 : decode cX12_readsDish 100 = .ok (.aload_n 0, 1) := by decide +kernel
theorem dX12_readsDish_101 : decode cX12_readsDish 101 = .ok (.getfield 47, 3) := by decide +kernel
theorem dX12_readsDish_104 : decode cX12_readsDish 104 = .ok (.iload_n 1, 1) := by decide +kernel
theorem dX12_readsDish_105 : decode cX12_readsDish 105 = .ok (.aload_n 0, 1) := by decide +kernel
theorem dX12_readsDish_106 : decode cX12_readsDish 106 = .ok (.getfield 297, 3) := by decide +kernel
theorem dX12_readsDish_109 : decode cX12_readsDish 109 = .ok (.iastore, 1) := by decide +kernel
theorem dX12_readsDish_110 : decode cX12_readsDish 110 = .ok (.aload_n 0, 1) := by decide +kernel
theorem dX12_readsDish_111 : decode cX12_readsDish 111 = .ok (.getfield 20, 3) := by decide +kernel
theorem dX12_readsDish_114 : decode cX12_readsDish 114 = .ok (.iload_n 1, 1) := by decide +kernel
theorem dX12_readsDish_115 : decode cX12_readsDish 115 = .ok (.aload_n 0, 1) := by decide +kernel
theorem dX12_readsDish_116 : decode cX12_readsDish 116 = .ok (.getfield 317, 3) := by decide +kernel
theorem dX12_readsDish_119 : decode cX12_readsDish 119 = .ok (.lastore, 1) := by decide +kernel
theorem dX12_readsDish_120 : decode cX12_readsDish 120 = .ok (.aload_n 0, 1) := by decide +kernel
theorem dX12_readsDish_121 : decode cX12_readsDish 121 = .ok (.getfield 13, 3) := by decide +kernel
theorem dX12_readsDish_124 : decode cX12_readsDish 124 = .ok (.bipush 6, 2) := by decide +kernel
theorem dX12_readsDish_126 : decode cX12_readsDish 126 = .ok (.dup2, 1) := by decide +kernel
theorem dX12_readsDish_127 : decode cX12_readsDish 127 = .ok (.iaload, 1) := by decide +kernel
theorem dX12_readsDish_128 : decode cX12_readsDish 128 = .ok (.iconst 1, 1) := by decide +kernel
theorem dX12_readsDish_129 : decode cX12_readsDish 129 = .ok (.iadd, 1) := by decide +kernel
theorem dX12_readsDish_130 : decode cX12_readsDish 130 = .ok (.iastore, 1) := by decide +kernel
theorem dX12_readsDish_131 : decode cX12_readsDish 131 = .ok (.aload_n 0, 1) := by decide +kernel
theorem dX12_readsDish_132 : decode cX12_readsDish 132 = .ok (.invokevirtual 329, 3) := by decide +kernel
theorem dX12_readsDish_135 : decode cX12_readsDish 135 = .ok (.ireturn, 1) := by decide +kernel
theorem dX12_readsCup_0 : decode cX12_readsCup 0 = .ok (.aload_n 0, 1) := by decide +kernel
theorem dX12_readsCup_1 : decode cX12_readsCup 1 = .ok (.invokevirtual 229, 3) := by decide +kernel
theorem dX12_readsCup_4 : decode cX12_readsCup 4 = .ok (.aload_n 0, 1) := by decide +kernel
theorem dX12_readsCup_5 : decode cX12_readsCup 5 = .ok (.iconst 1, 1) := by decide +kernel
theorem dX12_readsCup_6 : decode cX12_readsCup 6 = .ok (.invokevirtual 332, 3) := by decide +kernel
theorem dX12_readsCup_9 : decode cX12_readsCup 9 = .ok (.ifCond .ne 5, 3) := by decide +kernel
theorem dX12_readsCup_12 : decode cX12_readsCup 12 = .ok (.iconst 0, 1) := by decide +kernel
theorem dX12_readsCup_13 : decode cX12_readsCup 13 = .ok (.ireturn, 1) := by decide +kernel
theorem dX12_readsCup_14 : decode cX12_readsCup 14 = .ok (.aload_n 0, 1) := by decide +kernel
theorem dX12_readsCup_15 : decode cX12_readsCup 15 = .ok (.getfield 297, 3) := by decide +kernel
theorem dX12_readsCup_18 : decode cX12_readsCup 18 = .ok (.istore_n 1, 1) := by decide +kernel
theorem dX12_readsCup_19 : decode cX12_readsCup 19 = .ok (.aload_n 0, 1) := by decide +kernel
theorem dX12_readsCup_20 : decode cX12_readsCup 20 = .ok (.invokevirtual 229, 3) := by decide +kernel
theorem dX12_readsCup_23 : decode cX12_readsCup 23 = .ok (.aload_n 0, 1) := by decide +kernel
theorem dX12_readsCup_24 : decode cX12_readsCup 24 = .ok (.iconst 1, 1) := by decide +kernel
theorem dX12_readsCup_25 : decode cX12_readsCup 25 = .ok (.invokevirtual 332, 3) := by decide +kernel
theorem dX12_readsCup_28 : decode cX12_readsCup 28 = .ok (.ifCond .ne 5, 3) := by decide +kernel
theorem dX12_readsCup_31 : decode cX12_readsCup 31 = .ok (.iconst 0, 1) := by decide +kernel
theorem dX12_readsCup_32 : decode cX12_readsCup 32 = .ok (.ireturn, 1) := by decide +kernel
theorem dX12_readsCup_33 : decode cX12_readsCup 33 = .ok (.aload_n 0, 1) := by decide +kernel
theorem dX12_readsCup_34 : decode cX12_readsCup 34 = .ok (.getfield 297, 3) := by decide +kernel
theorem dX12_readsCup_37 : decode cX12_readsCup 37 = .ok (.istore_n 2, 1) := by decide +kernel
theorem dX12_readsCup_38 : decode cX12_readsCup 38 = .ok (.iload_n 1, 1) := by decide +kernel
theorem dX12_readsCup_39 : decode cX12_readsCup 39 = .ok (.iload_n 2, 1) := by decide +kernel
theorem dX12_readsCup_40 : decode cX12_readsCup 40 = .ok (.if_icmp .eq 20, 3) := by decide +kernel
theorem dX12_readsCup_43 : decode cX12_readsCup 43 = .ok (.aload_n 0, 1) := by decide +kernel
theorem dX12_readsCup_44 : decode cX12_readsCup 44 = .ok (.getfield 50, 3) := by decide +kernel
theorem dX12_readsCup_47 : decode cX12_readsCup 47 = .ok (.bipush 6, 2) := by decide +kernel
theorem dX12_readsCup_49 : decode cX12_readsCup 49 = .ok (.iload_n 1, 1) := by decide +kernel
theorem dX12_readsCup_50 : decode cX12_readsCup 50 = .ok (.iadd, 1) := by decide +kernel
theorem dX12_readsCup_51 : decode cX12_readsCup 51 = .ok (.iaload, 1) := by decide +kernel
theorem dX12_readsCup_52 : decode cX12_readsCup 52 = .ok (.iload_n 2, 1) := by decide +kernel
theorem dX12_readsCup_53 : decode cX12_readsCup 53 = .ok (.ishr, 1) := by decide +kernel
theorem dX12_readsCup_54 : decode cX12_readsCup 54 = .ok (.iconst 1, 1) := by decide +kernel
theorem dX12_readsCup_55 : decode cX12_readsCup 55 = .ok (.iand, 1) := by decide +kernel
theorem dX12_readsCup_56 : decode cX12_readsCup 56 = .ok (.iconst 1, 1) := by decide +kernel
theorem dX12_readsCup_57 : decode cX12_readsCup 57 = .ok (.if_icmp .ne 9, 3) := by decide +kernel
theorem dX12_readsCup_60 : decode cX12_readsCup 60 = .ok (.aload_n 0, 1) := by decide +kernel
theorem dX12_readsCup_61 : decode cX12_readsCup 61 = .ok (.iconst 3, 1) := by decide +kernel
theorem dX12_readsCup_62 : decode cX12_readsCup 62 = .ok (.invokevirtual 222, 3) := by decide +kernel
theorem dX12_readsCup_65 : decode cX12_readsCup 65 = .ok (.ireturn, 1) := by decide +kernel
theorem dX12_readsCup_66 : decode cX12_readsCup 66 = .ok (.aload_n 0, 1) := by decide +kernel
theorem dX12_readsCup_67 : decode cX12_readsCup 67 = .ok (.invokevirtual 229, 3) := by decide +kernel
theorem dX12_readsCup_70 : decode cX12_readsCup 70 = .ok (.aload_n 0, 1) := by decide +kernel
theorem dX12_readsCup_71 : decode cX12_readsCup 71 = .ok (.getfield 50, 3) := by decide +kernel
theorem dX12_readsCup_74 : decode cX12_readsCup 74 = .ok (.bipush 6, 2) := by decide +kernel
theorem dX12_readsCup_76 : decode cX12_readsCup 76 = .ok (.iload_n 1, 1) := by decide +kernel
theorem dX12_readsCup_77 : decode cX12_readsCup 77 = .ok (.iadd, 1) := by decide +kernel
theorem dX12_readsCup_78 : decode cX12_readsCup 78 = .ok (.dup2, 1) := by decide +kernel
theorem dX12_readsCup_79 : decode cX12_readsCup 79 = .ok (.iaload, 1) := by decide +kernel
theorem dX12_readsCup_80 : decode cX12_readsCup 80 = .ok (.iconst 1, 1) := by decide +kernel
theorem dX12_readsCup_81 : decode cX12_readsCup 81 = .ok (.iload_n 2, 1) := by decide +kernel
theorem dX12_readsCup_82 : decode cX12_readsCup 82 = .ok (.ishl, 1) := by decide +kernel
theorem dX12_readsCup_83 : decode cX12_readsCup 83 = .ok (.ior, 1) := by decide +kernel
theorem dX12_readsCup_84 : decode cX12_readsCup 84 = .ok (.iastore, 1) := by decide +kernel
theorem dX12_readsCup_85 : decode cX12_readsCup 85 = .ok (.aload_n 0, 1) := by decide +kernel
theorem dX12_readsCup_86 : decode cX12_readsCup 86 = .ok (.getfield 50, 3) := by decide +kernel
theorem dX12_readsCup_89 : decode cX12_readsCup 89 = .ok (.bipush 6, 2) := by decide +kernel
theorem dX12_readsCup_91 : decode cX12_readsCup 91 = .ok (.iload_n 2, 1) := by decide +kernel
theorem dX12_readsCup_92 : decode cX12_readsCup 92 = .ok (.iadd, 1) := by decide +kernel
theorem dX12_readsCup_93 : decode cX12_readsCup 93 = .ok (.dup2, 1) := by decide +kernel
theorem dX12_readsCup_94 : decode cX12_readsCup 94 = .ok (.iaload, 1) := by decide +kernel
theorem dX12_readsCup_95 : decode cX12_readsCup 95 = .ok (.iconst 1, 1) := by decide +kernel
theorem dX12_readsCup_96 : decode cX12_readsCup 96 = .ok (.iload_n 1, 1) := by decide +kernel
theorem dX12_readsCup_97 : decode cX12_readsCup 97 = .ok (.ishl, 1) := by decide +kernel
theorem dX12_readsCup_98 : decode cX12_readsCup 98 = .ok (.ior, 1) := by decide +kernel
theorem dX12_readsCup_99 : decode cX12_readsCup 99 = .ok (.iastore, 1) := by decide +kernel
theorem dX12_readsCup_100 : decode cX12_readsCup 100 = .ok (.aload_n 0, 1) := by decide +kernel
theorem dX12_readsCup_101 : decode cX12_readsCup 101 = .ok (.getfield 13, 3) := by decide +kernel
theorem dX12_readsCup_104 : decode cX12_readsCup 104 = .ok (.bipush 7, 2) := by decide +kernel
theorem dX12_readsCup_106 : decode cX12_readsCup 106 = .ok (.dup2, 1) := by decide +kernel
theorem dX12_readsCup_107 : decode cX12_readsCup 107 = .ok (.iaload, 1) := by decide +kernel
theorem dX12_readsCup_108 : decode cX12_readsCup 108 = .ok (.iconst 1, 1) := by decide +kernel
theorem dX12_readsCup_109 : decode cX12_readsCup 109 = .ok (.iadd, 1) := by decide +kernel
theorem dX12_readsCup_110 : decode cX12_readsCup 110 = .ok (.iastore, 1) := by decide +kernel
theorem dX12_readsCup_111 : decode cX12_readsCup 111 = .ok (.aload_n 0, 1) := by decide +kernel
theorem dX12_readsCup_112 : decode cX12_readsCup 112 = .ok (.invokevirtual 329, 3) := by decide +kernel
theorem dX12_readsCup_115 : decode cX12_readsCup 115 = .ok (.ireturn, 1) := by decide +kernel
theorem dX12_readsSick_0 : decode cX12_readsSick 0 = .ok (.aload_n 0, 1) := by decide +kernel
theorem dX12_readsSick_1 : decode cX12_readsSick 1 = .ok (.invokevirtual 229, 3) := by decide +kernel
theorem dX12_readsSick_4 : decode cX12_readsSick 4 = .ok (.aload_n 0, 1) := by decide +kernel
theorem dX12_readsSick_5 : decode cX12_readsSick 5 = .ok (.iconst 1, 1) := by decide +kernel
theorem dX12_readsSick_6 : decode cX12_readsSick 6 = .ok (.invokevirtual 332, 3) := by decide +kernel
theorem dX12_readsSick_9 : decode cX12_readsSick 9 = .ok (.ifCond .ne 5, 3) := by decide +kernel
theorem dX12_readsSick_12 : decode cX12_readsSick 12 = .ok (.iconst 0, 1) := by decide +kernel
theorem dX12_readsSick_13 : decode cX12_readsSick 13 = .ok (.ireturn, 1) := by decide +kernel
theorem dX12_readsSick_14 : decode cX12_readsSick 14 = .ok (.bipush 6, 2) := by decide +kernel
theorem dX12_readsSick_16 : decode cX12_readsSick 16 = .ok (.aload_n 0, 1) := by decide +kernel
theorem dX12_readsSick_17 : decode cX12_readsSick 17 = .ok (.getfield 297, 3) := by decide +kernel
theorem dX12_readsSick_20 : decode cX12_readsSick 20 = .ok (.iadd, 1) := by decide +kernel
theorem dX12_readsSick_21 : decode cX12_readsSick 21 = .ok (.istore_n 1, 1) := by decide +kernel
theorem dX12_readsSick_22 : decode cX12_readsSick 22 = .ok (.aload_n 0, 1) := by decide +kernel
theorem dX12_readsSick_23 : decode cX12_readsSick 23 = .ok (.getfield 38, 3) := by decide +kernel
theorem dX12_readsSick_26 : decode cX12_readsSick 26 = .ok (.iload_n 1, 1) := by decide +kernel
theorem dX12_readsSick_27 : decode cX12_readsSick 27 = .ok (.iaload, 1) := by decide +kernel
theorem dX12_readsSick_28 : decode cX12_readsSick 28 = .ok (.ifCond .lt 9, 3) := by decide +kernel
theorem dX12_readsSick_31 : decode cX12_readsSick 31 = .ok (.aload_n 0, 1) := by decide +kernel
theorem dX12_readsSick_32 : decode cX12_readsSick 32 = .ok (.iconst 3, 1) := by decide +kernel
theorem dX12_readsSick_33 : decode cX12_readsSick 33 = .ok (.invokevirtual 222, 3) := by decide +kernel
theorem dX12_readsSick_36 : decode cX12_readsSick 36 = .ok (.ireturn, 1) := by decide +kernel
theorem dX12_readsSick_37 : decode cX12_readsSick 37 = .ok (.aload_n 0, 1) := by decide +kernel
theorem dX12_readsSick_38 : decode cX12_readsSick 38 = .ok (.invokevirtual 229, 3) := by decide +kernel
theorem dX12_readsSick_41 : decode cX12_readsSick 41 = .ok (.aload_n 0, 1) := by decide +kernel
theorem dX12_readsSick_42 : decode cX12_readsSick 42 = .ok (.ldc2_w 265, 3) := by decide +kernel
theorem dX12_readsSick_45 : decode cX12_readsSick 45 = .ok (.iconst 0, 1) := by decide +kernel
theorem dX12_readsSick_46 : decode cX12_readsSick 46 = .ok (.bipush 99, 2) := by decide +kernel
theorem dX12_readsSick_48 : decode cX12_readsSick 48 = .ok (.invokevirtual 325, 3) := by decide +kernel
theorem dX12_readsSick_51 : decode cX12_readsSick 51 = .ok (.ifCond .ne 5, 3) := by decide +kernel
theorem dX12_readsSick_54 : decode cX12_readsSick 54 = .ok (.iconst 0, 1) := by decide +kernel
theorem dX12_readsSick_55 : decode cX12_readsSick 55 = .ok (.ireturn, 1) := by decide +kernel
theorem dX12_readsSick_56 : decode cX12_readsSick 56 = .ok (.aload_n 0, 1) := by decide +kernel
theorem dX12_readsSick_57 : decode cX12_readsSick 57 = .ok (.getfield 297, 3) := by decide +kernel
theorem dX12_readsSick_60 : decode cX12_readsSick 60 = .ok (.istore_n 2, 1) := by decide +kernel
theorem dX12_readsSick_61 : decode cX12_readsSick 61 = .ok (.aload_n 0, 1) := by decide +kernel
theorem dX12_readsSick_62 : decode cX12_readsSick 62 = .ok (.ldc2_w 267, 3) := by decide +kernel
theorem dX12_readsSick_65 : decode cX12_readsSick 65 = .ok (.iload_n 2, 1) := by decide +kernel
theorem dX12_readsSick_66 : decode cX12_readsSick 66 = .ok (.bipush 99, 2) := by decide +kernel
theorem dX12_readsSick_68 : decode cX12_readsSick 68 = .ok (.invokevirtual 325, 3) := by decide +kernel
theorem dX12_readsSick_71 : decode cX12_readsSick 71 = .ok (.ifCond .ne 5, 3) := by decide +kernel
theorem dX12_readsSick_74 : decode cX12_readsSick 74 = .ok (.iconst 0, 1) := by decide +kernel
theorem dX12_readsSick_75 : decode cX12_readsSick 75 = .ok (.ireturn, 1) := by decide +kernel
theorem dX12_readsSick_76 : decode cX12_readsSick 76 = .ok (.aload_n 0, 1) := by decide +kernel
theorem dX12_readsSick_77 : decode cX12_readsSick 77 = .ok (.getfield 35, 3) := by decide +kernel
theorem dX12_readsSick_80 : decode cX12_readsSick 80 = .ok (.iload_n 1, 1) := by decide +kernel
theorem dX12_readsSick_81 : decode cX12_readsSick 81 = .ok (.iload_n 2, 1) := by decide +kernel
theorem dX12_readsSick_82 : decode cX12_readsSick 82 = .ok (.iastore, 1) := by decide +kernel
theorem dX12_readsSick_83 : decode cX12_readsSick 83 = .ok (.aload_n 0, 1) := by decide +kernel
theorem dX12_readsSick_84 : decode cX12_readsSick 84 = .ok (.getfield 38, 3) := by decide +kernel
theorem dX12_readsSick_87 : decode cX12_readsSick 87 = .ok (.iload_n 1, 1) := by decide +kernel
theorem dX12_readsSick_88 : decode cX12_readsSick 88 = .ok (.aload_n 0, 1) := by decide +kernel
theorem dX12_readsSick_89 : decode cX12_readsSick 89 = .ok (.getfield 297, 3) := by decide +kernel
theorem dX12_readsSick_92 : decode cX12_readsSick 92 = .ok (.iastore, 1) := by decide +kernel
theorem dX12_readsSick_93 : decode cX12_readsSick 93 = .ok (.aload_n 0, 1) := by decide +kernel
theorem dX12_readsSick_94 : decode cX12_readsSick 94 = .ok (.invokevirtual 329, 3) := by decide +kernel
theorem dX12_readsSick_97 : decode cX12_readsSick 97 = .ok (.ireturn, 1) := by decide +kernel
theorem dX12_readsOne_0 : decode cX12_readsOne 0 = .ok (.aload_n 0, 1) := by decide +kernel
theorem dX12_readsOne_1 : decode cX12_readsOne 1 = .ok (.iload_n 1, 1) := by decide +kernel
theorem dX12_readsOne_2 : decode cX12_readsOne 2 = .ok (.invokevirtual 335, 3) := by decide +kernel
theorem dX12_readsOne_5 : decode cX12_readsOne 5 = .ok (.ifCond .eq 9, 3) := by decide +kernel
theorem dX12_readsOne_8 : decode cX12_readsOne 8 = .ok (.aload_n 0, 1) := by decide +kernel
theorem dX12_readsOne_9 : decode cX12_readsOne 9 = .ok (.iconst 3, 1) := by decide +kernel
theorem dX12_readsOne_10 : decode cX12_readsOne 10 = .ok (.invokevirtual 222, 3) := by decide +kernel
theorem dX12_readsOne_13 : decode cX12_readsOne 13 = .ok (.ireturn, 1) := by decide +kernel
theorem dX12_readsOne_14 : decode cX12_readsOne 14 = .ok (.aload_n 0, 1) := by decide +kernel
theorem dX12_readsOne_15 : decode cX12_readsOne 15 = .ok (.invokevirtual 229, 3) := by decide +kernel
theorem dX12_readsOne_18 : decode cX12_readsOne 18 = .ok (.aload_n 0, 1) := by decide +kernel
theorem dX12_readsOne_19 : decode cX12_readsOne 19 = .ok (.iconst 0, 1) := by decide +kernel
theorem dX12_readsOne_20 : decode cX12_readsOne 20 = .ok (.iload_n 2, 1) := by decide +kernel
theorem dX12_readsOne_21 : decode cX12_readsOne 21 = .ok (.invokevirtual 303, 3) := by decide +kernel
theorem dX12_readsOne_24 : decode cX12_readsOne 24 = .ok (.ifCond .ne 5, 3) := by decide +kernel
theorem dX12_readsOne_27 : decode cX12_readsOne 27 = .ok (.iconst 0, 1) := by decide +kernel
theorem dX12_readsOne_28 : decode cX12_readsOne 28 = .ok (.ireturn, 1) := by decide +kernel
theorem dX12_readsOne_29 : decode cX12_readsOne 29 = .ok (.aload_n 0, 1) := by decide +kernel
theorem dX12_readsOne_30 : decode cX12_readsOne 30 = .ok (.getfield 13, 3) := by decide +kernel
theorem dX12_readsOne_33 : decode cX12_readsOne 33 = .ok (.iconst 5, 1) := by decide +kernel
theorem dX12_readsOne_34 : decode cX12_readsOne 34 = .ok (.iload_n 1, 1) := by decide +kernel
theorem dX12_readsOne_35 : decode cX12_readsOne 35 = .ok (.iadd, 1) := by decide +kernel
theorem dX12_readsOne_36 : decode cX12_readsOne 36 = .ok (.aload_n 0, 1) := by decide +kernel
theorem dX12_readsOne_37 : decode cX12_readsOne 37 = .ok (.getfield 297, 3) := by decide +kernel
theorem dX12_readsOne_40 : decode cX12_readsOne 40 = .ok (.iastore, 1) := by decide +kernel
theorem dX12_readsOne_41 : decode cX12_readsOne 41 = .ok (.aload_n 0, 1) := by decide +kernel
theorem dX12_readsOne_42 : decode cX12_readsOne 42 = .ok (.invokevirtual 329, 3) := by decide +kernel
theorem dX12_readsOne_45 : decode cX12_readsOne 45 = .ok (.ireturn, 1) := by decide +kernel
theorem dX12_readsShare_0 : decode cX12_readsShare 0 = .ok (.aload_n 0, 1) := by decide +kernel
theorem dX12_readsShare_1 : decode cX12_readsShare 1 = .ok (.getfield 56, 3) := by decide +kernel
theorem dX12_readsShare_4 : decode cX12_readsShare 4 = .ok (.iconst 1, 1) := by decide +kernel
theorem dX12_readsShare_5 : decode cX12_readsShare 5 = .ok (.iaload, 1) := by decide +kernel
theorem dX12_readsShare_6 : decode cX12_readsShare 6 = .ok (.aload_n 0, 1) := by decide +kernel
theorem dX12_readsShare_7 : decode cX12_readsShare 7 = .ok (.getfield 53, 3) := by decide +kernel
theorem dX12_readsShare_10 : decode cX12_readsShare 10 = .ok (.iconst 1, 1) := by decide +kernel
theorem dX12_readsShare_11 : decode cX12_readsShare 11 = .ok (.iaload, 1) := by decide +kernel
theorem dX12_readsShare_12 : decode cX12_readsShare 12 = .ok (.if_icmp .le 9, 3) := by decide +kernel
theorem dX12_readsShare_15 : decode cX12_readsShare 15 = .ok (.aload_n 0, 1) := by decide +kernel
theorem dX12_readsShare_16 : decode cX12_readsShare 16 = .ok (.iconst 3, 1) := by decide +kernel
theorem dX12_readsShare_17 : decode cX12_readsShare 17 = .ok (.invokevirtual 222, 3) := by decide +kernel
theorem dX12_readsShare_20 : decode cX12_readsShare 20 = .ok (.ireturn, 1) := by decide +kernel
theorem dX12_readsShare_21 : decode cX12_readsShare 21 = .ok (.aload_n 0, 1) := by decide +kernel
theorem dX12_readsShare_22 : decode cX12_readsShare 22 = .ok (.invokevirtual 229, 3) := by decide +kernel
theorem dX12_readsShare_25 : decode cX12_readsShare 25 = .ok (.aload_n 0, 1) := by decide +kernel
theorem dX12_readsShare_26 : decode cX12_readsShare 26 = .ok (.getfield 53, 3) := by decide +kernel
theorem dX12_readsShare_29 : decode cX12_readsShare 29 = .ok (.iconst 1, 1) := by decide +kernel
theorem dX12_readsShare_30 : decode cX12_readsShare 30 = .ok (.aload_n 0, 1) := by decide +kernel
theorem dX12_readsShare_31 : decode cX12_readsShare 31 = .ok (.getfield 195, 3) := by decide +kernel
theorem dX12_readsShare_34 : decode cX12_readsShare 34 = .ok (.iastore, 1) := by decide +kernel
theorem dX12_readsShare_35 : decode cX12_readsShare 35 = .ok (.aload_n 0, 1) := by decide +kernel
theorem dX12_readsShare_36 : decode cX12_readsShare 36 = .ok (.invokevirtual 338, 3) := by decide +kernel
theorem dX12_readsShare_39 : decode cX12_readsShare 39 = .ok (.ifCond .ne 5, 3) := by decide +kernel
theorem dX12_readsShare_42 : decode cX12_readsShare 42 = .ok (.iconst 0, 1) := by decide +kernel
theorem dX12_readsShare_43 : decode cX12_readsShare 43 = .ok (.ireturn, 1) := by decide +kernel
theorem dX12_readsShare_44 : decode cX12_readsShare 44 = .ok (.aload_n 0, 1) := by decide +kernel
theorem dX12_readsShare_45 : decode cX12_readsShare 45 = .ok (.getfield 56, 3) := by decide +kernel
theorem dX12_readsShare_48 : decode cX12_readsShare 48 = .ok (.iconst 1, 1) := by decide +kernel
theorem dX12_readsShare_49 : decode cX12_readsShare 49 = .ok (.aload_n 0, 1) := by decide +kernel
theorem dX12_readsShare_50 : decode cX12_readsShare 50 = .ok (.getfield 195, 3) := by decide +kernel
theorem dX12_readsShare_53 : decode cX12_readsShare 53 = .ok (.iastore, 1) := by decide +kernel
theorem dX12_readsShare_54 : decode cX12_readsShare 54 = .ok (.iconst 1, 1) := by decide +kernel
theorem dX12_readsShare_55 : decode cX12_readsShare 55 = .ok (.ireturn, 1) := by decide +kernel
theorem dX12_starts_0 : decode cX12_starts 0 = .ok (.aload_n 0, 1) := by decide +kernel
theorem dX12_starts_1 : decode cX12_starts 1 = .ok (.aload_n 0, 1) := by decide +kernel
theorem dX12_starts_2 : decode cX12_starts 2 = .ok (.getfield 162, 3) := by decide +kernel
theorem dX12_starts_5 : decode cX12_starts 5 = .ok (.putfield 165, 3) := by decide +kernel
theorem dX12_starts_8 : decode cX12_starts 8 = .ok (.aload_n 0, 1) := by decide +kernel
theorem dX12_starts_9 : decode cX12_starts 9 = .ok (.iconst 0, 1) := by decide +kernel
theorem dX12_starts_10 : decode cX12_starts 10 = .ok (.putfield 162, 3) := by decide +kernel
theorem dX12_starts_13 : decode cX12_starts 13 = .ok (.aload_n 0, 1) := by decide +kernel
theorem dX12_starts_14 : decode cX12_starts 14 = .ok (.iconst 0, 1) := by decide +kernel
theorem dX12_starts_15 : decode cX12_starts 15 = .ok (.putfield 168, 3) := by decide +kernel
theorem dX12_starts_18 : decode cX12_starts 18 = .ok (.aload_n 0, 1) := by decide +kernel
theorem dX12_starts_19 : decode cX12_starts 19 = .ok (.invokevirtual 229, 3) := by decide +kernel
theorem dX12_starts_22 : decode cX12_starts 22 = .ok (.return_, 1) := by decide +kernel
theorem dX12_readsAll_0 : decode cX12_readsAll 0 = .ok (.iconst 5, 1) := by decide +kernel
theorem dX12_readsAll_1 : decode cX12_readsAll 1 = .ok (.istore_n 1, 1) := by decide +kernel
theorem dX12_readsAll_2 : decode cX12_readsAll 2 = .ok (.iload_n 1, 1) := by decide +kernel
theorem dX12_readsAll_3 : decode cX12_readsAll 3 = .ok (.bipush 10, 2) := by decide +kernel
theorem dX12_readsAll_5 : decode cX12_readsAll 5 = .ok (.if_icmp .ge 26, 3) := by decide +kernel
theorem dX12_readsAll_8 : decode cX12_readsAll 8 = .ok (.aload_n 0, 1) := by decide +kernel
theorem dX12_readsAll_9 : decode cX12_readsAll 9 = .ok (.getfield 13, 3) := by decide +kernel
theorem dX12_readsAll_12 : decode cX12_readsAll 12 = .ok (.iload_n 1, 1) := by decide +kernel
theorem dX12_readsAll_13 : decode cX12_readsAll 13 = .ok (.iload_n 1, 1) := by decide +kernel
theorem dX12_readsAll_14 : decode cX12_readsAll 14 = .ok (.bipush 9, 2) := by decide +kernel
theorem dX12_readsAll_16 : decode cX12_readsAll 16 = .ok (.if_icmp .ne 7, 3) := by decide +kernel
theorem dX12_readsAll_19 : decode cX12_readsAll 19 = .ok (.iconst 2, 1) := by decide +kernel
theorem dX12_readsAll_20 : decode cX12_readsAll 20 = .ok (.goto 4, 3) := by decide +kernel
theorem dX12_readsAll_23 : decode cX12_readsAll 23 = .ok (.iconst 0, 1) := by decide +kernel
theorem dX12_readsAll_24 : decode cX12_readsAll 24 = .ok (.iastore, 1) := by decide +kernel
theorem dX12_readsAll_25 : decode cX12_readsAll 25 = .ok (.iinc 1 1, 3) := by decide +kernel
theorem dX12_readsAll_28 : decode cX12_readsAll 28 = .ok (.goto (-26), 3) := by decide +kernel
theorem dX12_readsAll_31 : decode cX12_readsAll 31 = .ok (.aload_n 0, 1) := by decide +kernel
theorem dX12_readsAll_32 : decode cX12_readsAll 32 = .ok (.getfield 53, 3) := by decide +kernel
theorem dX12_readsAll_35 : decode cX12_readsAll 35 = .ok (.iconst 1, 1) := by decide +kernel
theorem dX12_readsAll_36 : decode cX12_readsAll 36 = .ok (.sipush 1000, 3) := by decide +kernel
theorem dX12_readsAll_39 : decode cX12_readsAll 39 = .ok (.iastore, 1) := by decide +kernel
theorem dX12_readsAll_40 : decode cX12_readsAll 40 = .ok (.aload_n 0, 1) := by decide +kernel
theorem dX12_readsAll_41 : decode cX12_readsAll 41 = .ok (.getfield 56, 3) := by decide +kernel
theorem dX12_readsAll_44 : decode cX12_readsAll 44 = .ok (.iconst 1, 1) := by decide +kernel
theorem dX12_readsAll_45 : decode cX12_readsAll 45 = .ok (.sipush 1000, 3) := by decide +kernel
theorem dX12_readsAll_48 : decode cX12_readsAll 48 = .ok (.iastore, 1) := by decide +kernel
theorem dX12_readsAll_49 : decode cX12_readsAll 49 = .ok (.aload_n 0, 1) := by decide +kernel
theorem dX12_readsAll_50 : decode cX12_readsAll 50 = .ok (.iconst 0, 1) := by decide +kernel
theorem dX12_readsAll_51 : decode cX12_readsAll 51 = .ok (.putfield 319, 3) := by decide +kernel
theorem dX12_readsAll_54 : decode cX12_readsAll 54 = .ok (.aload_n 0, 1) := by decide +kernel
theorem dX12_readsAll_55 : decode cX12_readsAll 55 = .ok (.sipush 1000, 3) := by decide +kernel
theorem dX12_readsAll_58 : decode cX12_readsAll 58 = .ok (.putfield 195, 3) := by decide +kernel
theorem dX12_readsAll_61 : decode cX12_readsAll 61 = .ok (.aload_n 0, 1) := by decide +kernel
theorem dX12_readsAll_62 : decode cX12_readsAll 62 = .ok (.invokevirtual 341, 3) := by decide +kernel
theorem dX12_readsAll_65 : decode cX12_readsAll 65 = .ok (.aload_n 0, 1) := by decide +kernel
theorem dX12_readsAll_66 : decode cX12_readsAll 66 = .ok (.getfield 181, 3) := by decide +kernel
theorem dX12_readsAll_69 : decode cX12_readsAll 69 = .ok (.ifCond .eq 144, 3) := by decide +kernel
theorem dX12_readsAll_72 : decode cX12_readsAll 72 = .ok (.aload_n 0, 1) := by decide +kernel
theorem dX12_readsAll_73 : decode cX12_readsAll 73 = .ok (.ldc2_w 245, 3) := by decide +kernel
theorem dX12_readsAll_76 : decode cX12_readsAll 76 = .ok (.invokevirtual 214, 3) := by decide +kernel
theorem dX12_readsAll_79 : decode cX12_readsAll 79 = .ok (.ifCond .eq 10, 3) := by decide +kernel
theorem dX12_readsAll_82 : decode cX12_readsAll 82 = .ok (.aload_n 0, 1) := by decide +kernel
theorem dX12_readsAll_83 : decode cX12_readsAll 83 = .ok (.invokevirtual 344, 3) := by decide +kernel
theorem dX12_readsAll_86 : decode cX12_readsAll 86 = .ok (.goto 117, 3) := by decide +kernel
theorem dX12_readsAll_89 : decode cX12_readsAll 89 = .ok (.aload_n 0, 1) := by decide +kernel
theorem dX12_readsAll_90 : decode cX12_readsAll 90 = .ok (.ldc2_w 253, 3) := by decide +kernel
theorem dX12_readsAll_93 : decode cX12_readsAll 93 = .ok (.invokevirtual 214, 3) := by decide +kernel
theorem dX12_readsAll_96 : decode cX12_readsAll 96 = .ok (.ifCond .eq 10, 3) := by decide +kernel
theorem dX12_readsAll_99 : decode cX12_readsAll 99 = .ok (.aload_n 0, 1) := by decide +kernel
theorem dX12_readsAll_100 : decode cX12_readsAll 100 = .ok (.invokevirtual 347, 3) := by decide +kernel
theorem dX12_readsAll_103 : decode cX12_readsAll 103 = .ok (.goto 100, 3) := by decide +kernel
theorem dX12_readsAll_106 : decode cX12_readsAll 106 = .ok (.aload_n 0, 1) := by decide +kernel
theorem dX12_readsAll_107 : decode cX12_readsAll 107 = .ok (.ldc2_w 261, 3) := by decide +kernel
theorem dX12_readsAll_110 : decode cX12_readsAll 110 = .ok (.invokevirtual 214, 3) := by decide +kernel
theorem dX12_readsAll_113 : decode cX12_readsAll 113 = .ok (.ifCond .eq 10, 3) := by decide +kernel
theorem dX12_readsAll_116 : decode cX12_readsAll 116 = .ok (.aload_n 0, 1) := by decide +kernel
theorem dX12_readsAll_117 : decode cX12_readsAll 117 = .ok (.invokevirtual 350, 3) := by decide +kernel
theorem dX12_readsAll_120 : decode cX12_readsAll 120 = .ok (.goto 83, 3) := by decide +kernel
theorem dX12_readsAll_123 : decode cX12_readsAll 123 = .ok (.aload_n 0, 1) := by decide +kernel
theorem dX12_readsAll_124 : decode cX12_readsAll 124 = .ok (.ldc2_w 263, 3) := by decide +kernel
theorem dX12_readsAll_127 : decode cX12_readsAll 127 = .ok (.invokevirtual 214, 3) := by decide +kernel
theorem dX12_readsAll_130 : decode cX12_readsAll 130 = .ok (.ifCond .eq 10, 3) := by decide +kernel
theorem dX12_readsAll_133 : decode cX12_readsAll 133 = .ok (.aload_n 0, 1) := by decide +kernel
theorem dX12_readsAll_134 : decode cX12_readsAll 134 = .ok (.invokevirtual 353, 3) := by decide +kernel
theorem dX12_readsAll_137 : decode cX12_readsAll 137 = .ok (.goto 66, 3) := by decide +kernel
theorem dX12_readsAll_140 : decode cX12_readsAll 140 = .ok (.aload_n 0, 1) := by decide +kernel
theorem dX12_readsAll_141 : decode cX12_readsAll 141 = .ok (.ldc2_w 269, 3) := by decide +kernel
theorem dX12_readsAll_144 : decode cX12_readsAll 144 = .ok (.invokevirtual 214, 3) := by decide +kernel
theorem dX12_readsAll_147 : decode cX12_readsAll 147 = .ok (.ifCond .eq 14, 3) := by decide +kernel
theorem dX12_readsAll_150 : decode cX12_readsAll 150 = .ok (.aload_n 0, 1) := by decide +kernel
theorem dX12_readsAll_151 : decode cX12_readsAll 151 = .ok (.iconst 3, 1) := by decide +kernel
theorem dX12_readsAll_152 : decode cX12_readsAll 152 = .ok (.sipush 999, 3) := by decide +kernel
theorem dX12_readsAll_155 : decode cX12_readsAll 155 = .ok (.invokevirtual 356, 3) := by decide +kernel
theorem dX12_readsAll_158 : decode cX12_readsAll 158 = .ok (.goto 45, 3) := by decide +kernel
theorem dX12_readsAll_161 : decode cX12_readsAll 161 = .ok (.aload_n 0, 1) := by decide +kernel
theorem dX12_readsAll_162 : decode cX12_readsAll 162 = .ok (.ldc2_w 271, 3) := by decide +kernel
theorem dX12_readsAll_165 : decode cX12_readsAll 165 = .ok (.invokevirtual 214, 3) := by decide +kernel
theorem dX12_readsAll_168 : decode cX12_readsAll 168 = .ok (.ifCond .eq 13, 3) := by decide +kernel
theorem dX12_readsAll_171 : decode cX12_readsAll 171 = .ok (.aload_n 0, 1) := by decide +kernel
theorem dX12_readsAll_172 : decode cX12_readsAll 172 = .ok (.iconst 4, 1) := by decide +kernel
theorem dX12_readsAll_173 : decode cX12_readsAll 173 = .ok (.bipush 7, 2) := by decide +kernel
theorem dX12_readsAll_175 : decode cX12_readsAll 175 = .ok (.invokevirtual 356, 3) := by decide +kernel
theorem dX12_readsAll_178 : decode cX12_readsAll 178 = .ok (.goto 25, 3) := by decide +kernel
theorem dX12_readsAll_181 : decode cX12_readsAll 181 = .ok (.aload_n 0, 1) := by decide +kernel
theorem dX12_readsAll_182 : decode cX12_readsAll 182 = .ok (.ldc2_w 273, 3) := by decide +kernel
theorem dX12_readsAll_185 : decode cX12_readsAll 185 = .ok (.invokevirtual 214, 3) := by decide +kernel
theorem dX12_readsAll_188 : decode cX12_readsAll 188 = .ok (.ifCond .eq 10, 3) := by decide +kernel
theorem dX12_readsAll_191 : decode cX12_readsAll 191 = .ok (.aload_n 0, 1) := by decide +kernel
theorem dX12_readsAll_192 : decode cX12_readsAll 192 = .ok (.invokevirtual 359, 3) := by decide +kernel
theorem dX12_readsAll_195 : decode cX12_readsAll 195 = .ok (.goto 8, 3) := by decide +kernel
theorem dX12_readsAll_198 : decode cX12_readsAll 198 = .ok (.aload_n 0, 1) := by decide +kernel
theorem dX12_readsAll_199 : decode cX12_readsAll 199 = .ok (.iconst 1, 1) := by decide +kernel
theorem dX12_readsAll_200 : decode cX12_readsAll 200 = .ok (.invokevirtual 222, 3) := by decide +kernel
theorem dX12_readsAll_203 : decode cX12_readsAll 203 = .ok (.istore_n 1, 1) := by decide +kernel
theorem dX12_readsAll_204 : decode cX12_readsAll 204 = .ok (.iload_n 1, 1) := by decide +kernel
theorem dX12_readsAll_205 : decode cX12_readsAll 205 = .ok (.ifCond .ne 5, 3) := by decide +kernel
theorem dX12_readsAll_208 : decode cX12_readsAll 208 = .ok (.iconst 0, 1) := by decide +kernel
theorem dX12_readsAll_209 : decode cX12_readsAll 209 = .ok (.ireturn, 1) := by decide +kernel
theorem dX12_readsAll_210 : decode cX12_readsAll 210 = .ok (.goto (-145), 3) := by decide +kernel
theorem dX12_readsAll_213 : decode cX12_readsAll 213 = .ok (.iconst 1, 1) := by decide +kernel
theorem dX12_readsAll_214 : decode cX12_readsAll 214 = .ok (.ireturn, 1) := by decide +kernel
theorem dX12_moves_0 : decode cX12_moves 0 = .ok (.iconst 0, 1) := by decide +kernel
theorem dX12_moves_1 : decode cX12_moves 1 = .ok (.istore_n 2, 1) := by decide +kernel
theorem dX12_moves_2 : decode cX12_moves 2 = .ok (.iload_n 2, 1) := by decide +kernel
theorem dX12_moves_3 : decode cX12_moves 3 = .ok (.iload_n 1, 1) := by decide +kernel
theorem dX12_moves_4 : decode cX12_moves 4 = .ok (.if_icmp .ge 17, 3) := by decide +kernel
theorem dX12_moves_7 : decode cX12_moves 7 = .ok (.aload_n 0, 1) := by decide +kernel
theorem dX12_moves_8 : decode cX12_moves 8 = .ok (.iload_n 2, 1) := by decide +kernel
theorem dX12_moves_9 : decode cX12_moves 9 = .ok (.aload_n 0, 1) := by decide +kernel
theorem dX12_moves_10 : decode cX12_moves 10 = .ok (.iload_n 1, 1) := by decide +kernel
theorem dX12_moves_11 : decode cX12_moves 11 = .ok (.iload_n 2, 1) := by decide +kernel
theorem dX12_moves_12 : decode cX12_moves 12 = .ok (.iadd, 1) := by decide +kernel
theorem dX12_moves_13 : decode cX12_moves 13 = .ok (.iaload, 1) := by decide +kernel
theorem dX12_moves_14 : decode cX12_moves 14 = .ok (.iastore, 1) := by decide +kernel
theorem dX12_moves_15 : decode cX12_moves 15 = .ok (.iinc 2 1, 3) := by decide +kernel
theorem dX12_moves_18 : decode cX12_moves 18 = .ok (.goto (-16), 3) := by decide +kernel
theorem dX12_moves_21 : decode cX12_moves 21 = .ok (.return_, 1) := by decide +kernel
theorem dX12_movesNames_0 : decode cX12_movesNames 0 = .ok (.iconst 0, 1) := by decide +kernel
theorem dX12_movesNames_1 : decode cX12_movesNames 1 = .ok (.istore_n 2, 1) := by decide +kernel
theorem dX12_movesNames_2 : decode cX12_movesNames 2 = .ok (.iload_n 2, 1) := by decide +kernel
theorem dX12_movesNames_3 : decode cX12_movesNames 3 = .ok (.iload_n 1, 1) := by decide +kernel
theorem dX12_movesNames_4 : decode cX12_movesNames 4 = .ok (.if_icmp .ge 17, 3) := by decide +kernel
theorem dX12_movesNames_7 : decode cX12_movesNames 7 = .ok (.aload_n 0, 1) := by decide +kernel
theorem dX12_movesNames_8 : decode cX12_movesNames 8 = .ok (.iload_n 2, 1) := by decide +kernel
theorem dX12_movesNames_9 : decode cX12_movesNames 9 = .ok (.aload_n 0, 1) := by decide +kernel
theorem dX12_movesNames_10 : decode cX12_movesNames 10 = .ok (.iload_n 1, 1) := by decide +kernel
theorem dX12_movesNames_11 : decode cX12_movesNames 11 = .ok (.iload_n 2, 1) := by decide +kernel
theorem dX12_movesNames_12 : decode cX12_movesNames 12 = .ok (.iadd, 1) := by decide +kernel
theorem dX12_movesNames_13 : decode cX12_movesNames 13 = .ok (.laload, 1) := by decide +kernel
theorem dX12_movesNames_14 : decode cX12_movesNames 14 = .ok (.lastore, 1) := by decide +kernel
theorem dX12_movesNames_15 : decode cX12_movesNames 15 = .ok (.iinc 2 1, 3) := by decide +kernel
theorem dX12_movesNames_18 : decode cX12_movesNames 18 = .ok (.goto (-16), 3) := by decide +kernel
theorem dX12_movesNames_21 : decode cX12_movesNames 21 = .ok (.return_, 1) := by decide +kernel
theorem dX12_lays_0 : decode cX12_lays 0 = .ok (.aload_n 0, 1) := by decide +kernel
theorem dX12_lays_1 : decode cX12_lays 1 = .ok (.getfield 13, 3) := by decide +kernel
theorem dX12_lays_4 : decode cX12_lays 4 = .ok (.iconst 5, 1) := by decide +kernel
theorem dX12_lays_5 : decode cX12_lays 5 = .ok (.invokestatic 362, 3) := by decide +kernel
theorem dX12_lays_8 : decode cX12_lays 8 = .ok (.aload_n 0, 1) := by decide +kernel
theorem dX12_lays_9 : decode cX12_lays 9 = .ok (.getfield 16, 3) := by decide +kernel
theorem dX12_lays_12 : decode cX12_lays 12 = .ok (.bipush 6, 2) := by decide +kernel
theorem dX12_lays_14 : decode cX12_lays 14 = .ok (.invokestatic 366, 3) := by decide +kernel
theorem dX12_lays_17 : decode cX12_lays 17 = .ok (.aload_n 0, 1) := by decide +kernel
theorem dX12_lays_18 : decode cX12_lays 18 = .ok (.getfield 20, 3) := by decide +kernel
theorem dX12_lays_21 : decode cX12_lays 21 = .ok (.iconst 5, 1) := by decide +kernel
theorem dX12_lays_22 : decode cX12_lays 22 = .ok (.invokestatic 366, 3) := by decide +kernel
theorem dX12_lays_25 : decode cX12_lays 25 = .ok (.aload_n 0, 1) := by decide +kernel
theorem dX12_lays_26 : decode cX12_lays 26 = .ok (.getfield 23, 3) := by decide +kernel
theorem dX12_lays_29 : decode cX12_lays 29 = .ok (.bipush 6, 2) := by decide +kernel
theorem dX12_lays_31 : decode cX12_lays 31 = .ok (.invokestatic 362, 3) := by decide +kernel
theorem dX12_lays_34 : decode cX12_lays 34 = .ok (.aload_n 0, 1) := by decide +kernel
theorem dX12_lays_35 : decode cX12_lays 35 = .ok (.getfield 26, 3) := by decide +kernel
theorem dX12_lays_38 : decode cX12_lays 38 = .ok (.bipush 6, 2) := by decide +kernel
theorem dX12_lays_40 : decode cX12_lays 40 = .ok (.invokestatic 362, 3) := by decide +kernel
theorem dX12_lays_43 : decode cX12_lays 43 = .ok (.aload_n 0, 1) := by decide +kernel
theorem dX12_lays_44 : decode cX12_lays 44 = .ok (.getfield 29, 3) := by decide +kernel
theorem dX12_lays_47 : decode cX12_lays 47 = .ok (.bipush 6, 2) := by decide +kernel
theorem dX12_lays_49 : decode cX12_lays 49 = .ok (.invokestatic 362, 3) := by decide +kernel
theorem dX12_lays_52 : decode cX12_lays 52 = .ok (.aload_n 0, 1) := by decide +kernel
theorem dX12_lays_53 : decode cX12_lays 53 = .ok (.getfield 32, 3) := by decide +kernel
theorem dX12_lays_56 : decode cX12_lays 56 = .ok (.bipush 6, 2) := by decide +kernel
theorem dX12_lays_58 : decode cX12_lays 58 = .ok (.invokestatic 362, 3) := by decide +kernel
theorem dX12_lays_61 : decode cX12_lays 61 = .ok (.aload_n 0, 1) := by decide +kernel
theorem dX12_lays_62 : decode cX12_lays 62 = .ok (.getfield 35, 3) := by decide +kernel
theorem dX12_lays_65 : decode cX12_lays 65 = .ok (.bipush 6, 2) := by decide +kernel
theorem dX12_lays_67 : decode cX12_lays 67 = .ok (.invokestatic 362, 3) := by decide +kernel
theorem dX12_lays_70 : decode cX12_lays 70 = .ok (.aload_n 0, 1) := by decide +kernel
theorem dX12_lays_71 : decode cX12_lays 71 = .ok (.getfield 38, 3) := by decide +kernel
theorem dX12_lays_74 : decode cX12_lays 74 = .ok (.bipush 6, 2) := by decide +kernel
theorem dX12_lays_76 : decode cX12_lays 76 = .ok (.invokestatic 362, 3) := by decide +kernel
theorem dX12_lays_79 : decode cX12_lays 79 = .ok (.aload_n 0, 1) := by decide +kernel
theorem dX12_lays_80 : decode cX12_lays 80 = .ok (.getfield 41, 3) := by decide +kernel
theorem dX12_lays_83 : decode cX12_lays 83 = .ok (.iconst 5, 1) := by decide +kernel
theorem dX12_lays_84 : decode cX12_lays 84 = .ok (.invokestatic 362, 3) := by decide +kernel
theorem dX12_lays_87 : decode cX12_lays 87 = .ok (.aload_n 0, 1) := by decide +kernel
theorem dX12_lays_88 : decode cX12_lays 88 = .ok (.getfield 44, 3) := by decide +kernel
theorem dX12_lays_91 : decode cX12_lays 91 = .ok (.iconst 5, 1) := by decide +kernel
theorem dX12_lays_92 : decode cX12_lays 92 = .ok (.invokestatic 362, 3) := by decide +kernel
theorem dX12_lays_95 : decode cX12_lays 95 = .ok (.aload_n 0, 1) := by decide +kernel
theorem dX12_lays_96 : decode cX12_lays 96 = .ok (.getfield 47, 3) := by decide +kernel
theorem dX12_lays_99 : decode cX12_lays 99 = .ok (.iconst 5, 1) := by decide +kernel
theorem dX12_lays_100 : decode cX12_lays 100 = .ok (.invokestatic 362, 3) := by decide +kernel
theorem dX12_lays_103 : decode cX12_lays 103 = .ok (.aload_n 0, 1) := by decide +kernel
theorem dX12_lays_104 : decode cX12_lays 104 = .ok (.getfield 50, 3) := by decide +kernel
theorem dX12_lays_107 : decode cX12_lays 107 = .ok (.bipush 6, 2) := by decide +kernel
theorem dX12_lays_109 : decode cX12_lays 109 = .ok (.invokestatic 362, 3) := by decide +kernel
theorem dX12_lays_112 : decode cX12_lays 112 = .ok (.aload_n 0, 1) := by decide +kernel
theorem dX12_lays_113 : decode cX12_lays 113 = .ok (.getfield 59, 3) := by decide +kernel
theorem dX12_lays_116 : decode cX12_lays 116 = .ok (.sipush 1000, 3) := by decide +kernel
theorem dX12_lays_119 : decode cX12_lays 119 = .ok (.invokestatic 362, 3) := by decide +kernel
theorem dX12_lays_122 : decode cX12_lays 122 = .ok (.aload_n 0, 1) := by decide +kernel
theorem dX12_lays_123 : decode cX12_lays 123 = .ok (.getfield 53, 3) := by decide +kernel
theorem dX12_lays_126 : decode cX12_lays 126 = .ok (.iconst 0, 1) := by decide +kernel
theorem dX12_lays_127 : decode cX12_lays 127 = .ok (.aload_n 0, 1) := by decide +kernel
theorem dX12_lays_128 : decode cX12_lays 128 = .ok (.getfield 53, 3) := by decide +kernel
theorem dX12_lays_131 : decode cX12_lays 131 = .ok (.iconst 1, 1) := by decide +kernel
theorem dX12_lays_132 : decode cX12_lays 132 = .ok (.iaload, 1) := by decide +kernel
theorem dX12_lays_133 : decode cX12_lays 133 = .ok (.sipush 1000, 3) := by decide +kernel
theorem dX12_lays_136 : decode cX12_lays 136 = .ok (.isub, 1) := by decide +kernel
theorem dX12_lays_137 : decode cX12_lays 137 = .ok (.iastore, 1) := by decide +kernel
theorem dX12_lays_138 : decode cX12_lays 138 = .ok (.aload_n 0, 1) := by decide +kernel
theorem dX12_lays_139 : decode cX12_lays 139 = .ok (.getfield 56, 3) := by decide +kernel
theorem dX12_lays_142 : decode cX12_lays 142 = .ok (.iconst 0, 1) := by decide +kernel
theorem dX12_lays_143 : decode cX12_lays 143 = .ok (.aload_n 0, 1) := by decide +kernel
theorem dX12_lays_144 : decode cX12_lays 144 = .ok (.getfield 56, 3) := by decide +kernel
theorem dX12_lays_147 : decode cX12_lays 147 = .ok (.iconst 1, 1) := by decide +kernel
theorem dX12_lays_148 : decode cX12_lays 148 = .ok (.iaload, 1) := by decide +kernel
theorem dX12_lays_149 : decode cX12_lays 149 = .ok (.sipush 1000, 3) := by decide +kernel
theorem dX12_lays_152 : decode cX12_lays 152 = .ok (.isub, 1) := by decide +kernel
theorem dX12_lays_153 : decode cX12_lays 153 = .ok (.iastore, 1) := by decide +kernel
theorem dX12_lays_154 : decode cX12_lays 154 = .ok (.return_, 1) := by decide +kernel
theorem dX12_copies_0 : decode cX12_copies 0 = .ok (.iconst 0, 1) := by decide +kernel
theorem dX12_copies_1 : decode cX12_copies 1 = .ok (.istore 4, 2) := by decide +kernel
theorem dX12_copies_3 : decode cX12_copies 3 = .ok (.iload 4, 2) := by decide +kernel
theorem dX12_copies_5 : decode cX12_copies 5 = .ok (.bipush 21, 2) := by decide +kernel
theorem dX12_copies_7 : decode cX12_copies 7 = .ok (.if_icmp .ge 21, 3) := by decide +kernel
theorem dX12_copies_10 : decode cX12_copies 10 = .ok (.aload_n 2, 1) := by decide +kernel
theorem dX12_copies_11 : decode cX12_copies 11 = .ok (.iload_n 3, 1) := by decide +kernel
theorem dX12_copies_12 : decode cX12_copies 12 = .ok (.iload 4, 2) := by decide +kernel
theorem dX12_copies_14 : decode cX12_copies 14 = .ok (.iadd, 1) := by decide +kernel
theorem dX12_copies_15 : decode cX12_copies 15 = .ok (.aload_n 0, 1) := by decide +kernel
theorem dX12_copies_16 : decode cX12_copies 16 = .ok (.iload_n 1, 1) := by decide +kernel
theorem dX12_copies_17 : decode cX12_copies 17 = .ok (.iload 4, 2) := by decide +kernel
theorem dX12_copies_19 : decode cX12_copies 19 = .ok (.iadd, 1) := by decide +kernel
theorem dX12_copies_20 : decode cX12_copies 20 = .ok (.iaload, 1) := by decide +kernel
theorem dX12_copies_21 : decode cX12_copies 21 = .ok (.iastore, 1) := by decide +kernel
theorem dX12_copies_22 : decode cX12_copies 22 = .ok (.iinc 4 1, 3) := by decide +kernel
theorem dX12_copies_25 : decode cX12_copies 25 = .ok (.goto (-22), 3) := by decide +kernel
theorem dX12_copies_28 : decode cX12_copies 28 = .ok (.return_, 1) := by decide +kernel
theorem dX12_readsMeal_0 : decode cX12_readsMeal 0 = .ok (.aload_n 0, 1) := by decide +kernel
theorem dX12_readsMeal_1 : decode cX12_readsMeal 1 = .ok (.iconst 0, 1) := by decide +kernel
theorem dX12_readsMeal_2 : decode cX12_readsMeal 2 = .ok (.invokevirtual 332, 3) := by decide +kernel
theorem dX12_readsMeal_5 : decode cX12_readsMeal 5 = .ok (.ifCond .ne 5, 3) := by decide +kernel
theorem dX12_readsMeal_8 : decode cX12_readsMeal 8 = .ok (.iconst 0, 1) := by decide +kernel
theorem dX12_readsMeal_9 : decode cX12_readsMeal 9 = .ok (.ireturn, 1) := by decide +kernel
theorem dX12_readsMeal_10 : decode cX12_readsMeal 10 = .ok (.aload_n 0, 1) := by decide +kernel
theorem dX12_readsMeal_11 : decode cX12_readsMeal 11 = .ok (.getfield 105, 3) := by decide +kernel
theorem dX12_readsMeal_14 : decode cX12_readsMeal 14 = .ok (.iload_n 1, 1) := by decide +kernel
theorem dX12_readsMeal_15 : decode cX12_readsMeal 15 = .ok (.aload_n 0, 1) := by decide +kernel
theorem dX12_readsMeal_16 : decode cX12_readsMeal 16 = .ok (.getfield 297, 3) := by decide +kernel
theorem dX12_readsMeal_19 : decode cX12_readsMeal 19 = .ok (.iastore, 1) := by decide +kernel
theorem dX12_readsMeal_20 : decode cX12_readsMeal 20 = .ok (.aload_n 0, 1) := by decide +kernel
theorem dX12_readsMeal_21 : decode cX12_readsMeal 21 = .ok (.invokevirtual 229, 3) := by decide +kernel
theorem dX12_readsMeal_24 : decode cX12_readsMeal 24 = .ok (.aload_n 0, 1) := by decide +kernel
theorem dX12_readsMeal_25 : decode cX12_readsMeal 25 = .ok (.iconst 0, 1) := by decide +kernel
theorem dX12_readsMeal_26 : decode cX12_readsMeal 26 = .ok (.invokevirtual 370, 3) := by decide +kernel
theorem dX12_readsMeal_29 : decode cX12_readsMeal 29 = .ok (.ifCond .ne 5, 3) := by decide +kernel
theorem dX12_readsMeal_32 : decode cX12_readsMeal 32 = .ok (.iconst 0, 1) := by decide +kernel
theorem dX12_readsMeal_33 : decode cX12_readsMeal 33 = .ok (.ireturn, 1) := by decide +kernel
theorem dX12_readsMeal_34 : decode cX12_readsMeal 34 = .ok (.aload_n 0, 1) := by decide +kernel
theorem dX12_readsMeal_35 : decode cX12_readsMeal 35 = .ok (.getfield 108, 3) := by decide +kernel
theorem dX12_readsMeal_38 : decode cX12_readsMeal 38 = .ok (.iload_n 1, 1) := by decide +kernel
theorem dX12_readsMeal_39 : decode cX12_readsMeal 39 = .ok (.aload_n 0, 1) := by decide +kernel
theorem dX12_readsMeal_40 : decode cX12_readsMeal 40 = .ok (.getfield 297, 3) := by decide +kernel
theorem dX12_readsMeal_43 : decode cX12_readsMeal 43 = .ok (.iastore, 1) := by decide +kernel
theorem dX12_readsMeal_44 : decode cX12_readsMeal 44 = .ok (.aload_n 0, 1) := by decide +kernel
theorem dX12_readsMeal_45 : decode cX12_readsMeal 45 = .ok (.invokevirtual 229, 3) := by decide +kernel
theorem dX12_readsMeal_48 : decode cX12_readsMeal 48 = .ok (.aload_n 0, 1) := by decide +kernel
theorem dX12_readsMeal_49 : decode cX12_readsMeal 49 = .ok (.getfield 111, 3) := by decide +kernel
theorem dX12_readsMeal_52 : decode cX12_readsMeal 52 = .ok (.iload_n 1, 1) := by decide +kernel
theorem dX12_readsMeal_53 : decode cX12_readsMeal 53 = .ok (.iconst 0, 1) := by decide +kernel
theorem dX12_readsMeal_54 : decode cX12_readsMeal 54 = .ok (.bastore, 1) := by decide +kernel
theorem dX12_readsMeal_55 : decode cX12_readsMeal 55 = .ok (.aload_n 0, 1) := by decide +kernel
theorem dX12_readsMeal_56 : decode cX12_readsMeal 56 = .ok (.getfield 102, 3) := by decide +kernel
theorem dX12_readsMeal_59 : decode cX12_readsMeal 59 = .ok (.iload_n 1, 1) := by decide +kernel
theorem dX12_readsMeal_60 : decode cX12_readsMeal 60 = .ok (.iaload, 1) := by decide +kernel
theorem dX12_readsMeal_61 : decode cX12_readsMeal 61 = .ok (.iconst 1, 1) := by decide +kernel
theorem dX12_readsMeal_62 : decode cX12_readsMeal 62 = .ok (.if_icmp .ne 5, 3) := by decide +kernel
theorem dX12_readsMeal_65 : decode cX12_readsMeal 65 = .ok (.iconst 1, 1) := by decide +kernel
theorem dX12_readsMeal_66 : decode cX12_readsMeal 66 = .ok (.ireturn, 1) := by decide +kernel
theorem dX12_readsMeal_67 : decode cX12_readsMeal 67 = .ok (.aload_n 0, 1) := by decide +kernel
theorem dX12_readsMeal_68 : decode cX12_readsMeal 68 = .ok (.getfield 111, 3) := by decide +kernel
theorem dX12_readsMeal_71 : decode cX12_readsMeal 71 = .ok (.iload_n 1, 1) := by decide +kernel
theorem dX12_readsMeal_72 : decode cX12_readsMeal 72 = .ok (.aload_n 0, 1) := by decide +kernel
theorem dX12_readsMeal_73 : decode cX12_readsMeal 73 = .ok (.ldc2_w 281, 3) := by decide +kernel
theorem dX12_readsMeal_76 : decode cX12_readsMeal 76 = .ok (.invokevirtual 214, 3) := by decide +kernel
theorem dX12_readsMeal_79 : decode cX12_readsMeal 79 = .ok (.bastore, 1) := by decide +kernel
theorem dX12_readsMeal_80 : decode cX12_readsMeal 80 = .ok (.aload_n 0, 1) := by decide +kernel
theorem dX12_readsMeal_81 : decode cX12_readsMeal 81 = .ok (.getfield 111, 3) := by decide +kernel
theorem dX12_readsMeal_84 : decode cX12_readsMeal 84 = .ok (.iload_n 1, 1) := by decide +kernel
theorem dX12_readsMeal_85 : decode cX12_readsMeal 85 = .ok (.baload, 1) := by decide +kernel
theorem dX12_readsMeal_86 : decode cX12_readsMeal 86 = .ok (.ifCond .ne 19, 3) := by decide +kernel
theorem dX12_readsMeal_89 : decode cX12_readsMeal 89 = .ok (.aload_n 0, 1) := by decide +kernel
theorem dX12_readsMeal_90 : decode cX12_readsMeal 90 = .ok (.ldc2_w 283, 3) := by decide +kernel
theorem dX12_readsMeal_93 : decode cX12_readsMeal 93 = .ok (.invokevirtual 214, 3) := by decide +kernel
theorem dX12_readsMeal_96 : decode cX12_readsMeal 96 = .ok (.ifCond .ne 9, 3) := by decide +kernel
theorem dX12_readsMeal_99 : decode cX12_readsMeal 99 = .ok (.aload_n 0, 1) := by decide +kernel
theorem dX12_readsMeal_100 : decode cX12_readsMeal 100 = .ok (.iconst 1, 1) := by decide +kernel
theorem dX12_readsMeal_101 : decode cX12_readsMeal 101 = .ok (.invokevirtual 222, 3) := by decide +kernel
theorem dX12_readsMeal_104 : decode cX12_readsMeal 104 = .ok (.ireturn, 1) := by decide +kernel
theorem dX12_readsMeal_105 : decode cX12_readsMeal 105 = .ok (.aload_n 0, 1) := by decide +kernel
theorem dX12_readsMeal_106 : decode cX12_readsMeal 106 = .ok (.invokevirtual 229, 3) := by decide +kernel
theorem dX12_readsMeal_109 : decode cX12_readsMeal 109 = .ok (.iconst 1, 1) := by decide +kernel
theorem dX12_readsMeal_110 : decode cX12_readsMeal 110 = .ok (.ireturn, 1) := by decide +kernel
theorem dX12_readsLine_0 : decode cX12_readsLine 0 = .ok (.aload_n 0, 1) := by decide +kernel
theorem dX12_readsLine_1 : decode cX12_readsLine 1 = .ok (.ldc2_w 275, 3) := by decide +kernel
theorem dX12_readsLine_4 : decode cX12_readsLine 4 = .ok (.invokevirtual 214, 3) := by decide +kernel
theorem dX12_readsLine_7 : decode cX12_readsLine 7 = .ok (.ifCond .eq 7, 3) := by decide +kernel
theorem dX12_readsLine_10 : decode cX12_readsLine 10 = .ok (.iconst 0, 1) := by decide +kernel
theorem dX12_readsLine_11 : decode cX12_readsLine 11 = .ok (.goto 32, 3) := by decide +kernel
theorem dX12_readsLine_14 : decode cX12_readsLine 14 = .ok (.aload_n 0, 1) := by decide +kernel
theorem dX12_readsLine_15 : decode cX12_readsLine 15 = .ok (.ldc2_w 277, 3) := by decide +kernel
theorem dX12_readsLine_18 : decode cX12_readsLine 18 = .ok (.invokevirtual 214, 3) := by decide +kernel
theorem dX12_readsLine_21 : decode cX12_readsLine 21 = .ok (.ifCond .eq 7, 3) := by decide +kernel
theorem dX12_readsLine_24 : decode cX12_readsLine 24 = .ok (.iconst 1, 1) := by decide +kernel
theorem dX12_readsLine_25 : decode cX12_readsLine 25 = .ok (.goto 18, 3) := by decide +kernel
theorem dX12_readsLine_28 : decode cX12_readsLine 28 = .ok (.aload_n 0, 1) := by decide +kernel
theorem dX12_readsLine_29 : decode cX12_readsLine 29 = .ok (.ldc2_w 279, 3) := by decide +kernel
theorem dX12_readsLine_32 : decode cX12_readsLine 32 = .ok (.invokevirtual 214, 3) := by decide +kernel
theorem dX12_readsLine_35 : decode cX12_readsLine 35 = .ok (.ifCond .eq 7, 3) := by decide +kernel
theorem dX12_readsLine_38 : decode cX12_readsLine 38 = .ok (.iconst 2, 1) := by decide +kernel
theorem dX12_readsLine_39 : decode cX12_readsLine 39 = .ok (.goto 4, 3) := by decide +kernel
theorem dX12_readsLine_42 : decode cX12_readsLine 42 = .ok (.iconst (-1), 1) := by decide +kernel
theorem dX12_readsLine_43 : decode cX12_readsLine 43 = .ok (.istore_n 1, 1) := by decide +kernel
theorem dX12_readsLine_44 : decode cX12_readsLine 44 = .ok (.iload_n 1, 1) := by decide +kernel
theorem dX12_readsLine_45 : decode cX12_readsLine 45 = .ok (.ifCond .ge 9, 3) := by decide +kernel
theorem dX12_readsLine_48 : decode cX12_readsLine 48 = .ok (.aload_n 0, 1) := by decide +kernel
theorem dX12_readsLine_49 : decode cX12_readsLine 49 = .ok (.iconst 1, 1) := by decide +kernel
theorem dX12_readsLine_50 : decode cX12_readsLine 50 = .ok (.invokevirtual 222, 3) := by decide +kernel
theorem dX12_readsLine_53 : decode cX12_readsLine 53 = .ok (.ireturn, 1) := by decide +kernel
theorem dX12_readsLine_54 : decode cX12_readsLine 54 = .ok (.aload_n 0, 1) := by decide +kernel
theorem dX12_readsLine_55 : decode cX12_readsLine 55 = .ok (.getfield 99, 3) := by decide +kernel
theorem dX12_readsLine_58 : decode cX12_readsLine 58 = .ok (.iconst 5, 1) := by decide +kernel
theorem dX12_readsLine_59 : decode cX12_readsLine 59 = .ok (.iaload, 1) := by decide +kernel
theorem dX12_readsLine_60 : decode cX12_readsLine 60 = .ok (.bipush 40, 2) := by decide +kernel
theorem dX12_readsLine_62 : decode cX12_readsLine 62 = .ok (.if_icmp .ne 9, 3) := by decide +kernel
theorem dX12_readsLine_65 : decode cX12_readsLine 65 = .ok (.aload_n 0, 1) := by decide +kernel
theorem dX12_readsLine_66 : decode cX12_readsLine 66 = .ok (.iconst 5, 1) := by decide +kernel
theorem dX12_readsLine_67 : decode cX12_readsLine 67 = .ok (.invokevirtual 222, 3) := by decide +kernel
theorem dX12_readsLine_70 : decode cX12_readsLine 70 = .ok (.ireturn, 1) := by decide +kernel
theorem dX12_readsLine_71 : decode cX12_readsLine 71 = .ok (.aload_n 0, 1) := by decide +kernel
theorem dX12_readsLine_72 : decode cX12_readsLine 72 = .ok (.invokevirtual 229, 3) := by decide +kernel
theorem dX12_readsLine_75 : decode cX12_readsLine 75 = .ok (.sipush 200, 3) := by decide +kernel
theorem dX12_readsLine_78 : decode cX12_readsLine 78 = .ok (.aload_n 0, 1) := by decide +kernel
theorem dX12_readsLine_79 : decode cX12_readsLine 79 = .ok (.getfield 99, 3) := by decide +kernel
theorem dX12_readsLine_82 : decode cX12_readsLine 82 = .ok (.iconst 5, 1) := by decide +kernel
theorem dX12_readsLine_83 : decode cX12_readsLine 83 = .ok (.iaload, 1) := by decide +kernel
theorem dX12_readsLine_84 : decode cX12_readsLine 84 = .ok (.iadd, 1) := by decide +kernel
theorem dX12_readsLine_85 : decode cX12_readsLine 85 = .ok (.istore_n 2, 1) := by decide +kernel
theorem dX12_readsLine_86 : decode cX12_readsLine 86 = .ok (.aload_n 0, 1) := by decide +kernel
theorem dX12_readsLine_87 : decode cX12_readsLine 87 = .ok (.getfield 102, 3) := by decide +kernel
theorem dX12_readsLine_90 : decode cX12_readsLine 90 = .ok (.iload_n 2, 1) := by decide +kernel
theorem dX12_readsLine_91 : decode cX12_readsLine 91 = .ok (.iload_n 1, 1) := by decide +kernel
theorem dX12_readsLine_92 : decode cX12_readsLine 92 = .ok (.iastore, 1) := by decide +kernel
theorem dX12_readsLine_93 : decode cX12_readsLine 93 = .ok (.iload_n 1, 1) := by decide +kernel
theorem dX12_readsLine_94 : decode cX12_readsLine 94 = .ok (.iconst 2, 1) := by decide +kernel
theorem dX12_readsLine_95 : decode cX12_readsLine 95 = .ok (.if_icmp .eq 13, 3) := by decide +kernel
theorem dX12_readsLine_98 : decode cX12_readsLine 98 = .ok (.aload_n 0, 1) := by decide +kernel
theorem dX12_readsLine_99 : decode cX12_readsLine 99 = .ok (.iload_n 2, 1) := by decide +kernel
theorem dX12_readsLine_100 : decode cX12_readsLine 100 = .ok (.invokevirtual 373, 3) := by decide +kernel
theorem dX12_readsLine_103 : decode cX12_readsLine 103 = .ok (.ifCond .ne 5, 3) := by decide +kernel
theorem dX12_readsLine_106 : decode cX12_readsLine 106 = .ok (.iconst 0, 1) := by decide +kernel
theorem dX12_readsLine_107 : decode cX12_readsLine 107 = .ok (.ireturn, 1) := by decide +kernel
theorem dX12_readsLine_108 : decode cX12_readsLine 108 = .ok (.aload_n 0, 1) := by decide +kernel
theorem dX12_readsLine_109 : decode cX12_readsLine 109 = .ok (.getfield 99, 3) := by decide +kernel
theorem dX12_readsLine_112 : decode cX12_readsLine 112 = .ok (.iconst 5, 1) := by decide +kernel
theorem dX12_readsLine_113 : decode cX12_readsLine 113 = .ok (.dup2, 1) := by decide +kernel
theorem dX12_readsLine_114 : decode cX12_readsLine 114 = .ok (.iaload, 1) := by decide +kernel
theorem dX12_readsLine_115 : decode cX12_readsLine 115 = .ok (.iconst 1, 1) := by decide +kernel
theorem dX12_readsLine_116 : decode cX12_readsLine 116 = .ok (.iadd, 1) := by decide +kernel
theorem dX12_readsLine_117 : decode cX12_readsLine 117 = .ok (.iastore, 1) := by decide +kernel
theorem dX12_readsLine_118 : decode cX12_readsLine 118 = .ok (.aload_n 0, 1) := by decide +kernel
theorem dX12_readsLine_119 : decode cX12_readsLine 119 = .ok (.invokevirtual 329, 3) := by decide +kernel
theorem dX12_readsLine_122 : decode cX12_readsLine 122 = .ok (.ireturn, 1) := by decide +kernel
theorem dX12_laysLines_0 : decode cX12_laysLines 0 = .ok (.aload_n 0, 1) := by decide +kernel
theorem dX12_laysLines_1 : decode cX12_laysLines 1 = .ok (.getfield 99, 3) := by decide +kernel
theorem dX12_laysLines_4 : decode cX12_laysLines 4 = .ok (.iload_n 2, 1) := by decide +kernel
theorem dX12_laysLines_5 : decode cX12_laysLines 5 = .ok (.aload_n 0, 1) := by decide +kernel
theorem dX12_laysLines_6 : decode cX12_laysLines 6 = .ok (.getfield 99, 3) := by decide +kernel
theorem dX12_laysLines_9 : decode cX12_laysLines 9 = .ok (.iload_n 1, 1) := by decide +kernel
theorem dX12_laysLines_10 : decode cX12_laysLines 10 = .ok (.iaload, 1) := by decide +kernel
theorem dX12_laysLines_11 : decode cX12_laysLines 11 = .ok (.iastore, 1) := by decide +kernel
theorem dX12_laysLines_12 : decode cX12_laysLines 12 = .ok (.iconst 0, 1) := by decide +kernel
theorem dX12_laysLines_13 : decode cX12_laysLines 13 = .ok (.istore_n 3, 1) := by decide +kernel
theorem dX12_laysLines_14 : decode cX12_laysLines 14 = .ok (.iload_n 3, 1) := by decide +kernel
theorem dX12_laysLines_15 : decode cX12_laysLines 15 = .ok (.bipush 40, 2) := by decide +kernel
theorem dX12_laysLines_17 : decode cX12_laysLines 17 = .ok (.if_icmp .ge 97, 3) := by decide +kernel
theorem dX12_laysLines_20 : decode cX12_laysLines 20 = .ok (.aload_n 0, 1) := by decide +kernel
theorem dX12_laysLines_21 : decode cX12_laysLines 21 = .ok (.getfield 102, 3) := by decide +kernel
theorem dX12_laysLines_24 : decode cX12_laysLines 24 = .ok (.bipush 40, 2) := by decide +kernel
theorem dX12_laysLines_26 : decode cX12_laysLines 26 = .ok (.iload_n 2, 1) := by decide +kernel
theorem dX12_laysLines_27 : decode cX12_laysLines 27 = .ok (.imul, 1) := by decide +kernel
theorem dX12_laysLines_28 : decode cX12_laysLines 28 = .ok (.iload_n 3, 1) := by decide +kernel
theorem dX12_laysLines_29 : decode cX12_laysLines 29 = .ok (.iadd, 1) := by decide +kernel
theorem dX12_laysLines_30 : decode cX12_laysLines 30 = .ok (.aload_n 0, 1) := by decide +kernel
theorem dX12_laysLines_31 : decode cX12_laysLines 31 = .ok (.getfield 102, 3) := by decide +kernel
theorem dX12_laysLines_34 : decode cX12_laysLines 34 = .ok (.bipush 40, 2) := by decide +kernel
theorem dX12_laysLines_36 : decode cX12_laysLines 36 = .ok (.iload_n 1, 1) := by decide +kernel
theorem dX12_laysLines_37 : decode cX12_laysLines 37 = .ok (.imul, 1) := by decide +kernel
theorem dX12_laysLines_38 : decode cX12_laysLines 38 = .ok (.iload_n 3, 1) := by decide +kernel
theorem dX12_laysLines_39 : decode cX12_laysLines 39 = .ok (.iadd, 1) := by decide +kernel
theorem dX12_laysLines_40 : decode cX12_laysLines 40 = .ok (.iaload, 1) := by decide +kernel
theorem dX12_laysLines_41 : decode cX12_laysLines 41 = .ok (.iastore, 1) := by decide +kernel
theorem dX12_laysLines_42 : decode cX12_laysLines 42 = .ok (.aload_n 0, 1) := by decide +kernel
theorem dX12_laysLines_43 : decode cX12_laysLines 43 = .ok (.getfield 105, 3) := by decide +kernel
theorem dX12_laysLines_46 : decode cX12_laysLines 46 = .ok (.bipush 40, 2) := by decide +kernel
theorem dX12_laysLines_48 : decode cX12_laysLines 48 = .ok (.iload_n 2, 1) := by decide +kernel
theorem dX12_laysLines_49 : decode cX12_laysLines 49 = .ok (.imul, 1) := by decide +kernel
theorem dX12_laysLines_50 : decode cX12_laysLines 50 = .ok (.iload_n 3, 1) := by decide +kernel
theorem dX12_laysLines_51 : decode cX12_laysLines 51 = .ok (.iadd, 1) := by decide +kernel
theorem dX12_laysLines_52 : decode cX12_laysLines 52 = .ok (.aload_n 0, 1) := by decide +kernel
theorem dX12_laysLines_53 : decode cX12_laysLines 53 = .ok (.getfield 105, 3) := by decide +kernel
theorem dX12_laysLines_56 : decode cX12_laysLines 56 = .ok (.bipush 40, 2) := by decide +kernel
theorem dX12_laysLines_58 : decode cX12_laysLines 58 = .ok (.iload_n 1, 1) := by decide +kernel
theorem dX12_laysLines_59 : decode cX12_laysLines 59 = .ok (.imul, 1) := by decide +kernel
theorem dX12_laysLines_60 : decode cX12_laysLines 60 = .ok (.iload_n 3, 1) := by decide +kernel
theorem dX12_laysLines_61 : decode cX12_laysLines 61 = .ok (.iadd, 1) := by decide +kernel
theorem dX12_laysLines_62 : decode cX12_laysLines 62 = .ok (.iaload, 1) := by decide +kernel
theorem dX12_laysLines_63 : decode cX12_laysLines 63 = .ok (.iastore, 1) := by decide +kernel
theorem dX12_laysLines_64 : decode cX12_laysLines 64 = .ok (.aload_n 0, 1) := by decide +kernel
theorem dX12_laysLines_65 : decode cX12_laysLines 65 = .ok (.getfield 108, 3) := by decide +kernel
theorem dX12_laysLines_68 : decode cX12_laysLines 68 = .ok (.bipush 40, 2) := by decide +kernel
theorem dX12_laysLines_70 : decode cX12_laysLines 70 = .ok (.iload_n 2, 1) := by decide +kernel
theorem dX12_laysLines_71 : decode cX12_laysLines 71 = .ok (.imul, 1) := by decide +kernel
theorem dX12_laysLines_72 : decode cX12_laysLines 72 = .ok (.iload_n 3, 1) := by decide +kernel
theorem dX12_laysLines_73 : decode cX12_laysLines 73 = .ok (.iadd, 1) := by decide +kernel
theorem dX12_laysLines_74 : decode cX12_laysLines 74 = .ok (.aload_n 0, 1) := by decide +kernel
theorem dX12_laysLines_75 : decode cX12_laysLines 75 = .ok (.getfield 108, 3) := by decide +kernel
theorem dX12_laysLines_78 : decode cX12_laysLines 78 = .ok (.bipush 40, 2) := by decide +kernel
theorem dX12_laysLines_80 : decode cX12_laysLines 80 = .ok (.iload_n 1, 1) := by decide +kernel
theorem dX12_laysLines_81 : decode cX12_laysLines 81 = .ok (.imul, 1) := by decide +kernel
theorem dX12_laysLines_82 : decode cX12_laysLines 82 = .ok (.iload_n 3, 1) := by decide +kernel
theorem dX12_laysLines_83 : decode cX12_laysLines 83 = .ok (.iadd, 1) := by decide +kernel
theorem dX12_laysLines_84 : decode cX12_laysLines 84 = .ok (.iaload, 1) := by decide +kernel
theorem dX12_laysLines_85 : decode cX12_laysLines 85 = .ok (.iastore, 1) := by decide +kernel
theorem dX12_laysLines_86 : decode cX12_laysLines 86 = .ok (.aload_n 0, 1) := by decide +kernel
theorem dX12_laysLines_87 : decode cX12_laysLines 87 = .ok (.getfield 111, 3) := by decide +kernel
theorem dX12_laysLines_90 : decode cX12_laysLines 90 = .ok (.bipush 40, 2) := by decide +kernel
theorem dX12_laysLines_92 : decode cX12_laysLines 92 = .ok (.iload_n 2, 1) := by decide +kernel
theorem dX12_laysLines_93 : decode cX12_laysLines 93 = .ok (.imul, 1) := by decide +kernel
theorem dX12_laysLines_94 : decode cX12_laysLines 94 = .ok (.iload_n 3, 1) := by decide +kernel
theorem dX12_laysLines_95 : decode cX12_laysLines 95 = .ok (.iadd, 1) := by decide +kernel
theorem dX12_laysLines_96 : decode cX12_laysLines 96 = .ok (.aload_n 0, 1) := by decide +kernel
theorem dX12_laysLines_97 : decode cX12_laysLines 97 = .ok (.getfield 111, 3) := by decide +kernel
theorem dX12_laysLines_100 : decode cX12_laysLines 100 = .ok (.bipush 40, 2) := by decide +kernel
theorem dX12_laysLines_102 : decode cX12_laysLines 102 = .ok (.iload_n 1, 1) := by decide +kernel
theorem dX12_laysLines_103 : decode cX12_laysLines 103 = .ok (.imul, 1) := by decide +kernel
theorem dX12_laysLines_104 : decode cX12_laysLines 104 = .ok (.iload_n 3, 1) := by decide +kernel
theorem dX12_laysLines_105 : decode cX12_laysLines 105 = .ok (.iadd, 1) := by decide +kernel
theorem dX12_laysLines_106 : decode cX12_laysLines 106 = .ok (.baload, 1) := by decide +kernel
theorem dX12_laysLines_107 : decode cX12_laysLines 107 = .ok (.bastore, 1) := by decide +kernel
theorem dX12_laysLines_108 : decode cX12_laysLines 108 = .ok (.iinc 3 1, 3) := by decide +kernel
theorem dX12_laysLines_111 : decode cX12_laysLines 111 = .ok (.goto (-97), 3) := by decide +kernel
theorem dX12_laysLines_114 : decode cX12_laysLines 114 = .ok (.return_, 1) := by decide +kernel
theorem dX12_laysTold_0 : decode cX12_laysTold 0 = .ok (.iconst 0, 1) := by decide +kernel
theorem dX12_laysTold_1 : decode cX12_laysTold 1 = .ok (.istore_n 3, 1) := by decide +kernel
theorem dX12_laysTold_2 : decode cX12_laysTold 2 = .ok (.iload_n 3, 1) := by decide +kernel
theorem dX12_laysTold_3 : decode cX12_laysTold 3 = .ok (.bipush 6, 2) := by decide +kernel
