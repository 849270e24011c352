theorem dX1_standOn_0 : decode cX1_standOn 0 = .ok (.aload_n 0, 1) := by decide +kernel
theorem dX1_standOn_1 : decode cX1_standOn 1 = .ok (.aload_n 1, 1) := by decide +kernel
theorem dX1_standOn_2 : decode cX1_standOn 2 = .ok (.putfield 30, 3) := by decide +kernel
theorem dX1_standOn_5 : decode cX1_standOn 5 = .ok (.aload_n 0, 1) := by decide +kernel
theorem dX1_standOn_6 : decode cX1_standOn 6 = .ok (.aload_n 2, 1) := by decide +kernel
theorem dX1_standOn_7 : decode cX1_standOn 7 = .ok (.putfield 34, 3) := by decide +kernel
theorem dX1_standOn_10 : decode cX1_standOn 10 = .ok (.aload_n 0, 1) := by decide +kernel
theorem dX1_standOn_11 : decode cX1_standOn 11 = .ok (.aload_n 3, 1) := by decide +kernel
theorem dX1_standOn_12 : decode cX1_standOn 12 = .ok (.putfield 21, 3) := by decide +kernel
theorem dX1_standOn_15 : decode cX1_standOn 15 = .ok (.aload_n 0, 1) := by decide +kernel
theorem dX1_standOn_16 : decode cX1_standOn 16 = .ok (.aload 4, 2) := by decide +kernel
theorem dX1_standOn_18 : decode cX1_standOn 18 = .ok (.putfield 24, 3) := by decide +kernel
theorem dX1_standOn_21 : decode cX1_standOn 21 = .ok (.aload_n 0, 1) := by decide +kernel
theorem dX1_standOn_22 : decode cX1_standOn 22 = .ok (.aload 5, 2) := by decide +kernel
theorem dX1_standOn_24 : decode cX1_standOn 24 = .ok (.putfield 27, 3) := by decide +kernel
theorem dX1_standOn_27 : decode cX1_standOn 27 = .ok (.return_, 1) := by decide +kernel
theorem dX1_readyToAsk_0 : decode cX1_readyToAsk 0 = .ok (.aload_n 0, 1) := by decide +kernel
theorem dX1_readyToAsk_1 : decode cX1_readyToAsk 1 = .ok (.iconst 1, 1) := by decide +kernel
theorem dX1_readyToAsk_2 : decode cX1_readyToAsk 2 = .ok (.putfield 38, 3) := by decide +kernel
theorem dX1_readyToAsk_5 : decode cX1_readyToAsk 5 = .ok (.aload_n 0, 1) := by decide +kernel
theorem dX1_readyToAsk_6 : decode cX1_readyToAsk 6 = .ok (.iload_n 2, 1) := by decide +kernel
theorem dX1_readyToAsk_7 : decode cX1_readyToAsk 7 = .ok (.putfield 42, 3) := by decide +kernel
theorem dX1_readyToAsk_10 : decode cX1_readyToAsk 10 = .ok (.aload_n 0, 1) := by decide +kernel
theorem dX1_readyToAsk_11 : decode cX1_readyToAsk 11 = .ok (.iconst 0, 1) := by decide +kernel
theorem dX1_readyToAsk_12 : decode cX1_readyToAsk 12 = .ok (.putfield 46, 3) := by decide +kernel
theorem dX1_readyToAsk_15 : decode cX1_readyToAsk 15 = .ok (.aload_n 0, 1) := by decide +kernel
theorem dX1_readyToAsk_16 : decode cX1_readyToAsk 16 = .ok (.iload_n 1, 1) := by decide +kernel
theorem dX1_readyToAsk_17 : decode cX1_readyToAsk 17 = .ok (.putfield 49, 3) := by decide +kernel
theorem dX1_readyToAsk_20 : decode cX1_readyToAsk 20 = .ok (.return_, 1) := by decide +kernel
theorem dX1_readyToCall_0 : decode cX1_readyToCall 0 = .ok (.aload_n 0, 1) := by decide +kernel
theorem dX1_readyToCall_1 : decode cX1_readyToCall 1 = .ok (.iconst 0, 1) := by decide +kernel
theorem dX1_readyToCall_2 : decode cX1_readyToCall 2 = .ok (.putfield 38, 3) := by decide +kernel
theorem dX1_readyToCall_5 : decode cX1_readyToCall 5 = .ok (.aload_n 0, 1) := by decide +kernel
theorem dX1_readyToCall_6 : decode cX1_readyToCall 6 = .ok (.iconst 0, 1) := by decide +kernel
theorem dX1_readyToCall_7 : decode cX1_readyToCall 7 = .ok (.putfield 42, 3) := by decide +kernel
theorem dX1_readyToCall_10 : decode cX1_readyToCall 10 = .ok (.aload_n 0, 1) := by decide +kernel
theorem dX1_readyToCall_11 : decode cX1_readyToCall 11 = .ok (.iconst 1, 1) := by decide +kernel
theorem dX1_readyToCall_12 : decode cX1_readyToCall 12 = .ok (.putfield 46, 3) := by decide +kernel
theorem dX1_readyToCall_15 : decode cX1_readyToCall 15 = .ok (.aload_n 0, 1) := by decide +kernel
theorem dX1_readyToCall_16 : decode cX1_readyToCall 16 = .ok (.aload_n 1, 1) := by decide +kernel
theorem dX1_readyToCall_17 : decode cX1_readyToCall 17 = .ok (.getfield 52, 3) := by decide +kernel
theorem dX1_readyToCall_20 : decode cX1_readyToCall 20 = .ok (.putfield 49, 3) := by decide +kernel
theorem dX1_readyToCall_23 : decode cX1_readyToCall 23 = .ok (.return_, 1) := by decide +kernel
theorem dX1_go_0 : decode cX1_go 0 = .ok (.aload_n 0, 1) := by decide +kernel
theorem dX1_go_1 : decode cX1_go 1 = .ok (.invokevirtual 57, 3) := by decide +kernel
theorem dX1_go_4 : decode cX1_go 4 = .ok (.iconst 0, 1) := by decide +kernel
theorem dX1_go_5 : decode cX1_go 5 = .ok (.istore_n 1, 1) := by decide +kernel
theorem dX1_go_6 : decode cX1_go 6 = .ok (.iload_n 1, 1) := by decide +kernel
theorem dX1_go_7 : decode cX1_go 7 = .ok (.ldc 60, 2) := by decide +kernel
theorem dX1_go_9 : decode cX1_go 9 = .ok (.if_icmp .ge 305, 3) := by decide +kernel
theorem dX1_go_12 : decode cX1_go 12 = .ok (.aload_n 0, 1) := by decide +kernel
theorem dX1_go_13 : decode cX1_go 13 = .ok (.getfield 61, 3) := by decide +kernel
theorem dX1_go_16 : decode cX1_go 16 = .ok (.ifCond .ne 298, 3) := by decide +kernel
theorem dX1_go_19 : decode cX1_go 19 = .ok (.aload_n 0, 1) := by decide +kernel
theorem dX1_go_20 : decode cX1_go 20 = .ok (.getfield 49, 3) := by decide +kernel
theorem dX1_go_23 : decode cX1_go 23 = .ok (.ifCond .lt 21, 3) := by decide +kernel
theorem dX1_go_26 : decode cX1_go 26 = .ok (.aload_n 0, 1) := by decide +kernel
theorem dX1_go_27 : decode cX1_go 27 = .ok (.getfield 49, 3) := by decide +kernel
theorem dX1_go_30 : decode cX1_go 30 = .ok (.aload_n 0, 1) := by decide +kernel
theorem dX1_go_31 : decode cX1_go 31 = .ok (.getfield 30, 3) := by decide +kernel
theorem dX1_go_34 : decode cX1_go 34 = .ok (.getfield 64, 3) := by decide +kernel
theorem dX1_go_37 : decode cX1_go 37 = .ok (.if_icmp .ge 7, 3) := by decide +kernel
theorem dX1_go_40 : decode cX1_go 40 = .ok (.iconst 1, 1) := by decide +kernel
theorem dX1_go_41 : decode cX1_go 41 = .ok (.goto 4, 3) := by decide +kernel
theorem dX1_go_44 : decode cX1_go 44 = .ok (.iconst 0, 1) := by decide +kernel
theorem dX1_go_45 : decode cX1_go 45 = .ok (.istore_n 2, 1) := by decide +kernel
theorem dX1_go_46 : decode cX1_go 46 = .ok (.iload_n 2, 1) := by decide +kernel
theorem dX1_go_47 : decode cX1_go 47 = .ok (.ifCond .eq 18, 3) := by decide +kernel
theorem dX1_go_50 : decode cX1_go 50 = .ok (.aload_n 0, 1) := by decide +kernel
theorem dX1_go_51 : decode cX1_go 51 = .ok (.getfield 30, 3) := by decide +kernel
theorem dX1_go_54 : decode cX1_go 54 = .ok (.getfield 69, 3) := by decide +kernel
theorem dX1_go_57 : decode cX1_go 57 = .ok (.aload_n 0, 1) := by decide +kernel
theorem dX1_go_58 : decode cX1_go 58 = .ok (.getfield 49, 3) := by decide +kernel
theorem dX1_go_61 : decode cX1_go 61 = .ok (.iaload, 1) := by decide +kernel
theorem dX1_go_62 : decode cX1_go 62 = .ok (.goto 5, 3) := by decide +kernel
theorem dX1_go_65 : decode cX1_go 65 = .ok (.bipush 19, 2) := by decide +kernel
theorem dX1_go_67 : decode cX1_go 67 = .ok (.istore_n 3, 1) := by decide +kernel
theorem dX1_go_68 : decode cX1_go 68 = .ok (.iload_n 2, 1) := by decide +kernel
theorem dX1_go_69 : decode cX1_go 69 = .ok (.ifCond .eq 18, 3) := by decide +kernel
theorem dX1_go_72 : decode cX1_go 72 = .ok (.aload_n 0, 1) := by decide +kernel
theorem dX1_go_73 : decode cX1_go 73 = .ok (.getfield 30, 3) := by decide +kernel
theorem dX1_go_76 : decode cX1_go 76 = .ok (.getfield 72, 3) := by decide +kernel
theorem dX1_go_79 : decode cX1_go 79 = .ok (.aload_n 0, 1) := by decide +kernel
theorem dX1_go_80 : decode cX1_go 80 = .ok (.getfield 49, 3) := by decide +kernel
theorem dX1_go_83 : decode cX1_go 83 = .ok (.iaload, 1) := by decide +kernel
theorem dX1_go_84 : decode cX1_go 84 = .ok (.goto 4, 3) := by decide +kernel
theorem dX1_go_87 : decode cX1_go 87 = .ok (.iconst 0, 1) := by decide +kernel
theorem dX1_go_88 : decode cX1_go 88 = .ok (.istore 4, 2) := by decide +kernel
theorem dX1_go_90 : decode cX1_go 90 = .ok (.aload_n 0, 1) := by decide +kernel
theorem dX1_go_91 : decode cX1_go 91 = .ok (.dup, 1) := by decide +kernel
theorem dX1_go_92 : decode cX1_go 92 = .ok (.getfield 49, 3) := by decide +kernel
theorem dX1_go_95 : decode cX1_go 95 = .ok (.iconst 1, 1) := by decide +kernel
theorem dX1_go_96 : decode cX1_go 96 = .ok (.iadd, 1) := by decide +kernel
theorem dX1_go_97 : decode cX1_go 97 = .ok (.putfield 49, 3) := by decide +kernel
theorem dX1_go_100 : decode cX1_go 100 = .ok (.iload_n 3, 1) := by decide +kernel
theorem dX1_go_101 : decode cX1_go 101 = .ok (.iconst 5, 1) := by decide +kernel
theorem dX1_go_102 : decode cX1_go 102 = .ok (.if_icmp .gt 17, 3) := by decide +kernel
theorem dX1_go_105 : decode cX1_go 105 = .ok (.aload_n 0, 1) := by decide +kernel
theorem dX1_go_106 : decode cX1_go 106 = .ok (.aload_n 0, 1) := by decide +kernel
theorem dX1_go_107 : decode cX1_go 107 = .ok (.iload_n 3, 1) := by decide +kernel
theorem dX1_go_108 : decode cX1_go 108 = .ok (.iload 4, 2) := by decide +kernel
theorem dX1_go_110 : decode cX1_go 110 = .ok (.invokevirtual 75, 3) := by decide +kernel
theorem dX1_go_113 : decode cX1_go 113 = .ok (.invokevirtual 79, 3) := by decide +kernel
theorem dX1_go_116 : decode cX1_go 116 = .ok (.goto 192, 3) := by decide +kernel
theorem dX1_go_119 : decode cX1_go 119 = .ok (.iload_n 3, 1) := by decide +kernel
theorem dX1_go_120 : decode cX1_go 120 = .ok (.bipush 11, 2) := by decide +kernel
theorem dX1_go_122 : decode cX1_go 122 = .ok (.if_icmp .gt 21, 3) := by decide +kernel
theorem dX1_go_125 : decode cX1_go 125 = .ok (.aload_n 0, 1) := by decide +kernel
theorem dX1_go_126 : decode cX1_go 126 = .ok (.aload_n 0, 1) := by decide +kernel
theorem dX1_go_127 : decode cX1_go 127 = .ok (.iload_n 3, 1) := by decide +kernel
theorem dX1_go_128 : decode cX1_go 128 = .ok (.iload 4, 2) := by decide +kernel
theorem dX1_go_130 : decode cX1_go 130 = .ok (.aload_n 0, 1) := by decide +kernel
theorem dX1_go_131 : decode cX1_go 131 = .ok (.invokevirtual 83, 3) := by decide +kernel
theorem dX1_go_134 : decode cX1_go 134 = .ok (.invokevirtual 87, 3) := by decide +kernel
theorem dX1_go_137 : decode cX1_go 137 = .ok (.invokevirtual 79, 3) := by decide +kernel
theorem dX1_go_140 : decode cX1_go 140 = .ok (.goto 168, 3) := by decide +kernel
theorem dX1_go_143 : decode cX1_go 143 = .ok (.iload_n 3, 1) := by decide +kernel
theorem dX1_go_144 : decode cX1_go 144 = .ok (.bipush 16, 2) := by decide +kernel
theorem dX1_go_146 : decode cX1_go 146 = .ok (.if_icmp .gt 13, 3) := by decide +kernel
theorem dX1_go_149 : decode cX1_go 149 = .ok (.aload_n 0, 1) := by decide +kernel
theorem dX1_go_150 : decode cX1_go 150 = .ok (.iload_n 3, 1) := by decide +kernel
theorem dX1_go_151 : decode cX1_go 151 = .ok (.iload 4, 2) := by decide +kernel
theorem dX1_go_153 : decode cX1_go 153 = .ok (.invokevirtual 91, 3) := by decide +kernel
theorem dX1_go_156 : decode cX1_go 156 = .ok (.goto 152, 3) := by decide +kernel
theorem dX1_go_159 : decode cX1_go 159 = .ok (.iload_n 3, 1) := by decide +kernel
theorem dX1_go_160 : decode cX1_go 160 = .ok (.bipush 17, 2) := by decide +kernel
theorem dX1_go_162 : decode cX1_go 162 = .ok (.if_icmp .ne 36, 3) := by decide +kernel
theorem dX1_go_165 : decode cX1_go 165 = .ok (.aload_n 0, 1) := by decide +kernel
theorem dX1_go_166 : decode cX1_go 166 = .ok (.iload 4, 2) := by decide +kernel
theorem dX1_go_168 : decode cX1_go 168 = .ok (.aload_n 0, 1) := by decide +kernel
theorem dX1_go_169 : decode cX1_go 169 = .ok (.getfield 34, 3) := by decide +kernel
theorem dX1_go_172 : decode cX1_go 172 = .ok (.getfield 95, 3) := by decide +kernel
theorem dX1_go_175 : decode cX1_go 175 = .ok (.if_icmp .ge 16, 3) := by decide +kernel
theorem dX1_go_178 : decode cX1_go 178 = .ok (.aload_n 0, 1) := by decide +kernel
theorem dX1_go_179 : decode cX1_go 179 = .ok (.getfield 34, 3) := by decide +kernel
theorem dX1_go_182 : decode cX1_go 182 = .ok (.getfield 100, 3) := by decide +kernel
theorem dX1_go_185 : decode cX1_go 185 = .ok (.iload 4, 2) := by decide +kernel
theorem dX1_go_187 : decode cX1_go 187 = .ok (.iaload, 1) := by decide +kernel
theorem dX1_go_188 : decode cX1_go 188 = .ok (.goto 4, 3) := by decide +kernel
theorem dX1_go_191 : decode cX1_go 191 = .ok (.iconst (-1), 1) := by decide +kernel
theorem dX1_go_192 : decode cX1_go 192 = .ok (.invokevirtual 103, 3) := by decide +kernel
theorem dX1_go_195 : decode cX1_go 195 = .ok (.goto 113, 3) := by decide +kernel
theorem dX1_go_198 : decode cX1_go 198 = .ok (.iload_n 3, 1) := by decide +kernel
theorem dX1_go_199 : decode cX1_go 199 = .ok (.bipush 18, 2) := by decide +kernel
theorem dX1_go_201 : decode cX1_go 201 = .ok (.if_icmp .ne 12, 3) := by decide +kernel
theorem dX1_go_204 : decode cX1_go 204 = .ok (.aload_n 0, 1) := by decide +kernel
theorem dX1_go_205 : decode cX1_go 205 = .ok (.iload 4, 2) := by decide +kernel
theorem dX1_go_207 : decode cX1_go 207 = .ok (.invokevirtual 103, 3) := by decide +kernel
theorem dX1_go_210 : decode cX1_go 210 = .ok (.goto 98, 3) := by decide +kernel
theorem dX1_go_213 : decode cX1_go 213 = .ok (.iload_n 3, 1) := by decide +kernel
theorem dX1_go_214 : decode cX1_go 214 = .ok (.bipush 19, 2) := by decide +kernel
theorem dX1_go_216 : decode cX1_go 216 = .ok (.if_icmp .ne 11, 3) := by decide +kernel
theorem dX1_go_219 : decode cX1_go 219 = .ok (.aload_n 0, 1) := by decide +kernel
theorem dX1_go_220 : decode cX1_go 220 = .ok (.iconst 0, 1) := by decide +kernel
theorem dX1_go_221 : decode cX1_go 221 = .ok (.invokevirtual 106, 3) := by decide +kernel
theorem dX1_go_224 : decode cX1_go 224 = .ok (.goto 84, 3) := by decide +kernel
theorem dX1_go_227 : decode cX1_go 227 = .ok (.iload_n 3, 1) := by decide +kernel
theorem dX1_go_228 : decode cX1_go 228 = .ok (.bipush 26, 2) := by decide +kernel
theorem dX1_go_230 : decode cX1_go 230 = .ok (.if_icmp .ne 14, 3) := by decide +kernel
theorem dX1_go_233 : decode cX1_go 233 = .ok (.aload_n 0, 1) := by decide +kernel
theorem dX1_go_234 : decode cX1_go 234 = .ok (.aload_n 0, 1) := by decide +kernel
theorem dX1_go_235 : decode cX1_go 235 = .ok (.invokevirtual 83, 3) := by decide +kernel
theorem dX1_go_238 : decode cX1_go 238 = .ok (.invokevirtual 106, 3) := by decide +kernel
theorem dX1_go_241 : decode cX1_go 241 = .ok (.goto 67, 3) := by decide +kernel
theorem dX1_go_244 : decode cX1_go 244 = .ok (.iload_n 3, 1) := by decide +kernel
theorem dX1_go_245 : decode cX1_go 245 = .ok (.bipush 25, 2) := by decide +kernel
theorem dX1_go_247 : decode cX1_go 247 = .ok (.if_icmp .gt 17, 3) := by decide +kernel
theorem dX1_go_250 : decode cX1_go 250 = .ok (.aload_n 0, 1) := by decide +kernel
theorem dX1_go_251 : decode cX1_go 251 = .ok (.iload_n 3, 1) := by decide +kernel
theorem dX1_go_252 : decode cX1_go 252 = .ok (.iload 4, 2) := by decide +kernel
theorem dX1_go_254 : decode cX1_go 254 = .ok (.aload_n 0, 1) := by decide +kernel
theorem dX1_go_255 : decode cX1_go 255 = .ok (.invokevirtual 83, 3) := by decide +kernel
theorem dX1_go_258 : decode cX1_go 258 = .ok (.invokevirtual 109, 3) := by decide +kernel
theorem dX1_go_261 : decode cX1_go 261 = .ok (.goto 47, 3) := by decide +kernel
theorem dX1_go_264 : decode cX1_go 264 = .ok (.aload_n 0, 1) := by decide +kernel
theorem dX1_go_265 : decode cX1_go 265 = .ok (.invokevirtual 83, 3) := by decide +kernel
theorem dX1_go_268 : decode cX1_go 268 = .ok (.istore 5, 2) := by decide +kernel
theorem dX1_go_270 : decode cX1_go 270 = .ok (.aload_n 0, 1) := by decide +kernel
theorem dX1_go_271 : decode cX1_go 271 = .ok (.invokevirtual 83, 3) := by decide +kernel
theorem dX1_go_274 : decode cX1_go 274 = .ok (.istore 6, 2) := by decide +kernel
theorem dX1_go_276 : decode cX1_go 276 = .ok (.iload_n 3, 1) := by decide +kernel
theorem dX1_go_277 : decode cX1_go 277 = .ok (.bipush 27, 2) := by decide +kernel
theorem dX1_go_279 : decode cX1_go 279 = .ok (.if_icmp .ne 16, 3) := by decide +kernel
theorem dX1_go_282 : decode cX1_go 282 = .ok (.aload_n 0, 1) := by decide +kernel
theorem dX1_go_283 : decode cX1_go 283 = .ok (.iload 4, 2) := by decide +kernel
theorem dX1_go_285 : decode cX1_go 285 = .ok (.iload 6, 2) := by decide +kernel
theorem dX1_go_287 : decode cX1_go 287 = .ok (.iload 5, 2) := by decide +kernel
theorem dX1_go_289 : decode cX1_go 289 = .ok (.invokevirtual 113, 3) := by decide +kernel
theorem dX1_go_292 : decode cX1_go 292 = .ok (.goto 16, 3) := by decide +kernel
theorem dX1_go_295 : decode cX1_go 295 = .ok (.aload_n 0, 1) := by decide +kernel
theorem dX1_go_296 : decode cX1_go 296 = .ok (.aload_n 0, 1) := by decide +kernel
theorem dX1_go_297 : decode cX1_go 297 = .ok (.iload_n 3, 1) := by decide +kernel
theorem dX1_go_298 : decode cX1_go 298 = .ok (.iload 6, 2) := by decide +kernel
theorem dX1_go_300 : decode cX1_go 300 = .ok (.iload 5, 2) := by decide +kernel
theorem dX1_go_302 : decode cX1_go 302 = .ok (.invokevirtual 116, 3) := by decide +kernel
theorem dX1_go_305 : decode cX1_go 305 = .ok (.invokevirtual 79, 3) := by decide +kernel
theorem dX1_go_308 : decode cX1_go 308 = .ok (.iinc 1 1, 3) := by decide +kernel
theorem dX1_go_311 : decode cX1_go 311 = .ok (.goto (-305), 3) := by decide +kernel
theorem dX1_go_314 : decode cX1_go 314 = .ok (.aload_n 0, 1) := by decide +kernel
theorem dX1_go_315 : decode cX1_go 315 = .ok (.aload_n 0, 1) := by decide +kernel
theorem dX1_go_316 : decode cX1_go 316 = .ok (.getfield 61, 3) := by decide +kernel
theorem dX1_go_319 : decode cX1_go 319 = .ok (.ifCond .ne 7, 3) := by decide +kernel
theorem dX1_go_322 : decode cX1_go 322 = .ok (.iconst 3, 1) := by decide +kernel
theorem dX1_go_323 : decode cX1_go 323 = .ok (.goto 7, 3) := by decide +kernel
theorem dX1_go_326 : decode cX1_go 326 = .ok (.aload_n 0, 1) := by decide +kernel
theorem dX1_go_327 : decode cX1_go 327 = .ok (.getfield 61, 3) := by decide +kernel
theorem dX1_go_330 : decode cX1_go 330 = .ok (.putfield 61, 3) := by decide +kernel
theorem dX1_go_333 : decode cX1_go 333 = .ok (.return_, 1) := by decide +kernel
theorem dX1_begin_0 : decode cX1_begin 0 = .ok (.aload_n 0, 1) := by decide +kernel
theorem dX1_begin_1 : decode cX1_begin 1 = .ok (.aload_n 0, 1) := by decide +kernel
theorem dX1_begin_2 : decode cX1_begin 2 = .ok (.getfield 46, 3) := by decide +kernel
theorem dX1_begin_5 : decode cX1_begin 5 = .ok (.putfield 119, 3) := by decide +kernel
theorem dX1_begin_8 : decode cX1_begin 8 = .ok (.aload_n 0, 1) := by decide +kernel
theorem dX1_begin_9 : decode cX1_begin 9 = .ok (.iconst 0, 1) := by decide +kernel
theorem dX1_begin_10 : decode cX1_begin 10 = .ok (.putfield 122, 3) := by decide +kernel
theorem dX1_begin_13 : decode cX1_begin 13 = .ok (.aload_n 0, 1) := by decide +kernel
theorem dX1_begin_14 : decode cX1_begin 14 = .ok (.iconst 0, 1) := by decide +kernel
theorem dX1_begin_15 : decode cX1_begin 15 = .ok (.putfield 125, 3) := by decide +kernel
theorem dX1_begin_18 : decode cX1_begin 18 = .ok (.aload_n 0, 1) := by decide +kernel
theorem dX1_begin_19 : decode cX1_begin 19 = .ok (.iconst 0, 1) := by decide +kernel
theorem dX1_begin_20 : decode cX1_begin 20 = .ok (.putfield 61, 3) := by decide +kernel
theorem dX1_begin_23 : decode cX1_begin 23 = .ok (.aload_n 0, 1) := by decide +kernel
theorem dX1_begin_24 : decode cX1_begin 24 = .ok (.iconst 0, 1) := by decide +kernel
theorem dX1_begin_25 : decode cX1_begin 25 = .ok (.putfield 128, 3) := by decide +kernel
theorem dX1_begin_28 : decode cX1_begin 28 = .ok (.iconst 0, 1) := by decide +kernel
theorem dX1_begin_29 : decode cX1_begin 29 = .ok (.istore_n 1, 1) := by decide +kernel
theorem dX1_begin_30 : decode cX1_begin 30 = .ok (.iload_n 1, 1) := by decide +kernel
theorem dX1_begin_31 : decode cX1_begin 31 = .ok (.iconst 3, 1) := by decide +kernel
theorem dX1_begin_32 : decode cX1_begin 32 = .ok (.if_icmp .ge 38, 3) := by decide +kernel
theorem dX1_begin_35 : decode cX1_begin 35 = .ok (.iload_n 1, 1) := by decide +kernel
theorem dX1_begin_36 : decode cX1_begin 36 = .ok (.aload_n 0, 1) := by decide +kernel
theorem dX1_begin_37 : decode cX1_begin 37 = .ok (.getfield 27, 3) := by decide +kernel
theorem dX1_begin_40 : decode cX1_begin 40 = .ok (.arraylength, 1) := by decide +kernel
theorem dX1_begin_41 : decode cX1_begin 41 = .ok (.if_icmp .ge 29, 3) := by decide +kernel
theorem dX1_begin_44 : decode cX1_begin 44 = .ok (.aload_n 0, 1) := by decide +kernel
theorem dX1_begin_45 : decode cX1_begin 45 = .ok (.getfield 15, 3) := by decide +kernel
theorem dX1_begin_48 : decode cX1_begin 48 = .ok (.aload_n 0, 1) := by decide +kernel
theorem dX1_begin_49 : decode cX1_begin 49 = .ok (.getfield 119, 3) := by decide +kernel
theorem dX1_begin_52 : decode cX1_begin 52 = .ok (.bipush 11, 2) := by decide +kernel
theorem dX1_begin_54 : decode cX1_begin 54 = .ok (.imul, 1) := by decide +kernel
theorem dX1_begin_55 : decode cX1_begin 55 = .ok (.iload_n 1, 1) := by decide +kernel
theorem dX1_begin_56 : decode cX1_begin 56 = .ok (.iadd, 1) := by decide +kernel
theorem dX1_begin_57 : decode cX1_begin 57 = .ok (.aload_n 0, 1) := by decide +kernel
theorem dX1_begin_58 : decode cX1_begin 58 = .ok (.getfield 27, 3) := by decide +kernel
theorem dX1_begin_61 : decode cX1_begin 61 = .ok (.iload_n 1, 1) := by decide +kernel
theorem dX1_begin_62 : decode cX1_begin 62 = .ok (.iaload, 1) := by decide +kernel
theorem dX1_begin_63 : decode cX1_begin 63 = .ok (.iastore, 1) := by decide +kernel
theorem dX1_begin_64 : decode cX1_begin 64 = .ok (.iinc 1 1, 3) := by decide +kernel
theorem dX1_begin_67 : decode cX1_begin 67 = .ok (.goto (-37), 3) := by decide +kernel
theorem dX1_begin_70 : decode cX1_begin 70 = .ok (.return_, 1) := by decide +kernel
theorem dX1_push_0 : decode cX1_push 0 = .ok (.aload_n 0, 1) := by decide +kernel
theorem dX1_push_1 : decode cX1_push 1 = .ok (.getfield 122, 3) := by decide +kernel
theorem dX1_push_4 : decode cX1_push 4 = .ok (.sipush 700, 3) := by decide +kernel
theorem dX1_push_7 : decode cX1_push 7 = .ok (.if_icmp .ge 23, 3) := by decide +kernel
theorem dX1_push_10 : decode cX1_push 10 = .ok (.aload_n 0, 1) := by decide +kernel
theorem dX1_push_11 : decode cX1_push 11 = .ok (.getfield 11, 3) := by decide +kernel
theorem dX1_push_14 : decode cX1_push 14 = .ok (.aload_n 0, 1) := by decide +kernel
theorem dX1_push_15 : decode cX1_push 15 = .ok (.getfield 122, 3) := by decide +kernel
theorem dX1_push_18 : decode cX1_push 18 = .ok (.iload_n 1, 1) := by decide +kernel
theorem dX1_push_19 : decode cX1_push 19 = .ok (.iastore, 1) := by decide +kernel
theorem dX1_push_20 : decode cX1_push 20 = .ok (.aload_n 0, 1) := by decide +kernel
theorem dX1_push_21 : decode cX1_push 21 = .ok (.dup, 1) := by decide +kernel
theorem dX1_push_22 : decode cX1_push 22 = .ok (.getfield 122, 3) := by decide +kernel
theorem dX1_push_25 : decode cX1_push 25 = .ok (.iconst 1, 1) := by decide +kernel
theorem dX1_push_26 : decode cX1_push 26 = .ok (.iadd, 1) := by decide +kernel
theorem dX1_push_27 : decode cX1_push 27 = .ok (.putfield 122, 3) := by decide +kernel
theorem dX1_push_30 : decode cX1_push 30 = .ok (.return_, 1) := by decide +kernel
theorem dX1_pop_0 : decode cX1_pop 0 = .ok (.aload_n 0, 1) := by decide +kernel
theorem dX1_pop_1 : decode cX1_pop 1 = .ok (.getfield 122, 3) := by decide +kernel
theorem dX1_pop_4 : decode cX1_pop 4 = .ok (.ifCond .ne 5, 3) := by decide +kernel
theorem dX1_pop_7 : decode cX1_pop 7 = .ok (.iconst 0, 1) := by decide +kernel
theorem dX1_pop_8 : decode cX1_pop 8 = .ok (.ireturn, 1) := by decide +kernel
theorem dX1_pop_9 : decode cX1_pop 9 = .ok (.aload_n 0, 1) := by decide +kernel
theorem dX1_pop_10 : decode cX1_pop 10 = .ok (.dup, 1) := by decide +kernel
theorem dX1_pop_11 : decode cX1_pop 11 = .ok (.getfield 122, 3) := by decide +kernel
theorem dX1_pop_14 : decode cX1_pop 14 = .ok (.iconst 1, 1) := by decide +kernel
theorem dX1_pop_15 : decode cX1_pop 15 = .ok (.isub, 1) := by decide +kernel
theorem dX1_pop_16 : decode cX1_pop 16 = .ok (.putfield 122, 3) := by decide +kernel
theorem dX1_pop_19 : decode cX1_pop 19 = .ok (.aload_n 0, 1) := by decide +kernel
theorem dX1_pop_20 : decode cX1_pop 20 = .ok (.getfield 11, 3) := by decide +kernel
theorem dX1_pop_23 : decode cX1_pop 23 = .ok (.aload_n 0, 1) := by decide +kernel
theorem dX1_pop_24 : decode cX1_pop 24 = .ok (.getfield 122, 3) := by decide +kernel
theorem dX1_pop_27 : decode cX1_pop 27 = .ok (.iaload, 1) := by decide +kernel
theorem dX1_pop_28 : decode cX1_pop 28 = .ok (.ireturn, 1) := by decide +kernel
theorem dX1_fetch_0 : decode cX1_fetch 0 = .ok (.iload_n 2, 1) := by decide +kernel
theorem dX1_fetch_1 : decode cX1_fetch 1 = .ok (.iconst 4, 1) := by decide +kernel
theorem dX1_fetch_2 : decode cX1_fetch 2 = .ok (.ishr, 1) := by decide +kernel
theorem dX1_fetch_3 : decode cX1_fetch 3 = .ok (.istore_n 3, 1) := by decide +kernel
theorem dX1_fetch_4 : decode cX1_fetch 4 = .ok (.iload_n 1, 1) := by decide +kernel
theorem dX1_fetch_5 : decode cX1_fetch 5 = .ok (.tableswitch 88 1 4 #[31, 33, 48, 68], 31) := by decide +kernel
theorem dX1_fetch_36 : decode cX1_fetch 36 = .ok (.iload_n 2, 1) := by decide +kernel
theorem dX1_fetch_37 : decode cX1_fetch 37 = .ok (.ireturn, 1) := by decide +kernel
theorem dX1_fetch_38 : decode cX1_fetch 38 = .ok (.aload_n 0, 1) := by decide +kernel
theorem dX1_fetch_39 : decode cX1_fetch 39 = .ok (.getfield 15, 3) := by decide +kernel
theorem dX1_fetch_42 : decode cX1_fetch 42 = .ok (.aload_n 0, 1) := by decide +kernel
theorem dX1_fetch_43 : decode cX1_fetch 43 = .ok (.getfield 119, 3) := by decide +kernel
theorem dX1_fetch_46 : decode cX1_fetch 46 = .ok (.bipush 11, 2) := by decide +kernel
theorem dX1_fetch_48 : decode cX1_fetch 48 = .ok (.imul, 1) := by decide +kernel
theorem dX1_fetch_49 : decode cX1_fetch 49 = .ok (.iload_n 2, 1) := by decide +kernel
theorem dX1_fetch_50 : decode cX1_fetch 50 = .ok (.iadd, 1) := by decide +kernel
theorem dX1_fetch_51 : decode cX1_fetch 51 = .ok (.iaload, 1) := by decide +kernel
theorem dX1_fetch_52 : decode cX1_fetch 52 = .ok (.ireturn, 1) := by decide +kernel
theorem dX1_fetch_53 : decode cX1_fetch 53 = .ok (.iload_n 3, 1) := by decide +kernel
theorem dX1_fetch_54 : decode cX1_fetch 54 = .ok (.aload_n 0, 1) := by decide +kernel
theorem dX1_fetch_55 : decode cX1_fetch 55 = .ok (.getfield 21, 3) := by decide +kernel
theorem dX1_fetch_58 : decode cX1_fetch 58 = .ok (.arraylength, 1) := by decide +kernel
theorem dX1_fetch_59 : decode cX1_fetch 59 = .ok (.if_icmp .ge 12, 3) := by decide +kernel
theorem dX1_fetch_62 : decode cX1_fetch 62 = .ok (.aload_n 0, 1) := by decide +kernel
theorem dX1_fetch_63 : decode cX1_fetch 63 = .ok (.getfield 21, 3) := by decide +kernel
theorem dX1_fetch_66 : decode cX1_fetch 66 = .ok (.iload_n 3, 1) := by decide +kernel
theorem dX1_fetch_67 : decode cX1_fetch 67 = .ok (.iaload, 1) := by decide +kernel
theorem dX1_fetch_68 : decode cX1_fetch 68 = .ok (.goto 4, 3) := by decide +kernel
theorem dX1_fetch_71 : decode cX1_fetch 71 = .ok (.iconst 0, 1) := by decide +kernel
theorem dX1_fetch_72 : decode cX1_fetch 72 = .ok (.ireturn, 1) := by decide +kernel
theorem dX1_fetch_73 : decode cX1_fetch 73 = .ok (.iload_n 3, 1) := by decide +kernel
theorem dX1_fetch_74 : decode cX1_fetch 74 = .ok (.aload_n 0, 1) := by decide +kernel
theorem dX1_fetch_75 : decode cX1_fetch 75 = .ok (.getfield 24, 3) := by decide +kernel
theorem dX1_fetch_78 : decode cX1_fetch 78 = .ok (.arraylength, 1) := by decide +kernel
theorem dX1_fetch_79 : decode cX1_fetch 79 = .ok (.if_icmp .ge 12, 3) := by decide +kernel
theorem dX1_fetch_82 : decode cX1_fetch 82 = .ok (.aload_n 0, 1) := by decide +kernel
theorem dX1_fetch_83 : decode cX1_fetch 83 = .ok (.getfield 24, 3) := by decide +kernel
theorem dX1_fetch_86 : decode cX1_fetch 86 = .ok (.iload_n 3, 1) := by decide +kernel
theorem dX1_fetch_87 : decode cX1_fetch 87 = .ok (.iaload, 1) := by decide +kernel
theorem dX1_fetch_88 : decode cX1_fetch 88 = .ok (.goto 4, 3) := by decide +kernel
theorem dX1_fetch_91 : decode cX1_fetch 91 = .ok (.iconst 0, 1) := by decide +kernel
theorem dX1_fetch_92 : decode cX1_fetch 92 = .ok (.ireturn, 1) := by decide +kernel
theorem dX1_fetch_93 : decode cX1_fetch 93 = .ok (.aload_n 0, 1) := by decide +kernel
theorem dX1_fetch_94 : decode cX1_fetch 94 = .ok (.getfield 42, 3) := by decide +kernel
theorem dX1_fetch_97 : decode cX1_fetch 97 = .ok (.ireturn, 1) := by decide +kernel
theorem dX1_turn_0 : decode cX1_turn 0 = .ok (.iload_n 1, 1) := by decide +kernel
theorem dX1_turn_1 : decode cX1_turn 1 = .ok (.bipush 6, 2) := by decide +kernel
theorem dX1_turn_3 : decode cX1_turn 3 = .ok (.if_icmp .ne 6, 3) := by decide +kernel
theorem dX1_turn_6 : decode cX1_turn 6 = .ok (.iload_n 3, 1) := by decide +kernel
theorem dX1_turn_7 : decode cX1_turn 7 = .ok (.ineg, 1) := by decide +kernel
theorem dX1_turn_8 : decode cX1_turn 8 = .ok (.ireturn, 1) := by decide +kernel
theorem dX1_turn_9 : decode cX1_turn 9 = .ok (.iload_n 1, 1) := by decide +kernel
theorem dX1_turn_10 : decode cX1_turn 10 = .ok (.bipush 7, 2) := by decide +kernel
theorem dX1_turn_12 : decode cX1_turn 12 = .ok (.if_icmp .ne 13, 3) := by decide +kernel
theorem dX1_turn_15 : decode cX1_turn 15 = .ok (.iload_n 3, 1) := by decide +kernel
theorem dX1_turn_16 : decode cX1_turn 16 = .ok (.ifCond .ne 7, 3) := by decide +kernel
theorem dX1_turn_19 : decode cX1_turn 19 = .ok (.iconst 1, 1) := by decide +kernel
theorem dX1_turn_20 : decode cX1_turn 20 = .ok (.goto 4, 3) := by decide +kernel
theorem dX1_turn_23 : decode cX1_turn 23 = .ok (.iconst 0, 1) := by decide +kernel
theorem dX1_turn_24 : decode cX1_turn 24 = .ok (.ireturn, 1) := by decide +kernel
theorem dX1_turn_25 : decode cX1_turn 25 = .ok (.iload_n 1, 1) := by decide +kernel
theorem dX1_turn_26 : decode cX1_turn 26 = .ok (.bipush 8, 2) := by decide +kernel
theorem dX1_turn_28 : decode cX1_turn 28 = .ok (.if_icmp .ne 13, 3) := by decide +kernel
theorem dX1_turn_31 : decode cX1_turn 31 = .ok (.iload_n 3, 1) := by decide +kernel
theorem dX1_turn_32 : decode cX1_turn 32 = .ok (.ifCond .ne 7, 3) := by decide +kernel
theorem dX1_turn_35 : decode cX1_turn 35 = .ok (.iconst 0, 1) := by decide +kernel
theorem dX1_turn_36 : decode cX1_turn 36 = .ok (.goto 4, 3) := by decide +kernel
theorem dX1_turn_39 : decode cX1_turn 39 = .ok (.iconst 1, 1) := by decide +kernel
theorem dX1_turn_40 : decode cX1_turn 40 = .ok (.ireturn, 1) := by decide +kernel
theorem dX1_turn_41 : decode cX1_turn 41 = .ok (.iload_n 3, 1) := by decide +kernel
theorem dX1_turn_42 : decode cX1_turn 42 = .ok (.ifCond .lt 11, 3) := by decide +kernel
theorem dX1_turn_45 : decode cX1_turn 45 = .ok (.iload_n 3, 1) := by decide +kernel
theorem dX1_turn_46 : decode cX1_turn 46 = .ok (.iload_n 2, 1) := by decide +kernel
theorem dX1_turn_47 : decode cX1_turn 47 = .ok (.bipush 15, 2) := by decide +kernel
theorem dX1_turn_49 : decode cX1_turn 49 = .ok (.iand, 1) := by decide +kernel
theorem dX1_turn_50 : decode cX1_turn 50 = .ok (.if_icmp .lt 17, 3) := by decide +kernel
theorem dX1_turn_53 : decode cX1_turn 53 = .ok (.aload_n 0, 1) := by decide +kernel
theorem dX1_turn_54 : decode cX1_turn 54 = .ok (.iconst 2, 1) := by decide +kernel
theorem dX1_turn_55 : decode cX1_turn 55 = .ok (.putfield 61, 3) := by decide +kernel
theorem dX1_turn_58 : decode cX1_turn 58 = .ok (.aload_n 0, 1) := by decide +kernel
theorem dX1_turn_59 : decode cX1_turn 59 = .ok (.ldc2_w 131, 3) := by decide +kernel
theorem dX1_turn_62 : decode cX1_turn 62 = .ok (.putfield 133, 3) := by decide +kernel
theorem dX1_turn_65 : decode cX1_turn 65 = .ok (.iconst 0, 1) := by decide +kernel
theorem dX1_turn_66 : decode cX1_turn 66 = .ok (.ireturn, 1) := by decide +kernel
theorem dX1_turn_67 : decode cX1_turn 67 = .ok (.iload_n 2, 1) := by decide +kernel
theorem dX1_turn_68 : decode cX1_turn 68 = .ok (.iconst 4, 1) := by decide +kernel
theorem dX1_turn_69 : decode cX1_turn 69 = .ok (.ishr, 1) := by decide +kernel
theorem dX1_turn_70 : decode cX1_turn 70 = .ok (.iload_n 3, 1) := by decide +kernel
theorem dX1_turn_71 : decode cX1_turn 71 = .ok (.iadd, 1) := by decide +kernel
theorem dX1_turn_72 : decode cX1_turn 72 = .ok (.istore 4, 2) := by decide +kernel
theorem dX1_turn_74 : decode cX1_turn 74 = .ok (.iload_n 1, 1) := by decide +kernel
theorem dX1_turn_75 : decode cX1_turn 75 = .ok (.bipush 11, 2) := by decide +kernel
theorem dX1_turn_77 : decode cX1_turn 77 = .ok (.if_icmp .eq 23, 3) := by decide +kernel
theorem dX1_turn_80 : decode cX1_turn 80 = .ok (.iload 4, 2) := by decide +kernel
theorem dX1_turn_82 : decode cX1_turn 82 = .ok (.aload_n 0, 1) := by decide +kernel
theorem dX1_turn_83 : decode cX1_turn 83 = .ok (.getfield 21, 3) := by decide +kernel
theorem dX1_turn_86 : decode cX1_turn 86 = .ok (.arraylength, 1) := by decide +kernel
theorem dX1_turn_87 : decode cX1_turn 87 = .ok (.if_icmp .ge 13, 3) := by decide +kernel
theorem dX1_turn_90 : decode cX1_turn 90 = .ok (.iload 4, 2) := by decide +kernel
theorem dX1_turn_92 : decode cX1_turn 92 = .ok (.aload_n 0, 1) := by decide +kernel
theorem dX1_turn_93 : decode cX1_turn 93 = .ok (.getfield 24, 3) := by decide +kernel
theorem dX1_turn_96 : decode cX1_turn 96 = .ok (.arraylength, 1) := by decide +kernel
theorem dX1_turn_97 : decode cX1_turn 97 = .ok (.if_icmp .lt 5, 3) := by decide +kernel
theorem dX1_turn_100 : decode cX1_turn 100 = .ok (.iload_n 3, 1) := by decide +kernel
theorem dX1_turn_101 : decode cX1_turn 101 = .ok (.ireturn, 1) := by decide +kernel
theorem dX1_turn_102 : decode cX1_turn 102 = .ok (.iload_n 1, 1) := by decide +kernel
theorem dX1_turn_103 : decode cX1_turn 103 = .ok (.bipush 9, 2) := by decide +kernel
theorem dX1_turn_105 : decode cX1_turn 105 = .ok (.if_icmp .ne 13, 3) := by decide +kernel
theorem dX1_turn_108 : decode cX1_turn 108 = .ok (.aload_n 0, 1) := by decide +kernel
theorem dX1_turn_109 : decode cX1_turn 109 = .ok (.getfield 21, 3) := by decide +kernel
theorem dX1_turn_112 : decode cX1_turn 112 = .ok (.iload 4, 2) := by decide +kernel
theorem dX1_turn_114 : decode cX1_turn 114 = .ok (.iaload, 1) := by decide +kernel
theorem dX1_turn_115 : decode cX1_turn 115 = .ok (.goto 10, 3) := by decide +kernel
theorem dX1_turn_118 : decode cX1_turn 118 = .ok (.aload_n 0, 1) := by decide +kernel
theorem dX1_turn_119 : decode cX1_turn 119 = .ok (.getfield 24, 3) := by decide +kernel
theorem dX1_turn_122 : decode cX1_turn 122 = .ok (.iload 4, 2) := by decide +kernel
theorem dX1_turn_124 : decode cX1_turn 124 = .ok (.iaload, 1) := by decide +kernel
theorem dX1_turn_125 : decode cX1_turn 125 = .ok (.ireturn, 1) := by decide +kernel
theorem dX1_reckon_0 : decode cX1_reckon 0 = .ok (.iload_n 1, 1) := by decide +kernel
theorem dX1_reckon_1 : decode cX1_reckon 1 = .ok (.lookupswitch 161 #[(42, 91), (43, 83), (45, 87), (60, 95), (62, 106), (201, 117), (202, 128), (203, 139), (204, 150)], 83) := by decide +kernel
theorem dX1_reckon_84 : decode cX1_reckon 84 = .ok (.iload_n 2, 1) := by decide +kernel
theorem dX1_reckon_85 : decode cX1_reckon 85 = .ok (.iload_n 3, 1) := by decide +kernel
theorem dX1_reckon_86 : decode cX1_reckon 86 = .ok (.iadd, 1) := by decide +kernel
theorem dX1_reckon_87 : decode cX1_reckon 87 = .ok (.ireturn, 1) := by decide +kernel
theorem dX1_reckon_88 : decode cX1_reckon 88 = .ok (.iload_n 2, 1) := by decide +kernel
theorem dX1_reckon_89 : decode cX1_reckon 89 = .ok (.iload_n 3, 1) := by decide +kernel
theorem dX1_reckon_90 : decode cX1_reckon 90 = .ok (.isub, 1) := by decide +kernel
theorem dX1_reckon_91 : decode cX1_reckon 91 = .ok (.ireturn, 1) := by decide +kernel
theorem dX1_reckon_92 : decode cX1_reckon 92 = .ok (.iload_n 2, 1) := by decide +kernel
theorem dX1_reckon_93 : decode cX1_reckon 93 = .ok (.iload_n 3, 1) := by decide +kernel
theorem dX1_reckon_94 : decode cX1_reckon 94 = .ok (.imul, 1) := by decide +kernel
theorem dX1_reckon_95 : decode cX1_reckon 95 = .ok (.ireturn, 1) := by decide +kernel
theorem dX1_reckon_96 : decode cX1_reckon 96 = .ok (.iload_n 2, 1) := by decide +kernel
theorem dX1_reckon_97 : decode cX1_reckon 97 = .ok (.iload_n 3, 1) := by decide +kernel
theorem dX1_reckon_98 : decode cX1_reckon 98 = .ok (.if_icmp .ge 7, 3) := by decide +kernel
theorem dX1_reckon_101 : decode cX1_reckon 101 = .ok (.iconst 1, 1) := by decide +kernel
theorem dX1_reckon_102 : decode cX1_reckon 102 = .ok (.goto 4, 3) := by decide +kernel
theorem dX1_reckon_105 : decode cX1_reckon 105 = .ok (.iconst 0, 1) := by decide +kernel
theorem dX1_reckon_106 : decode cX1_reckon 106 = .ok (.ireturn, 1) := by decide +kernel
theorem dX1_reckon_107 : decode cX1_reckon 107 = .ok (.iload_n 2, 1) := by decide +kernel
theorem dX1_reckon_108 : decode cX1_reckon 108 = .ok (.iload_n 3, 1) := by decide +kernel
theorem dX1_reckon_109 : decode cX1_reckon 109 = .ok (.if_icmp .le 7, 3) := by decide +kernel
theorem dX1_reckon_112 : decode cX1_reckon 112 = .ok (.iconst 1, 1) := by decide +kernel
theorem dX1_reckon_113 : decode cX1_reckon 113 = .ok (.goto 4, 3) := by decide +kernel
theorem dX1_reckon_116 : decode cX1_reckon 116 = .ok (.iconst 0, 1) := by decide +kernel
theorem dX1_reckon_117 : decode cX1_reckon 117 = .ok (.ireturn, 1) := by decide +kernel
theorem dX1_reckon_118 : decode cX1_reckon 118 = .ok (.iload_n 2, 1) := by decide +kernel
theorem dX1_reckon_119 : decode cX1_reckon 119 = .ok (.iload_n 3, 1) := by decide +kernel
theorem dX1_reckon_120 : decode cX1_reckon 120 = .ok (.if_icmp .ne 7, 3) := by decide +kernel
theorem dX1_reckon_123 : decode cX1_reckon 123 = .ok (.iconst 1, 1) := by decide +kernel
theorem dX1_reckon_124 : decode cX1_reckon 124 = .ok (.goto 4, 3) := by decide +kernel
theorem dX1_reckon_127 : decode cX1_reckon 127 = .ok (.iconst 0, 1) := by decide +kernel
theorem dX1_reckon_128 : decode cX1_reckon 128 = .ok (.ireturn, 1) := by decide +kernel
theorem dX1_reckon_129 : decode cX1_reckon 129 = .ok (.iload_n 2, 1) := by decide +kernel
theorem dX1_reckon_130 : decode cX1_reckon 130 = .ok (.iload_n 3, 1) := by decide +kernel
theorem dX1_reckon_131 : decode cX1_reckon 131 = .ok (.if_icmp .eq 7, 3) := by decide +kernel
theorem dX1_reckon_134 : decode cX1_reckon 134 = .ok (.iconst 1, 1) := by decide +kernel
theorem dX1_reckon_135 : decode cX1_reckon 135 = .ok (.goto 4, 3) := by decide +kernel
theorem dX1_reckon_138 : decode cX1_reckon 138 = .ok (.iconst 0, 1) := by decide +kernel
theorem dX1_reckon_139 : decode cX1_reckon 139 = .ok (.ireturn, 1) := by decide +kernel
theorem dX1_reckon_140 : decode cX1_reckon 140 = .ok (.iload_n 2, 1) := by decide +kernel
theorem dX1_reckon_141 : decode cX1_reckon 141 = .ok (.iload_n 3, 1) := by decide +kernel
theorem dX1_reckon_142 : decode cX1_reckon 142 = .ok (.if_icmp .gt 7, 3) := by decide +kernel
theorem dX1_reckon_145 : decode cX1_reckon 145 = .ok (.iconst 1, 1) := by decide +kernel
theorem dX1_reckon_146 : decode cX1_reckon 146 = .ok (.goto 4, 3) := by decide +kernel
theorem dX1_reckon_149 : decode cX1_reckon 149 = .ok (.iconst 0, 1) := by decide +kernel
theorem dX1_reckon_150 : decode cX1_reckon 150 = .ok (.ireturn, 1) := by decide +kernel
theorem dX1_reckon_151 : decode cX1_reckon 151 = .ok (.iload_n 2, 1) := by decide +kernel
theorem dX1_reckon_152 : decode cX1_reckon 152 = .ok (.iload_n 3, 1) := by decide +kernel
theorem dX1_reckon_153 : decode cX1_reckon 153 = .ok (.if_icmp .lt 7, 3) := by decide +kernel
theorem dX1_reckon_156 : decode cX1_reckon 156 = .ok (.iconst 1, 1) := by decide +kernel
theorem dX1_reckon_157 : decode cX1_reckon 157 = .ok (.goto 4, 3) := by decide +kernel
theorem dX1_reckon_160 : decode cX1_reckon 160 = .ok (.iconst 0, 1) := by decide +kernel
theorem dX1_reckon_161 : decode cX1_reckon 161 = .ok (.ireturn, 1) := by decide +kernel
theorem dX1_reckon_162 : decode cX1_reckon 162 = .ok (.iload_n 3, 1) := by decide +kernel
theorem dX1_reckon_163 : decode cX1_reckon 163 = .ok (.ifCond .ne 17, 3) := by decide +kernel
theorem dX1_reckon_166 : decode cX1_reckon 166 = .ok (.aload_n 0, 1) := by decide +kernel
theorem dX1_reckon_167 : decode cX1_reckon 167 = .ok (.iconst 2, 1) := by decide +kernel
theorem dX1_reckon_168 : decode cX1_reckon 168 = .ok (.putfield 61, 3) := by decide +kernel
theorem dX1_reckon_171 : decode cX1_reckon 171 = .ok (.aload_n 0, 1) := by decide +kernel
theorem dX1_reckon_172 : decode cX1_reckon 172 = .ok (.ldc2_w 137, 3) := by decide +kernel
theorem dX1_reckon_175 : decode cX1_reckon 175 = .ok (.putfield 133, 3) := by decide +kernel
theorem dX1_reckon_178 : decode cX1_reckon 178 = .ok (.iconst 0, 1) := by decide +kernel
theorem dX1_reckon_179 : decode cX1_reckon 179 = .ok (.ireturn, 1) := by decide +kernel
theorem dX1_reckon_180 : decode cX1_reckon 180 = .ok (.iload_n 1, 1) := by decide +kernel
theorem dX1_reckon_181 : decode cX1_reckon 181 = .ok (.bipush 47, 2) := by decide +kernel
theorem dX1_reckon_183 : decode cX1_reckon 183 = .ok (.if_icmp .ne 9, 3) := by decide +kernel
theorem dX1_reckon_186 : decode cX1_reckon 186 = .ok (.iload_n 2, 1) := by decide +kernel
theorem dX1_reckon_187 : decode cX1_reckon 187 = .ok (.iload_n 3, 1) := by decide +kernel
theorem dX1_reckon_188 : decode cX1_reckon 188 = .ok (.idiv, 1) := by decide +kernel
theorem dX1_reckon_189 : decode cX1_reckon 189 = .ok (.goto 6, 3) := by decide +kernel
theorem dX1_reckon_192 : decode cX1_reckon 192 = .ok (.iload_n 2, 1) := by decide +kernel
theorem dX1_reckon_193 : decode cX1_reckon 193 = .ok (.iload_n 3, 1) := by decide +kernel
theorem dX1_reckon_194 : decode cX1_reckon 194 = .ok (.irem, 1) := by decide +kernel
theorem dX1_reckon_195 : decode cX1_reckon 195 = .ok (.ireturn, 1) := by decide +kernel
theorem dX1_act_0 : decode cX1_act 0 = .ok (.iload_n 1, 1) := by decide +kernel
theorem dX1_act_1 : decode cX1_act 1 = .ok (.bipush 12, 2) := by decide +kernel
theorem dX1_act_3 : decode cX1_act 3 = .ok (.if_icmp .ne 28, 3) := by decide +kernel
theorem dX1_act_6 : decode cX1_act 6 = .ok (.iload_n 2, 1) := by decide +kernel
theorem dX1_act_7 : decode cX1_act 7 = .ok (.ifCond .lt 24, 3) := by decide +kernel
theorem dX1_act_10 : decode cX1_act 10 = .ok (.iload_n 2, 1) := by decide +kernel
theorem dX1_act_11 : decode cX1_act 11 = .ok (.aload_n 0, 1) := by decide +kernel
theorem dX1_act_12 : decode cX1_act 12 = .ok (.getfield 30, 3) := by decide +kernel
theorem dX1_act_15 : decode cX1_act 15 = .ok (.getfield 139, 3) := by decide +kernel
theorem dX1_act_18 : decode cX1_act 18 = .ok (.if_icmp .ge 13, 3) := by decide +kernel
theorem dX1_act_21 : decode cX1_act 21 = .ok (.aload_n 0, 1) := by decide +kernel
theorem dX1_act_22 : decode cX1_act 22 = .ok (.getfield 30, 3) := by decide +kernel
theorem dX1_act_25 : decode cX1_act 25 = .ok (.getfield 142, 3) := by decide +kernel
theorem dX1_act_28 : decode cX1_act 28 = .ok (.iload_n 2, 1) := by decide +kernel
theorem dX1_act_29 : decode cX1_act 29 = .ok (.iconst 1, 1) := by decide +kernel
theorem dX1_act_30 : decode cX1_act 30 = .ok (.bastore, 1) := by decide +kernel
theorem dX1_act_31 : decode cX1_act 31 = .ok (.iload_n 1, 1) := by decide +kernel
theorem dX1_act_32 : decode cX1_act 32 = .ok (.bipush 12, 2) := by decide +kernel
theorem dX1_act_34 : decode cX1_act 34 = .ok (.if_icmp .eq 9, 3) := by decide +kernel
theorem dX1_act_37 : decode cX1_act 37 = .ok (.iload_n 1, 1) := by decide +kernel
theorem dX1_act_38 : decode cX1_act 38 = .ok (.bipush 13, 2) := by decide +kernel
theorem dX1_act_40 : decode cX1_act 40 = .ok (.if_icmp .ne 38, 3) := by decide +kernel
theorem dX1_act_43 : decode cX1_act 43 = .ok (.aload_n 0, 1) := by decide +kernel
theorem dX1_act_44 : decode cX1_act 44 = .ok (.dup, 1) := by decide +kernel
theorem dX1_act_45 : decode cX1_act 45 = .ok (.getfield 125, 3) := by decide +kernel
theorem dX1_act_48 : decode cX1_act 48 = .ok (.iconst 1, 1) := by decide +kernel
theorem dX1_act_49 : decode cX1_act 49 = .ok (.iadd, 1) := by decide +kernel
theorem dX1_act_50 : decode cX1_act 50 = .ok (.putfield 125, 3) := by decide +kernel
theorem dX1_act_53 : decode cX1_act 53 = .ok (.aload_n 0, 1) := by decide +kernel
theorem dX1_act_54 : decode cX1_act 54 = .ok (.aload_n 0, 1) := by decide +kernel
theorem dX1_act_55 : decode cX1_act 55 = .ok (.getfield 125, 3) := by decide +kernel
theorem dX1_act_58 : decode cX1_act 58 = .ok (.sipush 300, 3) := by decide +kernel
theorem dX1_act_61 : decode cX1_act 61 = .ok (.if_icmp .le 7, 3) := by decide +kernel
theorem dX1_act_64 : decode cX1_act 64 = .ok (.iconst 3, 1) := by decide +kernel
theorem dX1_act_65 : decode cX1_act 65 = .ok (.goto 7, 3) := by decide +kernel
theorem dX1_act_68 : decode cX1_act 68 = .ok (.aload_n 0, 1) := by decide +kernel
theorem dX1_act_69 : decode cX1_act 69 = .ok (.getfield 61, 3) := by decide +kernel
theorem dX1_act_72 : decode cX1_act 72 = .ok (.putfield 61, 3) := by decide +kernel
theorem dX1_act_75 : decode cX1_act 75 = .ok (.goto 80, 3) := by decide +kernel
theorem dX1_act_78 : decode cX1_act 78 = .ok (.iload_n 1, 1) := by decide +kernel
theorem dX1_act_79 : decode cX1_act 79 = .ok (.bipush 14, 2) := by decide +kernel
theorem dX1_act_81 : decode cX1_act 81 = .ok (.if_icmp .ne 21, 3) := by decide +kernel
theorem dX1_act_84 : decode cX1_act 84 = .ok (.aload_n 0, 1) := by decide +kernel
theorem dX1_act_85 : decode cX1_act 85 = .ok (.getfield 15, 3) := by decide +kernel
theorem dX1_act_88 : decode cX1_act 88 = .ok (.aload_n 0, 1) := by decide +kernel
theorem dX1_act_89 : decode cX1_act 89 = .ok (.getfield 119, 3) := by decide +kernel
theorem dX1_act_92 : decode cX1_act 92 = .ok (.bipush 11, 2) := by decide +kernel
theorem dX1_act_94 : decode cX1_act 94 = .ok (.imul, 1) := by decide +kernel
theorem dX1_act_95 : decode cX1_act 95 = .ok (.iload_n 2, 1) := by decide +kernel
theorem dX1_act_96 : decode cX1_act 96 = .ok (.iadd, 1) := by decide +kernel
theorem dX1_act_97 : decode cX1_act 97 = .ok (.iconst 0, 1) := by decide +kernel
theorem dX1_act_98 : decode cX1_act 98 = .ok (.iastore, 1) := by decide +kernel
theorem dX1_act_99 : decode cX1_act 99 = .ok (.goto 56, 3) := by decide +kernel
theorem dX1_act_102 : decode cX1_act 102 = .ok (.iload_n 1, 1) := by decide +kernel
theorem dX1_act_103 : decode cX1_act 103 = .ok (.bipush 15, 2) := by decide +kernel
theorem dX1_act_105 : decode cX1_act 105 = .ok (.if_icmp .ne 11, 3) := by decide +kernel
theorem dX1_act_108 : decode cX1_act 108 = .ok (.aload_n 0, 1) := by decide +kernel
theorem dX1_act_109 : decode cX1_act 109 = .ok (.iload_n 2, 1) := by decide +kernel
theorem dX1_act_110 : decode cX1_act 110 = .ok (.putfield 49, 3) := by decide +kernel
theorem dX1_act_113 : decode cX1_act 113 = .ok (.goto 42, 3) := by decide +kernel
theorem dX1_act_116 : decode cX1_act 116 = .ok (.iload_n 1, 1) := by decide +kernel
theorem dX1_act_117 : decode cX1_act 117 = .ok (.bipush 16, 2) := by decide +kernel
theorem dX1_act_119 : decode cX1_act 119 = .ok (.if_icmp .ne 36, 3) := by decide +kernel
theorem dX1_act_122 : decode cX1_act 122 = .ok (.iload_n 2, 1) := by decide +kernel
theorem dX1_act_123 : decode cX1_act 123 = .ok (.ifCond .lt 32, 3) := by decide +kernel
theorem dX1_act_126 : decode cX1_act 126 = .ok (.iload_n 2, 1) := by decide +kernel
theorem dX1_act_127 : decode cX1_act 127 = .ok (.aload_n 0, 1) := by decide +kernel
theorem dX1_act_128 : decode cX1_act 128 = .ok (.getfield 30, 3) := by decide +kernel
theorem dX1_act_131 : decode cX1_act 131 = .ok (.getfield 146, 3) := by decide +kernel
theorem dX1_act_134 : decode cX1_act 134 = .ok (.if_icmp .ge 21, 3) := by decide +kernel
theorem dX1_act_137 : decode cX1_act 137 = .ok (.aload_n 0, 1) := by decide +kernel
theorem dX1_act_138 : decode cX1_act 138 = .ok (.iconst 2, 1) := by decide +kernel
theorem dX1_act_139 : decode cX1_act 139 = .ok (.putfield 61, 3) := by decide +kernel
theorem dX1_act_142 : decode cX1_act 142 = .ok (.aload_n 0, 1) := by decide +kernel
theorem dX1_act_143 : decode cX1_act 143 = .ok (.aload_n 0, 1) := by decide +kernel
theorem dX1_act_144 : decode cX1_act 144 = .ok (.getfield 30, 3) := by decide +kernel
theorem dX1_act_147 : decode cX1_act 147 = .ok (.getfield 149, 3) := by decide +kernel
theorem dX1_act_150 : decode cX1_act 150 = .ok (.iload_n 2, 1) := by decide +kernel
theorem dX1_act_151 : decode cX1_act 151 = .ok (.laload, 1) := by decide +kernel
theorem dX1_act_152 : decode cX1_act 152 = .ok (.putfield 133, 3) := by decide +kernel
theorem dX1_act_155 : decode cX1_act 155 = .ok (.return_, 1) := by decide +kernel
theorem dX1_use_0 : decode cX1_use 0 = .ok (.iload_n 1, 1) := by decide +kernel
theorem dX1_use_1 : decode cX1_use 1 = .ok (.bipush 20, 2) := by decide +kernel
theorem dX1_use_3 : decode cX1_use 3 = .ok (.if_icmp .ne 21, 3) := by decide +kernel
theorem dX1_use_6 : decode cX1_use 6 = .ok (.aload_n 0, 1) := by decide +kernel
theorem dX1_use_7 : decode cX1_use 7 = .ok (.getfield 15, 3) := by decide +kernel
theorem dX1_use_10 : decode cX1_use 10 = .ok (.aload_n 0, 1) := by decide +kernel
theorem dX1_use_11 : decode cX1_use 11 = .ok (.getfield 119, 3) := by decide +kernel
theorem dX1_use_14 : decode cX1_use 14 = .ok (.bipush 11, 2) := by decide +kernel
theorem dX1_use_16 : decode cX1_use 16 = .ok (.imul, 1) := by decide +kernel
theorem dX1_use_17 : decode cX1_use 17 = .ok (.iload_n 2, 1) := by decide +kernel
theorem dX1_use_18 : decode cX1_use 18 = .ok (.iadd, 1) := by decide +kernel
theorem dX1_use_19 : decode cX1_use 19 = .ok (.iload_n 3, 1) := by decide +kernel
theorem dX1_use_20 : decode cX1_use 20 = .ok (.iastore, 1) := by decide +kernel
theorem dX1_use_21 : decode cX1_use 21 = .ok (.goto 124, 3) := by decide +kernel
theorem dX1_use_24 : decode cX1_use 24 = .ok (.iload_n 1, 1) := by decide +kernel
theorem dX1_use_25 : decode cX1_use 25 = .ok (.bipush 21, 2) := by decide +kernel
theorem dX1_use_27 : decode cX1_use 27 = .ok (.if_icmp .ne 18, 3) := by decide +kernel
theorem dX1_use_30 : decode cX1_use 30 = .ok (.aload_n 0, 1) := by decide +kernel
theorem dX1_use_31 : decode cX1_use 31 = .ok (.getfield 38, 3) := by decide +kernel
theorem dX1_use_34 : decode cX1_use 34 = .ok (.ifCond .eq 11, 3) := by decide +kernel
theorem dX1_use_37 : decode cX1_use 37 = .ok (.aload_n 0, 1) := by decide +kernel
theorem dX1_use_38 : decode cX1_use 38 = .ok (.iconst 4, 1) := by decide +kernel
theorem dX1_use_39 : decode cX1_use 39 = .ok (.putfield 61, 3) := by decide +kernel
theorem dX1_use_42 : decode cX1_use 42 = .ok (.goto 103, 3) := by decide +kernel
theorem dX1_use_45 : decode cX1_use 45 = .ok (.iload_n 1, 1) := by decide +kernel
theorem dX1_use_46 : decode cX1_use 46 = .ok (.bipush 21, 2) := by decide +kernel
theorem dX1_use_48 : decode cX1_use 48 = .ok (.if_icmp .ne 26, 3) := by decide +kernel
theorem dX1_use_51 : decode cX1_use 51 = .ok (.iload_n 2, 1) := by decide +kernel
theorem dX1_use_52 : decode cX1_use 52 = .ok (.iconst 4, 1) := by decide +kernel
theorem dX1_use_53 : decode cX1_use 53 = .ok (.ishr, 1) := by decide +kernel
theorem dX1_use_54 : decode cX1_use 54 = .ok (.aload_n 0, 1) := by decide +kernel
theorem dX1_use_55 : decode cX1_use 55 = .ok (.getfield 21, 3) := by decide +kernel
theorem dX1_use_58 : decode cX1_use 58 = .ok (.arraylength, 1) := by decide +kernel
theorem dX1_use_59 : decode cX1_use 59 = .ok (.if_icmp .ge 15, 3) := by decide +kernel
theorem dX1_use_62 : decode cX1_use 62 = .ok (.aload_n 0, 1) := by decide +kernel
theorem dX1_use_63 : decode cX1_use 63 = .ok (.getfield 21, 3) := by decide +kernel
theorem dX1_use_66 : decode cX1_use 66 = .ok (.iload_n 2, 1) := by decide +kernel
theorem dX1_use_67 : decode cX1_use 67 = .ok (.iconst 4, 1) := by decide +kernel
theorem dX1_use_68 : decode cX1_use 68 = .ok (.ishr, 1) := by decide +kernel
theorem dX1_use_69 : decode cX1_use 69 = .ok (.iload_n 3, 1) := by decide +kernel
theorem dX1_use_70 : decode cX1_use 70 = .ok (.iastore, 1) := by decide +kernel
theorem dX1_use_71 : decode cX1_use 71 = .ok (.goto 74, 3) := by decide +kernel
theorem dX1_use_74 : decode cX1_use 74 = .ok (.iload_n 1, 1) := by decide +kernel
theorem dX1_use_75 : decode cX1_use 75 = .ok (.bipush 23, 2) := by decide +kernel
theorem dX1_use_77 : decode cX1_use 77 = .ok (.if_icmp .ne 15, 3) := by decide +kernel
theorem dX1_use_80 : decode cX1_use 80 = .ok (.iload_n 3, 1) := by decide +kernel
theorem dX1_use_81 : decode cX1_use 81 = .ok (.ifCond .ne 11, 3) := by decide +kernel
theorem dX1_use_84 : decode cX1_use 84 = .ok (.aload_n 0, 1) := by decide +kernel
theorem dX1_use_85 : decode cX1_use 85 = .ok (.iload_n 2, 1) := by decide +kernel
theorem dX1_use_86 : decode cX1_use 86 = .ok (.putfield 49, 3) := by decide +kernel
theorem dX1_use_89 : decode cX1_use 89 = .ok (.goto 56, 3) := by decide +kernel
theorem dX1_use_92 : decode cX1_use 92 = .ok (.iload_n 1, 1) := by decide +kernel
theorem dX1_use_93 : decode cX1_use 93 = .ok (.bipush 24, 2) := by decide +kernel
theorem dX1_use_95 : decode cX1_use 95 = .ok (.if_icmp .ne 7, 3) := by decide +kernel
theorem dX1_use_98 : decode cX1_use 98 = .ok (.iload_n 3, 1) := by decide +kernel
theorem dX1_use_99 : decode cX1_use 99 = .ok (.ifCond .eq 13, 3) := by decide +kernel
theorem dX1_use_102 : decode cX1_use 102 = .ok (.iload_n 1, 1) := by decide +kernel
theorem dX1_use_103 : decode cX1_use 103 = .ok (.bipush 25, 2) := by decide +kernel
theorem dX1_use_105 : decode cX1_use 105 = .ok (.if_icmp .ne 40, 3) := by decide +kernel
theorem dX1_use_108 : decode cX1_use 108 = .ok (.iload_n 3, 1) := by decide +kernel
theorem dX1_use_109 : decode cX1_use 109 = .ok (.ifCond .eq 36, 3) := by decide +kernel
theorem dX1_use_112 : decode cX1_use 112 = .ok (.aload_n 0, 1) := by decide +kernel
theorem dX1_use_113 : decode cX1_use 113 = .ok (.getfield 11, 3) := by decide +kernel
theorem dX1_use_116 : decode cX1_use 116 = .ok (.aload_n 0, 1) := by decide +kernel
theorem dX1_use_117 : decode cX1_use 117 = .ok (.getfield 122, 3) := by decide +kernel
theorem dX1_use_120 : decode cX1_use 120 = .ok (.iload_n 3, 1) := by decide +kernel
theorem dX1_use_121 : decode cX1_use 121 = .ok (.ifCond .ne 7, 3) := by decide +kernel
theorem dX1_use_124 : decode cX1_use 124 = .ok (.iconst 0, 1) := by decide +kernel
theorem dX1_use_125 : decode cX1_use 125 = .ok (.goto 4, 3) := by decide +kernel
theorem dX1_use_128 : decode cX1_use 128 = .ok (.iconst 1, 1) := by decide +kernel
theorem dX1_use_129 : decode cX1_use 129 = .ok (.iastore, 1) := by decide +kernel
theorem dX1_use_130 : decode cX1_use 130 = .ok (.aload_n 0, 1) := by decide +kernel
theorem dX1_use_131 : decode cX1_use 131 = .ok (.dup, 1) := by decide +kernel
theorem dX1_use_132 : decode cX1_use 132 = .ok (.getfield 122, 3) := by decide +kernel
theorem dX1_use_135 : decode cX1_use 135 = .ok (.iconst 1, 1) := by decide +kernel
theorem dX1_use_136 : decode cX1_use 136 = .ok (.iadd, 1) := by decide +kernel
theorem dX1_use_137 : decode cX1_use 137 = .ok (.putfield 122, 3) := by decide +kernel
theorem dX1_use_140 : decode cX1_use 140 = .ok (.aload_n 0, 1) := by decide +kernel
theorem dX1_use_141 : decode cX1_use 141 = .ok (.iload_n 2, 1) := by decide +kernel
theorem dX1_use_142 : decode cX1_use 142 = .ok (.putfield 49, 3) := by decide +kernel
theorem dX1_use_145 : decode cX1_use 145 = .ok (.return_, 1) := by decide +kernel
theorem dX1_setCell_0 : decode cX1_setCell 0 = .ok (.iload_n 1, 1) := by decide +kernel
theorem dX1_setCell_1 : decode cX1_setCell 1 = .ok (.iconst 4, 1) := by decide +kernel
theorem dX1_setCell_2 : decode cX1_setCell 2 = .ok (.ishr, 1) := by decide +kernel
theorem dX1_setCell_3 : decode cX1_setCell 3 = .ok (.iload_n 2, 1) := by decide +kernel
theorem dX1_setCell_4 : decode cX1_setCell 4 = .ok (.iadd, 1) := by decide +kernel
theorem dX1_setCell_5 : decode cX1_setCell 5 = .ok (.istore 4, 2) := by decide +kernel
theorem dX1_setCell_7 : decode cX1_setCell 7 = .ok (.aload_n 0, 1) := by decide +kernel
theorem dX1_setCell_8 : decode cX1_setCell 8 = .ok (.getfield 38, 3) := by decide +kernel
theorem dX1_setCell_11 : decode cX1_setCell 11 = .ok (.ifCond .eq 11, 3) := by decide +kernel
theorem dX1_setCell_14 : decode cX1_setCell 14 = .ok (.aload_n 0, 1) := by decide +kernel
theorem dX1_setCell_15 : decode cX1_setCell 15 = .ok (.iconst 4, 1) := by decide +kernel
theorem dX1_setCell_16 : decode cX1_setCell 16 = .ok (.putfield 61, 3) := by decide +kernel
theorem dX1_setCell_19 : decode cX1_setCell 19 = .ok (.goto 33, 3) := by decide +kernel
theorem dX1_setCell_22 : decode cX1_setCell 22 = .ok (.iload_n 2, 1) := by decide +kernel
theorem dX1_setCell_23 : decode cX1_setCell 23 = .ok (.ifCond .lt 29, 3) := by decide +kernel
theorem dX1_setCell_26 : decode cX1_setCell 26 = .ok (.iload_n 2, 1) := by decide +kernel
theorem dX1_setCell_27 : decode cX1_setCell 27 = .ok (.iload_n 1, 1) := by decide +kernel
theorem dX1_setCell_28 : decode cX1_setCell 28 = .ok (.bipush 15, 2) := by decide +kernel
theorem dX1_setCell_30 : decode cX1_setCell 30 = .ok (.iand, 1) := by decide +kernel
theorem dX1_setCell_31 : decode cX1_setCell 31 = .ok (.if_icmp .ge 21, 3) := by decide +kernel
theorem dX1_setCell_34 : decode cX1_setCell 34 = .ok (.iload 4, 2) := by decide +kernel
theorem dX1_setCell_36 : decode cX1_setCell 36 = .ok (.aload_n 0, 1) := by decide +kernel
theorem dX1_setCell_37 : decode cX1_setCell 37 = .ok (.getfield 21, 3) := by decide +kernel
theorem dX1_setCell_40 : decode cX1_setCell 40 = .ok (.arraylength, 1) := by decide +kernel
theorem dX1_setCell_41 : decode cX1_setCell 41 = .ok (.if_icmp .ge 11, 3) := by decide +kernel
theorem dX1_setCell_44 : decode cX1_setCell 44 = .ok (.aload_n 0, 1) := by decide +kernel
theorem dX1_setCell_45 : decode cX1_setCell 45 = .ok (.getfield 21, 3) := by decide +kernel
theorem dX1_setCell_48 : decode cX1_setCell 48 = .ok (.iload 4, 2) := by decide +kernel
theorem dX1_setCell_50 : decode cX1_setCell 50 = .ok (.iload_n 3, 1) := by decide +kernel
theorem dX1_setCell_51 : decode cX1_setCell 51 = .ok (.iastore, 1) := by decide +kernel
theorem dX1_setCell_52 : decode cX1_setCell 52 = .ok (.return_, 1) := by decide +kernel
theorem dX1_enter_0 : decode cX1_enter 0 = .ok (.aload_n 0, 1) := by decide +kernel
theorem dX1_enter_1 : decode cX1_enter 1 = .ok (.getfield 119, 3) := by decide +kernel
theorem dX1_enter_4 : decode cX1_enter 4 = .ok (.bipush 20, 2) := by decide +kernel
theorem dX1_enter_6 : decode cX1_enter 6 = .ok (.if_icmp .ge 18, 3) := by decide +kernel
theorem dX1_enter_9 : decode cX1_enter 9 = .ok (.iload_n 1, 1) := by decide +kernel
theorem dX1_enter_10 : decode cX1_enter 10 = .ok (.ifCond .lt 14, 3) := by decide +kernel
theorem dX1_enter_13 : decode cX1_enter 13 = .ok (.iload_n 1, 1) := by decide +kernel
theorem dX1_enter_14 : decode cX1_enter 14 = .ok (.aload_n 0, 1) := by decide +kernel
theorem dX1_enter_15 : decode cX1_enter 15 = .ok (.getfield 30, 3) := by decide +kernel
theorem dX1_enter_18 : decode cX1_enter 18 = .ok (.getfield 153, 3) := by decide +kernel
theorem dX1_enter_21 : decode cX1_enter 21 = .ok (.if_icmp .lt 9, 3) := by decide +kernel
theorem dX1_enter_24 : decode cX1_enter 24 = .ok (.aload_n 0, 1) := by decide +kernel
theorem dX1_enter_25 : decode cX1_enter 25 = .ok (.iconst 3, 1) := by decide +kernel
theorem dX1_enter_26 : decode cX1_enter 26 = .ok (.putfield 61, 3) := by decide +kernel
theorem dX1_enter_29 : decode cX1_enter 29 = .ok (.return_, 1) := by decide +kernel
theorem dX1_enter_30 : decode cX1_enter 30 = .ok (.aload_n 0, 1) := by decide +kernel
theorem dX1_enter_31 : decode cX1_enter 31 = .ok (.getfield 30, 3) := by decide +kernel
theorem dX1_enter_34 : decode cX1_enter 34 = .ok (.getfield 156, 3) := by decide +kernel
theorem dX1_enter_37 : decode cX1_enter 37 = .ok (.iload_n 1, 1) := by decide +kernel
theorem dX1_enter_38 : decode cX1_enter 38 = .ok (.aaload, 1) := by decide +kernel
theorem dX1_enter_39 : decode cX1_enter 39 = .ok (.astore_n 2, 1) := by decide +kernel
theorem dX1_enter_40 : decode cX1_enter 40 = .ok (.aload_n 0, 1) := by decide +kernel
theorem dX1_enter_41 : decode cX1_enter 41 = .ok (.dup, 1) := by decide +kernel
theorem dX1_enter_42 : decode cX1_enter 42 = .ok (.getfield 119, 3) := by decide +kernel
theorem dX1_enter_45 : decode cX1_enter 45 = .ok (.iconst 1, 1) := by decide +kernel
theorem dX1_enter_46 : decode cX1_enter 46 = .ok (.iadd, 1) := by decide +kernel
theorem dX1_enter_47 : decode cX1_enter 47 = .ok (.putfield 119, 3) := by decide +kernel
theorem dX1_enter_50 : decode cX1_enter 50 = .ok (.aload_n 0, 1) := by decide +kernel
theorem dX1_enter_51 : decode cX1_enter 51 = .ok (.getfield 18, 3) := by decide +kernel
theorem dX1_enter_54 : decode cX1_enter 54 = .ok (.aload_n 0, 1) := by decide +kernel
theorem dX1_enter_55 : decode cX1_enter 55 = .ok (.getfield 119, 3) := by decide +kernel
theorem dX1_enter_58 : decode cX1_enter 58 = .ok (.aload_n 0, 1) := by decide +kernel
theorem dX1_enter_59 : decode cX1_enter 59 = .ok (.getfield 49, 3) := by decide +kernel
theorem dX1_enter_62 : decode cX1_enter 62 = .ok (.iastore, 1) := by decide +kernel
theorem dX1_enter_63 : decode cX1_enter 63 = .ok (.aload_n 0, 1) := by decide +kernel
theorem dX1_enter_64 : decode cX1_enter 64 = .ok (.aload_n 2, 1) := by decide +kernel
theorem dX1_enter_65 : decode cX1_enter 65 = .ok (.getfield 52, 3) := by decide +kernel
theorem dX1_enter_68 : decode cX1_enter 68 = .ok (.putfield 49, 3) := by decide +kernel
theorem dX1_enter_71 : decode cX1_enter 71 = .ok (.aload_n 0, 1) := by decide +kernel
theorem dX1_enter_72 : decode cX1_enter 72 = .ok (.aload_n 0, 1) := by decide +kernel
theorem dX1_enter_73 : decode cX1_enter 73 = .ok (.getfield 122, 3) := by decide +kernel
theorem dX1_enter_76 : decode cX1_enter 76 = .ok (.aload_n 2, 1) := by decide +kernel
theorem dX1_enter_77 : decode cX1_enter 77 = .ok (.getfield 160, 3) := by decide +kernel
theorem dX1_enter_80 : decode cX1_enter 80 = .ok (.if_icmp .le 15, 3) := by decide +kernel
theorem dX1_enter_83 : decode cX1_enter 83 = .ok (.aload_n 0, 1) := by decide +kernel
theorem dX1_enter_84 : decode cX1_enter 84 = .ok (.getfield 122, 3) := by decide +kernel
theorem dX1_enter_87 : decode cX1_enter 87 = .ok (.aload_n 2, 1) := by decide +kernel
theorem dX1_enter_88 : decode cX1_enter 88 = .ok (.getfield 160, 3) := by decide +kernel
theorem dX1_enter_91 : decode cX1_enter 91 = .ok (.isub, 1) := by decide +kernel
theorem dX1_enter_92 : decode cX1_enter 92 = .ok (.goto 4, 3) := by decide +kernel
theorem dX1_enter_95 : decode cX1_enter 95 = .ok (.iconst 0, 1) := by decide +kernel
theorem dX1_enter_96 : decode cX1_enter 96 = .ok (.putfield 122, 3) := by decide +kernel
theorem dX1_enter_99 : decode cX1_enter 99 = .ok (.iconst 0, 1) := by decide +kernel
theorem dX1_enter_100 : decode cX1_enter 100 = .ok (.istore_n 3, 1) := by decide +kernel
theorem dX1_enter_101 : decode cX1_enter 101 = .ok (.iload_n 3, 1) := by decide +kernel
theorem dX1_enter_102 : decode cX1_enter 102 = .ok (.aload_n 2, 1) := by decide +kernel
theorem dX1_enter_103 : decode cX1_enter 103 = .ok (.getfield 160, 3) := by decide +kernel
theorem dX1_enter_106 : decode cX1_enter 106 = .ok (.if_icmp .ge 34, 3) := by decide +kernel
theorem dX1_enter_109 : decode cX1_enter 109 = .ok (.aload_n 0, 1) := by decide +kernel
theorem dX1_enter_110 : decode cX1_enter 110 = .ok (.getfield 15, 3) := by decide +kernel
theorem dX1_enter_113 : decode cX1_enter 113 = .ok (.aload_n 0, 1) := by decide +kernel
theorem dX1_enter_114 : decode cX1_enter 114 = .ok (.getfield 119, 3) := by decide +kernel
theorem dX1_enter_117 : decode cX1_enter 117 = .ok (.bipush 11, 2) := by decide +kernel
theorem dX1_enter_119 : decode cX1_enter 119 = .ok (.imul, 1) := by decide +kernel
theorem dX1_enter_120 : decode cX1_enter 120 = .ok (.iload_n 3, 1) := by decide +kernel
theorem dX1_enter_121 : decode cX1_enter 121 = .ok (.iadd, 1) := by decide +kernel
theorem dX1_enter_122 : decode cX1_enter 122 = .ok (.aload_n 0, 1) := by decide +kernel
theorem dX1_enter_123 : decode cX1_enter 123 = .ok (.getfield 11, 3) := by decide +kernel
theorem dX1_enter_126 : decode cX1_enter 126 = .ok (.aload_n 0, 1) := by decide +kernel
theorem dX1_enter_127 : decode cX1_enter 127 = .ok (.getfield 122, 3) := by decide +kernel
theorem dX1_enter_130 : decode cX1_enter 130 = .ok (.iload_n 3, 1) := by decide +kernel
theorem dX1_enter_131 : decode cX1_enter 131 = .ok (.iadd, 1) := by decide +kernel
theorem dX1_enter_132 : decode cX1_enter 132 = .ok (.iaload, 1) := by decide +kernel
theorem dX1_enter_133 : decode cX1_enter 133 = .ok (.iastore, 1) := by decide +kernel
theorem dX1_enter_134 : decode cX1_enter 134 = .ok (.iinc 3 1, 3) := by decide +kernel
theorem dX1_enter_137 : decode cX1_enter 137 = .ok (.goto (-36), 3) := by decide +kernel
theorem dX1_enter_140 : decode cX1_enter 140 = .ok (.return_, 1) := by decide +kernel
theorem dX1_leave_0 : decode cX1_leave 0 = .ok (.aload_n 0, 1) := by decide +kernel
theorem dX1_leave_1 : decode cX1_leave 1 = .ok (.getfield 119, 3) := by decide +kernel
theorem dX1_leave_4 : decode cX1_leave 4 = .ok (.aload_n 0, 1) := by decide +kernel
theorem dX1_leave_5 : decode cX1_leave 5 = .ok (.getfield 46, 3) := by decide +kernel
theorem dX1_leave_8 : decode cX1_leave 8 = .ok (.if_icmp .ne 14, 3) := by decide +kernel
theorem dX1_leave_11 : decode cX1_leave 11 = .ok (.aload_n 0, 1) := by decide +kernel
theorem dX1_leave_12 : decode cX1_leave 12 = .ok (.iload_n 1, 1) := by decide +kernel
theorem dX1_leave_13 : decode cX1_leave 13 = .ok (.putfield 128, 3) := by decide +kernel
theorem dX1_leave_16 : decode cX1_leave 16 = .ok (.aload_n 0, 1) := by decide +kernel
theorem dX1_leave_17 : decode cX1_leave 17 = .ok (.iconst 1, 1) := by decide +kernel
theorem dX1_leave_18 : decode cX1_leave 18 = .ok (.putfield 61, 3) := by decide +kernel
theorem dX1_leave_21 : decode cX1_leave 21 = .ok (.return_, 1) := by decide +kernel
theorem dX1_leave_22 : decode cX1_leave 22 = .ok (.aload_n 0, 1) := by decide +kernel
theorem dX1_leave_23 : decode cX1_leave 23 = .ok (.aload_n 0, 1) := by decide +kernel
theorem dX1_leave_24 : decode cX1_leave 24 = .ok (.getfield 18, 3) := by decide +kernel
theorem dX1_leave_27 : decode cX1_leave 27 = .ok (.aload_n 0, 1) := by decide +kernel
theorem dX1_leave_28 : decode cX1_leave 28 = .ok (.getfield 119, 3) := by decide +kernel
theorem dX1_leave_31 : decode cX1_leave 31 = .ok (.iaload, 1) := by decide +kernel
theorem dX1_leave_32 : decode cX1_leave 32 = .ok (.putfield 49, 3) := by decide +kernel
theorem dX1_leave_35 : decode cX1_leave 35 = .ok (.aload_n 0, 1) := by decide +kernel
theorem dX1_leave_36 : decode cX1_leave 36 = .ok (.dup, 1) := by decide +kernel
theorem dX1_leave_37 : decode cX1_leave 37 = .ok (.getfield 119, 3) := by decide +kernel
theorem dX1_leave_40 : decode cX1_leave 40 = .ok (.iconst 1, 1) := by decide +kernel
theorem dX1_leave_41 : decode cX1_leave 41 = .ok (.isub, 1) := by decide +kernel
theorem dX1_leave_42 : decode cX1_leave 42 = .ok (.putfield 119, 3) := by decide +kernel
theorem dX1_leave_45 : decode cX1_leave 45 = .ok (.aload_n 0, 1) := by decide +kernel
theorem dX1_leave_46 : decode cX1_leave 46 = .ok (.getfield 122, 3) := by decide +kernel
theorem dX1_leave_49 : decode cX1_leave 49 = .ok (.sipush 700, 3) := by decide +kernel
theorem dX1_leave_52 : decode cX1_leave 52 = .ok (.if_icmp .ge 23, 3) := by decide +kernel
theorem dX1_leave_55 : decode cX1_leave 55 = .ok (.aload_n 0, 1) := by decide +kernel
theorem dX1_leave_56 : decode cX1_leave 56 = .ok (.getfield 11, 3) := by decide +kernel
theorem dX1_leave_59 : decode cX1_leave 59 = .ok (.aload_n 0, 1) := by decide +kernel
theorem dX1_leave_60 : decode cX1_leave 60 = .ok (.getfield 122, 3) := by decide +kernel
theorem dX1_leave_63 : decode cX1_leave 63 = .ok (.iload_n 1, 1) := by decide +kernel
theorem dX1_leave_64 : decode cX1_leave 64 = .ok (.iastore, 1) := by decide +kernel
theorem dX1_leave_65 : decode cX1_leave 65 = .ok (.aload_n 0, 1) := by decide +kernel
theorem dX1_leave_66 : decode cX1_leave 66 = .ok (.dup, 1) := by decide +kernel
theorem dX1_leave_67 : decode cX1_leave 67 = .ok (.getfield 122, 3) := by decide +kernel
theorem dX1_leave_70 : decode cX1_leave 70 = .ok (.iconst 1, 1) := by decide +kernel
theorem dX1_leave_71 : decode cX1_leave 71 = .ok (.iadd, 1) := by decide +kernel
theorem dX1_leave_72 : decode cX1_leave 72 = .ok (.putfield 122, 3) := by decide +kernel
theorem dX1_leave_75 : decode cX1_leave 75 = .ok (.return_, 1) := by decide +kernel
theorem dX3_roomForCall_0 : decode cX3_roomForCall 0 = .ok (.aload_n 0, 1) := by decide +kernel
theorem dX3_roomForCall_1 : decode cX3_roomForCall 1 = .ok (.getfield 28, 3) := by decide +kernel
theorem dX3_roomForCall_4 : decode cX3_roomForCall 4 = .ok (.bipush 10, 2) := by decide +kernel
theorem dX3_roomForCall_6 : decode cX3_roomForCall 6 = .ok (.if_icmp .ge 7, 3) := by decide +kernel
theorem dX3_roomForCall_9 : decode cX3_roomForCall 9 = .ok (.iconst 1, 1) := by decide +kernel
theorem dX3_roomForCall_10 : decode cX3_roomForCall 10 = .ok (.goto 4, 3) := by decide +kernel
theorem dX3_roomForCall_13 : decode cX3_roomForCall 13 = .ok (.iconst 0, 1) := by decide +kernel
theorem dX3_roomForCall_14 : decode cX3_roomForCall 14 = .ok (.ireturn, 1) := by decide +kernel
theorem dX3_roomForMake_0 : decode cX3_roomForMake 0 = .ok (.aload_n 0, 1) := by decide +kernel
theorem dX3_roomForMake_1 : decode cX3_roomForMake 1 = .ok (.getfield 28, 3) := by decide +kernel
theorem dX3_roomForMake_4 : decode cX3_roomForMake 4 = .ok (.bipush 10, 2) := by decide +kernel
theorem dX3_roomForMake_6 : decode cX3_roomForMake 6 = .ok (.if_icmp .ge 15, 3) := by decide +kernel
theorem dX3_roomForMake_9 : decode cX3_roomForMake 9 = .ok (.aload_n 0, 1) := by decide +kernel
theorem dX3_roomForMake_10 : decode cX3_roomForMake 10 = .ok (.getfield 32, 3) := by decide +kernel
theorem dX3_roomForMake_13 : decode cX3_roomForMake 13 = .ok (.iconst 3, 1) := by decide +kernel
theorem dX3_roomForMake_14 : decode cX3_roomForMake 14 = .ok (.if_icmp .ge 7, 3) := by decide +kernel
theorem dX3_roomForMake_17 : decode cX3_roomForMake 17 = .ok (.iconst 1, 1) := by decide +kernel
theorem dX3_roomForMake_18 : decode cX3_roomForMake 18 = .ok (.goto 4, 3) := by decide +kernel
theorem dX3_roomForMake_21 : decode cX3_roomForMake 21 = .ok (.iconst 0, 1) := by decide +kernel
theorem dX3_roomForMake_22 : decode cX3_roomForMake 22 = .ok (.ireturn, 1) := by decide +kernel
theorem dX3_wipe_0 : decode cX3_wipe 0 = .ok (.aload_n 0, 1) := by decide +kernel
theorem dX3_wipe_1 : decode cX3_wipe 1 = .ok (.iconst 0, 1) := by decide +kernel
theorem dX3_wipe_2 : decode cX3_wipe 2 = .ok (.putfield 28, 3) := by decide +kernel
theorem dX3_wipe_5 : decode cX3_wipe 5 = .ok (.aload_n 0, 1) := by decide +kernel
theorem dX3_wipe_6 : decode cX3_wipe 6 = .ok (.iconst 0, 1) := by decide +kernel
theorem dX3_wipe_7 : decode cX3_wipe 7 = .ok (.putfield 32, 3) := by decide +kernel
theorem dX3_wipe_10 : decode cX3_wipe 10 = .ok (.return_, 1) := by decide +kernel
theorem dX3_mayTake_0 : decode cX3_mayTake 0 = .ok (.iload_n 2, 1) := by decide +kernel
theorem dX3_mayTake_1 : decode cX3_mayTake 1 = .ok (.ifCond .lt 25, 3) := by decide +kernel
theorem dX3_mayTake_4 : decode cX3_mayTake 4 = .ok (.iload_n 2, 1) := by decide +kernel
theorem dX3_mayTake_5 : decode cX3_mayTake 5 = .ok (.aload_n 0, 1) := by decide +kernel
theorem dX3_mayTake_6 : decode cX3_mayTake 6 = .ok (.getfield 32, 3) := by decide +kernel
theorem dX3_mayTake_9 : decode cX3_mayTake 9 = .ok (.if_icmp .ge 17, 3) := by decide +kernel
theorem dX3_mayTake_12 : decode cX3_mayTake 12 = .ok (.aload_n 1, 1) := by decide +kernel
theorem dX3_mayTake_13 : decode cX3_mayTake 13 = .ok (.aload_n 0, 1) := by decide +kernel
theorem dX3_mayTake_14 : decode cX3_mayTake 14 = .ok (.getfield 25, 3) := by decide +kernel
theorem dX3_mayTake_17 : decode cX3_mayTake 17 = .ok (.iload_n 2, 1) := by decide +kernel
theorem dX3_mayTake_18 : decode cX3_mayTake 18 = .ok (.iaload, 1) := by decide +kernel
theorem dX3_mayTake_19 : decode cX3_mayTake 19 = .ok (.iload_n 3, 1) := by decide +kernel
theorem dX3_mayTake_20 : decode cX3_mayTake 20 = .ok (.invokevirtual 35, 3) := by decide +kernel
theorem dX3_mayTake_23 : decode cX3_mayTake 23 = .ok (.ifCond .ne 5, 3) := by decide +kernel
theorem dX3_mayTake_26 : decode cX3_mayTake 26 = .ok (.iconst 0, 1) := by decide +kernel
theorem dX3_mayTake_27 : decode cX3_mayTake 27 = .ok (.ireturn, 1) := by decide +kernel
theorem dX3_mayTake_28 : decode cX3_mayTake 28 = .ok (.aload_n 0, 1) := by decide +kernel
theorem dX3_mayTake_29 : decode cX3_mayTake 29 = .ok (.aload_n 1, 1) := by decide +kernel
theorem dX3_mayTake_30 : decode cX3_mayTake 30 = .ok (.iload_n 2, 1) := by decide +kernel
theorem dX3_mayTake_31 : decode cX3_mayTake 31 = .ok (.iload_n 3, 1) := by decide +kernel
theorem dX3_mayTake_32 : decode cX3_mayTake 32 = .ok (.invokevirtual 41, 3) := by decide +kernel
theorem dX3_mayTake_35 : decode cX3_mayTake 35 = .ok (.astore 7, 2) := by decide +kernel
theorem dX3_mayTake_37 : decode cX3_mayTake 37 = .ok (.aload 7, 2) := by decide +kernel
theorem dX3_mayTake_39 : decode cX3_mayTake 39 = .ok (.iconst 0, 1) := by decide +kernel
theorem dX3_mayTake_40 : decode cX3_mayTake 40 = .ok (.iload 4, 2) := by decide +kernel
theorem dX3_mayTake_42 : decode cX3_mayTake 42 = .ok (.invokevirtual 45, 3) := by decide +kernel
theorem dX3_mayTake_45 : decode cX3_mayTake 45 = .ok (.ifCond .eq 29, 3) := by decide +kernel
theorem dX3_mayTake_48 : decode cX3_mayTake 48 = .ok (.aload 7, 2) := by decide +kernel
theorem dX3_mayTake_50 : decode cX3_mayTake 50 = .ok (.iconst 1, 1) := by decide +kernel
theorem dX3_mayTake_51 : decode cX3_mayTake 51 = .ok (.iload 5, 2) := by decide +kernel
theorem dX3_mayTake_53 : decode cX3_mayTake 53 = .ok (.invokevirtual 45, 3) := by decide +kernel
theorem dX3_mayTake_56 : decode cX3_mayTake 56 = .ok (.ifCond .eq 18, 3) := by decide +kernel
theorem dX3_mayTake_59 : decode cX3_mayTake 59 = .ok (.aload 7, 2) := by decide +kernel
theorem dX3_mayTake_61 : decode cX3_mayTake 61 = .ok (.iconst 2, 1) := by decide +kernel
theorem dX3_mayTake_62 : decode cX3_mayTake 62 = .ok (.iload 6, 2) := by decide +kernel
theorem dX3_mayTake_64 : decode cX3_mayTake 64 = .ok (.invokevirtual 45, 3) := by decide +kernel
theorem dX3_mayTake_67 : decode cX3_mayTake 67 = .ok (.ifCond .eq 7, 3) := by decide +kernel
theorem dX3_mayTake_70 : decode cX3_mayTake 70 = .ok (.iconst 1, 1) := by decide +kernel
theorem dX3_mayTake_71 : decode cX3_mayTake 71 = .ok (.goto 4, 3) := by decide +kernel
theorem dX3_mayTake_74 : decode cX3_mayTake 74 = .ok (.iconst 0, 1) := by decide +kernel
theorem dX3_mayTake_75 : decode cX3_mayTake 75 = .ok (.ireturn, 1) := by decide +kernel
theorem dX3_tellingOf_0 : decode cX3_tellingOf 0 = .ok (.aload_n 1, 1) := by decide +kernel
theorem dX3_tellingOf_1 : decode cX3_tellingOf 1 = .ok (.getfield 48, 3) := by decide +kernel
theorem dX3_tellingOf_4 : decode cX3_tellingOf 4 = .ok (.aload_n 1, 1) := by decide +kernel
theorem dX3_tellingOf_5 : decode cX3_tellingOf 5 = .ok (.getfield 52, 3) := by decide +kernel
theorem dX3_tellingOf_8 : decode cX3_tellingOf 8 = .ok (.aload_n 0, 1) := by decide +kernel
theorem dX3_tellingOf_9 : decode cX3_tellingOf 9 = .ok (.getfield 25, 3) := by decide +kernel
theorem dX3_tellingOf_12 : decode cX3_tellingOf 12 = .ok (.iload_n 2, 1) := by decide +kernel
theorem dX3_tellingOf_13 : decode cX3_tellingOf 13 = .ok (.iaload, 1) := by decide +kernel
theorem dX3_tellingOf_14 : decode cX3_tellingOf 14 = .ok (.aaload, 1) := by decide +kernel
theorem dX3_tellingOf_15 : decode cX3_tellingOf 15 = .ok (.getfield 56, 3) := by decide +kernel
theorem dX3_tellingOf_18 : decode cX3_tellingOf 18 = .ok (.iload_n 3, 1) := by decide +kernel
theorem dX3_tellingOf_19 : decode cX3_tellingOf 19 = .ok (.iaload, 1) := by decide +kernel
theorem dX3_tellingOf_20 : decode cX3_tellingOf 20 = .ok (.aaload, 1) := by decide +kernel
theorem dX3_tellingOf_21 : decode cX3_tellingOf 21 = .ok (.areturn, 1) := by decide +kernel
theorem dX3_addMake_0 : decode cX3_addMake 0 = .ok (.aload_n 0, 1) := by decide +kernel
theorem dX3_addMake_1 : decode cX3_addMake 1 = .ok (.getfield 28, 3) := by decide +kernel
theorem dX3_addMake_4 : decode cX3_addMake 4 = .ok (.bipush 10, 2) := by decide +kernel
theorem dX3_addMake_6 : decode cX3_addMake 6 = .ok (.if_icmp .ge 57, 3) := by decide +kernel
theorem dX3_addMake_9 : decode cX3_addMake 9 = .ok (.aload_n 0, 1) := by decide +kernel
theorem dX3_addMake_10 : decode cX3_addMake 10 = .ok (.getfield 32, 3) := by decide +kernel
theorem dX3_addMake_13 : decode cX3_addMake 13 = .ok (.iconst 3, 1) := by decide +kernel
theorem dX3_addMake_14 : decode cX3_addMake 14 = .ok (.if_icmp .ge 49, 3) := by decide +kernel
theorem dX3_addMake_17 : decode cX3_addMake 17 = .ok (.aload_n 0, 1) := by decide +kernel
theorem dX3_addMake_18 : decode cX3_addMake 18 = .ok (.getfield 25, 3) := by decide +kernel
theorem dX3_addMake_21 : decode cX3_addMake 21 = .ok (.aload_n 0, 1) := by decide +kernel
theorem dX3_addMake_22 : decode cX3_addMake 22 = .ok (.getfield 32, 3) := by decide +kernel
theorem dX3_addMake_25 : decode cX3_addMake 25 = .ok (.iload_n 1, 1) := by decide +kernel
theorem dX3_addMake_26 : decode cX3_addMake 26 = .ok (.iastore, 1) := by decide +kernel
theorem dX3_addMake_27 : decode cX3_addMake 27 = .ok (.aload_n 0, 1) := by decide +kernel
theorem dX3_addMake_28 : decode cX3_addMake 28 = .ok (.aload_n 0, 1) := by decide +kernel
theorem dX3_addMake_29 : decode cX3_addMake 29 = .ok (.getfield 28, 3) := by decide +kernel
theorem dX3_addMake_32 : decode cX3_addMake 32 = .ok (.aload_n 0, 1) := by decide +kernel
theorem dX3_addMake_33 : decode cX3_addMake 33 = .ok (.getfield 32, 3) := by decide +kernel
theorem dX3_addMake_36 : decode cX3_addMake 36 = .ok (.iconst (-1), 1) := by decide +kernel
theorem dX3_addMake_37 : decode cX3_addMake 37 = .ok (.iload_n 1, 1) := by decide +kernel
theorem dX3_addMake_38 : decode cX3_addMake 38 = .ok (.iconst 0, 1) := by decide +kernel
theorem dX3_addMake_39 : decode cX3_addMake 39 = .ok (.iconst 0, 1) := by decide +kernel
theorem dX3_addMake_40 : decode cX3_addMake 40 = .ok (.invokevirtual 61, 3) := by decide +kernel
theorem dX3_addMake_43 : decode cX3_addMake 43 = .ok (.aload_n 0, 1) := by decide +kernel
theorem dX3_addMake_44 : decode cX3_addMake 44 = .ok (.dup, 1) := by decide +kernel
theorem dX3_addMake_45 : decode cX3_addMake 45 = .ok (.getfield 32, 3) := by decide +kernel
theorem dX3_addMake_48 : decode cX3_addMake 48 = .ok (.iconst 1, 1) := by decide +kernel
theorem dX3_addMake_49 : decode cX3_addMake 49 = .ok (.iadd, 1) := by decide +kernel
theorem dX3_addMake_50 : decode cX3_addMake 50 = .ok (.putfield 32, 3) := by decide +kernel
theorem dX3_addMake_53 : decode cX3_addMake 53 = .ok (.aload_n 0, 1) := by decide +kernel
theorem dX3_addMake_54 : decode cX3_addMake 54 = .ok (.dup, 1) := by decide +kernel
theorem dX3_addMake_55 : decode cX3_addMake 55 = .ok (.getfield 28, 3) := by decide +kernel
theorem dX3_addMake_58 : decode cX3_addMake 58 = .ok (.iconst 1, 1) := by decide +kernel
theorem dX3_addMake_59 : decode cX3_addMake 59 = .ok (.iadd, 1) := by decide +kernel
theorem dX3_addMake_60 : decode cX3_addMake 60 = .ok (.putfield 28, 3) := by decide +kernel
theorem dX3_addMake_63 : decode cX3_addMake 63 = .ok (.return_, 1) := by decide +kernel
theorem dX3_addCall_0 : decode cX3_addCall 0 = .ok (.aload_n 0, 1) := by decide +kernel
theorem dX3_addCall_1 : decode cX3_addCall 1 = .ok (.getfield 28, 3) := by decide +kernel
theorem dX3_addCall_4 : decode cX3_addCall 4 = .ok (.bipush 10, 2) := by decide +kernel
theorem dX3_addCall_6 : decode cX3_addCall 6 = .ok (.if_icmp .ge 28, 3) := by decide +kernel
theorem dX3_addCall_9 : decode cX3_addCall 9 = .ok (.aload_n 0, 1) := by decide +kernel
theorem dX3_addCall_10 : decode cX3_addCall 10 = .ok (.aload_n 0, 1) := by decide +kernel
theorem dX3_addCall_11 : decode cX3_addCall 11 = .ok (.getfield 28, 3) := by decide +kernel
theorem dX3_addCall_14 : decode cX3_addCall 14 = .ok (.iload_n 1, 1) := by decide +kernel
theorem dX3_addCall_15 : decode cX3_addCall 15 = .ok (.iload_n 2, 1) := by decide +kernel
theorem dX3_addCall_16 : decode cX3_addCall 16 = .ok (.iload_n 3, 1) := by decide +kernel
theorem dX3_addCall_17 : decode cX3_addCall 17 = .ok (.iload 4, 2) := by decide +kernel
theorem dX3_addCall_19 : decode cX3_addCall 19 = .ok (.iload 5, 2) := by decide +kernel
theorem dX3_addCall_21 : decode cX3_addCall 21 = .ok (.invokevirtual 61, 3) := by decide +kernel
theorem dX3_addCall_24 : decode cX3_addCall 24 = .ok (.aload_n 0, 1) := by decide +kernel
theorem dX3_addCall_25 : decode cX3_addCall 25 = .ok (.dup, 1) := by decide +kernel
theorem dX3_addCall_26 : decode cX3_addCall 26 = .ok (.getfield 28, 3) := by decide +kernel
theorem dX3_addCall_29 : decode cX3_addCall 29 = .ok (.iconst 1, 1) := by decide +kernel
theorem dX3_addCall_30 : decode cX3_addCall 30 = .ok (.iadd, 1) := by decide +kernel
theorem dX3_addCall_31 : decode cX3_addCall 31 = .ok (.putfield 28, 3) := by decide +kernel
theorem dX3_addCall_34 : decode cX3_addCall 34 = .ok (.return_, 1) := by decide +kernel
theorem dX3_setTo_0 : decode cX3_setTo 0 = .ok (.aload_n 0, 1) := by decide +kernel
theorem dX3_setTo_1 : decode cX3_setTo 1 = .ok (.getfield 13, 3) := by decide +kernel
theorem dX3_setTo_4 : decode cX3_setTo 4 = .ok (.iload_n 1, 1) := by decide +kernel
theorem dX3_setTo_5 : decode cX3_setTo 5 = .ok (.iload_n 2, 1) := by decide +kernel
theorem dX3_setTo_6 : decode cX3_setTo 6 = .ok (.iastore, 1) := by decide +kernel
theorem dX3_setTo_7 : decode cX3_setTo 7 = .ok (.aload_n 0, 1) := by decide +kernel
theorem dX3_setTo_8 : decode cX3_setTo 8 = .ok (.getfield 17, 3) := by decide +kernel
theorem dX3_setTo_11 : decode cX3_setTo 11 = .ok (.iload_n 1, 1) := by decide +kernel
theorem dX3_setTo_12 : decode cX3_setTo 12 = .ok (.iload_n 3, 1) := by decide +kernel
theorem dX3_setTo_13 : decode cX3_setTo 13 = .ok (.iastore, 1) := by decide +kernel
theorem dX3_setTo_14 : decode cX3_setTo 14 = .ok (.aload_n 0, 1) := by decide +kernel
theorem dX3_setTo_15 : decode cX3_setTo 15 = .ok (.getfield 22, 3) := by decide +kernel
theorem dX3_setTo_18 : decode cX3_setTo 18 = .ok (.iload_n 1, 1) := by decide +kernel
theorem dX3_setTo_19 : decode cX3_setTo 19 = .ok (.aaload, 1) := by decide +kernel
theorem dX3_setTo_20 : decode cX3_setTo 20 = .ok (.iconst 0, 1) := by decide +kernel
theorem dX3_setTo_21 : decode cX3_setTo 21 = .ok (.iload 4, 2) := by decide +kernel
theorem dX3_setTo_23 : decode cX3_setTo 23 = .ok (.iastore, 1) := by decide +kernel
theorem dX3_setTo_24 : decode cX3_setTo 24 = .ok (.aload_n 0, 1) := by decide +kernel
theorem dX3_setTo_25 : decode cX3_setTo 25 = .ok (.getfield 22, 3) := by decide +kernel
theorem dX3_setTo_28 : decode cX3_setTo 28 = .ok (.iload_n 1, 1) := by decide +kernel
theorem dX3_setTo_29 : decode cX3_setTo 29 = .ok (.aaload, 1) := by decide +kernel
theorem dX3_setTo_30 : decode cX3_setTo 30 = .ok (.iconst 1, 1) := by decide +kernel
theorem dX3_setTo_31 : decode cX3_setTo 31 = .ok (.iload 5, 2) := by decide +kernel
theorem dX3_setTo_33 : decode cX3_setTo 33 = .ok (.iastore, 1) := by decide +kernel
theorem dX3_setTo_34 : decode cX3_setTo 34 = .ok (.aload_n 0, 1) := by decide +kernel
theorem dX3_setTo_35 : decode cX3_setTo 35 = .ok (.getfield 22, 3) := by decide +kernel
theorem dX3_setTo_38 : decode cX3_setTo 38 = .ok (.iload_n 1, 1) := by decide +kernel
theorem dX3_setTo_39 : decode cX3_setTo 39 = .ok (.aaload, 1) := by decide +kernel
theorem dX3_setTo_40 : decode cX3_setTo 40 = .ok (.iconst 2, 1) := by decide +kernel
theorem dX3_setTo_41 : decode cX3_setTo 41 = .ok (.iload 6, 2) := by decide +kernel
theorem dX3_setTo_43 : decode cX3_setTo 43 = .ok (.iastore, 1) := by decide +kernel
theorem dX3_setTo_44 : decode cX3_setTo 44 = .ok (.return_, 1) := by decide +kernel
theorem dX3_copyFrom_0 : decode cX3_copyFrom 0 = .ok (.aload_n 0, 1) := by decide +kernel
theorem dX3_copyFrom_1 : decode cX3_copyFrom 1 = .ok (.aload_n 1, 1) := by decide +kernel
theorem dX3_copyFrom_2 : decode cX3_copyFrom 2 = .ok (.getfield 28, 3) := by decide +kernel
theorem dX3_copyFrom_5 : decode cX3_copyFrom 5 = .ok (.putfield 28, 3) := by decide +kernel
theorem dX3_copyFrom_8 : decode cX3_copyFrom 8 = .ok (.aload_n 0, 1) := by decide +kernel
theorem dX3_copyFrom_9 : decode cX3_copyFrom 9 = .ok (.aload_n 1, 1) := by decide +kernel
theorem dX3_copyFrom_10 : decode cX3_copyFrom 10 = .ok (.getfield 32, 3) := by decide +kernel
theorem dX3_copyFrom_13 : decode cX3_copyFrom 13 = .ok (.putfield 32, 3) := by decide +kernel
theorem dX3_copyFrom_16 : decode cX3_copyFrom 16 = .ok (.aload_n 1, 1) := by decide +kernel
theorem dX3_copyFrom_17 : decode cX3_copyFrom 17 = .ok (.getfield 13, 3) := by decide +kernel
theorem dX3_copyFrom_20 : decode cX3_copyFrom 20 = .ok (.iconst 0, 1) := by decide +kernel
theorem dX3_copyFrom_21 : decode cX3_copyFrom 21 = .ok (.aload_n 0, 1) := by decide +kernel
theorem dX3_copyFrom_22 : decode cX3_copyFrom 22 = .ok (.getfield 13, 3) := by decide +kernel
theorem dX3_copyFrom_25 : decode cX3_copyFrom 25 = .ok (.iconst 0, 1) := by decide +kernel
theorem dX3_copyFrom_26 : decode cX3_copyFrom 26 = .ok (.bipush 10, 2) := by decide +kernel
theorem dX3_copyFrom_28 : decode cX3_copyFrom 28 = .ok (.invokestatic 65, 3) := by decide +kernel
theorem dX3_copyFrom_31 : decode cX3_copyFrom 31 = .ok (.aload_n 1, 1) := by decide +kernel
theorem dX3_copyFrom_32 : decode cX3_copyFrom 32 = .ok (.getfield 17, 3) := by decide +kernel
theorem dX3_copyFrom_35 : decode cX3_copyFrom 35 = .ok (.iconst 0, 1) := by decide +kernel
theorem dX3_copyFrom_36 : decode cX3_copyFrom 36 = .ok (.aload_n 0, 1) := by decide +kernel
theorem dX3_copyFrom_37 : decode cX3_copyFrom 37 = .ok (.getfield 17, 3) := by decide +kernel
theorem dX3_copyFrom_40 : decode cX3_copyFrom 40 = .ok (.iconst 0, 1) := by decide +kernel
theorem dX3_copyFrom_41 : decode cX3_copyFrom 41 = .ok (.bipush 10, 2) := by decide +kernel
theorem dX3_copyFrom_43 : decode cX3_copyFrom 43 = .ok (.invokestatic 65, 3) := by decide +kernel
theorem dX3_copyFrom_46 : decode cX3_copyFrom 46 = .ok (.aload_n 1, 1) := by decide +kernel
theorem dX3_copyFrom_47 : decode cX3_copyFrom 47 = .ok (.getfield 25, 3) := by decide +kernel
theorem dX3_copyFrom_50 : decode cX3_copyFrom 50 = .ok (.iconst 0, 1) := by decide +kernel
theorem dX3_copyFrom_51 : decode cX3_copyFrom 51 = .ok (.aload_n 0, 1) := by decide +kernel
theorem dX3_copyFrom_52 : decode cX3_copyFrom 52 = .ok (.getfield 25, 3) := by decide +kernel
theorem dX3_copyFrom_55 : decode cX3_copyFrom 55 = .ok (.iconst 0, 1) := by decide +kernel
theorem dX3_copyFrom_56 : decode cX3_copyFrom 56 = .ok (.iconst 3, 1) := by decide +kernel
theorem dX3_copyFrom_57 : decode cX3_copyFrom 57 = .ok (.invokestatic 65, 3) := by decide +kernel
theorem dX3_copyFrom_60 : decode cX3_copyFrom 60 = .ok (.iconst 0, 1) := by decide +kernel
theorem dX3_copyFrom_61 : decode cX3_copyFrom 61 = .ok (.istore_n 2, 1) := by decide +kernel
theorem dX3_copyFrom_62 : decode cX3_copyFrom 62 = .ok (.iload_n 2, 1) := by decide +kernel
theorem dX3_copyFrom_63 : decode cX3_copyFrom 63 = .ok (.bipush 10, 2) := by decide +kernel
theorem dX3_copyFrom_65 : decode cX3_copyFrom 65 = .ok (.if_icmp .ge 27, 3) := by decide +kernel
theorem dX3_copyFrom_68 : decode cX3_copyFrom 68 = .ok (.aload_n 1, 1) := by decide +kernel
theorem dX3_copyFrom_69 : decode cX3_copyFrom 69 = .ok (.getfield 22, 3) := by decide +kernel
theorem dX3_copyFrom_72 : decode cX3_copyFrom 72 = .ok (.iload_n 2, 1) := by decide +kernel
theorem dX3_copyFrom_73 : decode cX3_copyFrom 73 = .ok (.aaload, 1) := by decide +kernel
theorem dX3_copyFrom_74 : decode cX3_copyFrom 74 = .ok (.iconst 0, 1) := by decide +kernel
theorem dX3_copyFrom_75 : decode cX3_copyFrom 75 = .ok (.aload_n 0, 1) := by decide +kernel
theorem dX3_copyFrom_76 : decode cX3_copyFrom 76 = .ok (.getfield 22, 3) := by decide +kernel
theorem dX3_copyFrom_79 : decode cX3_copyFrom 79 = .ok (.iload_n 2, 1) := by decide +kernel
theorem dX3_copyFrom_80 : decode cX3_copyFrom 80 = .ok (.aaload, 1) := by decide +kernel
theorem dX3_copyFrom_81 : decode cX3_copyFrom 81 = .ok (.iconst 0, 1) := by decide +kernel
theorem dX3_copyFrom_82 : decode cX3_copyFrom 82 = .ok (.iconst 3, 1) := by decide +kernel
theorem dX3_copyFrom_83 : decode cX3_copyFrom 83 = .ok (.invokestatic 65, 3) := by decide +kernel
theorem dX3_copyFrom_86 : decode cX3_copyFrom 86 = .ok (.iinc 2 1, 3) := by decide +kernel
theorem dX3_copyFrom_89 : decode cX3_copyFrom 89 = .ok (.goto (-27), 3) := by decide +kernel
theorem dX3_copyFrom_92 : decode cX3_copyFrom 92 = .ok (.return_, 1) := by decide +kernel
theorem dX3_shorten_0 : decode cX3_shorten 0 = .ok (.aload_n 0, 1) := by decide +kernel
theorem dX3_shorten_1 : decode cX3_shorten 1 = .ok (.getfield 28, 3) := by decide +kernel
theorem dX3_shorten_4 : decode cX3_shorten 4 = .ok (.iconst 1, 1) := by decide +kernel
theorem dX3_shorten_5 : decode cX3_shorten 5 = .ok (.isub, 1) := by decide +kernel
theorem dX3_shorten_6 : decode cX3_shorten 6 = .ok (.istore_n 2, 1) := by decide +kernel
theorem dX3_shorten_7 : decode cX3_shorten 7 = .ok (.iload_n 2, 1) := by decide +kernel
theorem dX3_shorten_8 : decode cX3_shorten 8 = .ok (.iload_n 1, 1) := by decide +kernel
theorem dX3_shorten_9 : decode cX3_shorten 9 = .ok (.if_icmp .lt 42, 3) := by decide +kernel
theorem dX3_shorten_12 : decode cX3_shorten 12 = .ok (.iload_n 2, 1) := by decide +kernel
theorem dX3_shorten_13 : decode cX3_shorten 13 = .ok (.ifCond .lt 38, 3) := by decide +kernel
theorem dX3_shorten_16 : decode cX3_shorten 16 = .ok (.aload_n 0, 1) := by decide +kernel
theorem dX3_shorten_17 : decode cX3_shorten 17 = .ok (.iload_n 2, 1) := by decide +kernel
theorem dX3_shorten_18 : decode cX3_shorten 18 = .ok (.putfield 28, 3) := by decide +kernel
theorem dX3_shorten_21 : decode cX3_shorten 21 = .ok (.aload_n 0, 1) := by decide +kernel
theorem dX3_shorten_22 : decode cX3_shorten 22 = .ok (.dup, 1) := by decide +kernel
theorem dX3_shorten_23 : decode cX3_shorten 23 = .ok (.getfield 32, 3) := by decide +kernel
theorem dX3_shorten_26 : decode cX3_shorten 26 = .ok (.aload_n 0, 1) := by decide +kernel
theorem dX3_shorten_27 : decode cX3_shorten 27 = .ok (.getfield 17, 3) := by decide +kernel
theorem dX3_shorten_30 : decode cX3_shorten 30 = .ok (.iload_n 2, 1) := by decide +kernel
theorem dX3_shorten_31 : decode cX3_shorten 31 = .ok (.iaload, 1) := by decide +kernel
theorem dX3_shorten_32 : decode cX3_shorten 32 = .ok (.iconst (-1), 1) := by decide +kernel
theorem dX3_shorten_33 : decode cX3_shorten 33 = .ok (.if_icmp .ne 7, 3) := by decide +kernel
theorem dX3_shorten_36 : decode cX3_shorten 36 = .ok (.iconst 1, 1) := by decide +kernel
theorem dX3_shorten_37 : decode cX3_shorten 37 = .ok (.goto 4, 3) := by decide +kernel
theorem dX3_shorten_40 : decode cX3_shorten 40 = .ok (.iconst 0, 1) := by decide +kernel
theorem dX3_shorten_41 : decode cX3_shorten 41 = .ok (.isub, 1) := by decide +kernel
theorem dX3_shorten_42 : decode cX3_shorten 42 = .ok (.putfield 32, 3) := by decide +kernel
theorem dX3_shorten_45 : decode cX3_shorten 45 = .ok (.iinc 2 (-1), 3) := by decide +kernel
theorem dX3_shorten_48 : decode cX3_shorten 48 = .ok (.goto (-41), 3) := by decide +kernel
theorem dX3_shorten_51 : decode cX3_shorten 51 = .ok (.return_, 1) := by decide +kernel
theorem dX3_lowerArguments_0 : decode cX3_lowerArguments 0 = .ok (.aload_n 0, 1) := by decide +kernel
theorem dX3_lowerArguments_1 : decode cX3_lowerArguments 1 = .ok (.aload_n 1, 1) := by decide +kernel
theorem dX3_lowerArguments_2 : decode cX3_lowerArguments 2 = .ok (.aload_n 0, 1) := by decide +kernel
theorem dX3_lowerArguments_3 : decode cX3_lowerArguments 3 = .ok (.getfield 13, 3) := by decide +kernel
theorem dX3_lowerArguments_6 : decode cX3_lowerArguments 6 = .ok (.iload_n 2, 1) := by decide +kernel
theorem dX3_lowerArguments_7 : decode cX3_lowerArguments 7 = .ok (.iaload, 1) := by decide +kernel
theorem dX3_lowerArguments_8 : decode cX3_lowerArguments 8 = .ok (.aload_n 0, 1) := by decide +kernel
theorem dX3_lowerArguments_9 : decode cX3_lowerArguments 9 = .ok (.getfield 17, 3) := by decide +kernel
theorem dX3_lowerArguments_12 : decode cX3_lowerArguments 12 = .ok (.iload_n 2, 1) := by decide +kernel
theorem dX3_lowerArguments_13 : decode cX3_lowerArguments 13 = .ok (.iaload, 1) := by decide +kernel
theorem dX3_lowerArguments_14 : decode cX3_lowerArguments 14 = .ok (.invokevirtual 41, 3) := by decide +kernel
theorem dX3_lowerArguments_17 : decode cX3_lowerArguments 17 = .ok (.astore 4, 2) := by decide +kernel
theorem dX3_lowerArguments_19 : decode cX3_lowerArguments 19 = .ok (.iload_n 3, 1) := by decide +kernel
theorem dX3_lowerArguments_20 : decode cX3_lowerArguments 20 = .ok (.istore 5, 2) := by decide +kernel
theorem dX3_lowerArguments_22 : decode cX3_lowerArguments 22 = .ok (.iload 5, 2) := by decide +kernel
theorem dX3_lowerArguments_24 : decode cX3_lowerArguments 24 = .ok (.iconst 3, 1) := by decide +kernel
theorem dX3_lowerArguments_25 : decode cX3_lowerArguments 25 = .ok (.if_icmp .ge 40, 3) := by decide +kernel
theorem dX3_lowerArguments_28 : decode cX3_lowerArguments 28 = .ok (.aload_n 0, 1) := by decide +kernel
theorem dX3_lowerArguments_29 : decode cX3_lowerArguments 29 = .ok (.getfield 22, 3) := by decide +kernel
theorem dX3_lowerArguments_32 : decode cX3_lowerArguments 32 = .ok (.iload_n 2, 1) := by decide +kernel
theorem dX3_lowerArguments_33 : decode cX3_lowerArguments 33 = .ok (.aaload, 1) := by decide +kernel
theorem dX3_lowerArguments_34 : decode cX3_lowerArguments 34 = .ok (.iload 5, 2) := by decide +kernel
theorem dX3_lowerArguments_36 : decode cX3_lowerArguments 36 = .ok (.iload 5, 2) := by decide +kernel
theorem dX3_lowerArguments_38 : decode cX3_lowerArguments 38 = .ok (.aload 4, 2) := by decide +kernel
theorem dX3_lowerArguments_40 : decode cX3_lowerArguments 40 = .ok (.getfield 71, 3) := by decide +kernel
theorem dX3_lowerArguments_43 : decode cX3_lowerArguments 43 = .ok (.if_icmp .ge 14, 3) := by decide +kernel
theorem dX3_lowerArguments_46 : decode cX3_lowerArguments 46 = .ok (.aload 4, 2) := by decide +kernel
theorem dX3_lowerArguments_48 : decode cX3_lowerArguments 48 = .ok (.getfield 74, 3) := by decide +kernel
theorem dX3_lowerArguments_51 : decode cX3_lowerArguments 51 = .ok (.iload 5, 2) := by decide +kernel
theorem dX3_lowerArguments_53 : decode cX3_lowerArguments 53 = .ok (.iaload, 1) := by decide +kernel
theorem dX3_lowerArguments_54 : decode cX3_lowerArguments 54 = .ok (.goto 4, 3) := by decide +kernel
theorem dX3_lowerArguments_57 : decode cX3_lowerArguments 57 = .ok (.iconst 0, 1) := by decide +kernel
theorem dX3_lowerArguments_58 : decode cX3_lowerArguments 58 = .ok (.iastore, 1) := by decide +kernel
theorem dX3_lowerArguments_59 : decode cX3_lowerArguments 59 = .ok (.iinc 5 1, 3) := by decide +kernel
theorem dX3_lowerArguments_62 : decode cX3_lowerArguments 62 = .ok (.goto (-40), 3) := by decide +kernel
theorem dX3_lowerArguments_65 : decode cX3_lowerArguments 65 = .ok (.return_, 1) := by decide +kernel
theorem dX3_fillFrom_0 : decode cX3_fillFrom 0 = .ok (.aload_n 0, 1) := by decide +kernel
theorem dX3_fillFrom_1 : decode cX3_fillFrom 1 = .ok (.iload_n 3, 1) := by decide +kernel
theorem dX3_fillFrom_2 : decode cX3_fillFrom 2 = .ok (.invokevirtual 77, 3) := by decide +kernel
theorem dX3_fillFrom_5 : decode cX3_fillFrom 5 = .ok (.iload_n 3, 1) := by decide +kernel
theorem dX3_fillFrom_6 : decode cX3_fillFrom 6 = .ok (.istore 5, 2) := by decide +kernel
theorem dX3_fillFrom_8 : decode cX3_fillFrom 8 = .ok (.iload 5, 2) := by decide +kernel
theorem dX3_fillFrom_10 : decode cX3_fillFrom 10 = .ok (.iload 4, 2) := by decide +kernel
theorem dX3_fillFrom_12 : decode cX3_fillFrom 12 = .ok (.if_icmp .ge 60, 3) := by decide +kernel
theorem dX3_fillFrom_15 : decode cX3_fillFrom 15 = .ok (.iload 5, 2) := by decide +kernel
theorem dX3_fillFrom_17 : decode cX3_fillFrom 17 = .ok (.ifCond .le 32, 3) := by decide +kernel
theorem dX3_fillFrom_20 : decode cX3_fillFrom 20 = .ok (.aload_n 1, 1) := by decide +kernel
theorem dX3_fillFrom_21 : decode cX3_fillFrom 21 = .ok (.iload_n 2, 1) := by decide +kernel
theorem dX3_fillFrom_22 : decode cX3_fillFrom 22 = .ok (.iconst 0, 1) := by decide +kernel
theorem dX3_fillFrom_23 : decode cX3_fillFrom 23 = .ok (.invokevirtual 35, 3) := by decide +kernel
theorem dX3_fillFrom_26 : decode cX3_fillFrom 26 = .ok (.ifCond .eq 23, 3) := by decide +kernel
theorem dX3_fillFrom_29 : decode cX3_fillFrom 29 = .ok (.aload_n 0, 1) := by decide +kernel
theorem dX3_fillFrom_30 : decode cX3_fillFrom 30 = .ok (.iconst 0, 1) := by decide +kernel
theorem dX3_fillFrom_31 : decode cX3_fillFrom 31 = .ok (.iconst 0, 1) := by decide +kernel
theorem dX3_fillFrom_32 : decode cX3_fillFrom 32 = .ok (.iconst 0, 1) := by decide +kernel
theorem dX3_fillFrom_33 : decode cX3_fillFrom 33 = .ok (.iconst 0, 1) := by decide +kernel
theorem dX3_fillFrom_34 : decode cX3_fillFrom 34 = .ok (.iconst 0, 1) := by decide +kernel
theorem dX3_fillFrom_35 : decode cX3_fillFrom 35 = .ok (.invokevirtual 81, 3) := by decide +kernel
theorem dX3_fillFrom_38 : decode cX3_fillFrom 38 = .ok (.aload_n 0, 1) := by decide +kernel
theorem dX3_fillFrom_39 : decode cX3_fillFrom 39 = .ok (.aload_n 1, 1) := by decide +kernel
theorem dX3_fillFrom_40 : decode cX3_fillFrom 40 = .ok (.iload 5, 2) := by decide +kernel
theorem dX3_fillFrom_42 : decode cX3_fillFrom 42 = .ok (.iconst 0, 1) := by decide +kernel
theorem dX3_fillFrom_43 : decode cX3_fillFrom 43 = .ok (.invokevirtual 85, 3) := by decide +kernel
theorem dX3_fillFrom_46 : decode cX3_fillFrom 46 = .ok (.goto 20, 3) := by decide +kernel
theorem dX3_fillFrom_49 : decode cX3_fillFrom 49 = .ok (.aload_n 0, 1) := by decide +kernel
theorem dX3_fillFrom_50 : decode cX3_fillFrom 50 = .ok (.invokevirtual 89, 3) := by decide +kernel
theorem dX3_fillFrom_53 : decode cX3_fillFrom 53 = .ok (.ifCond .eq 11, 3) := by decide +kernel
theorem dX3_fillFrom_56 : decode cX3_fillFrom 56 = .ok (.aload_n 0, 1) := by decide +kernel
theorem dX3_fillFrom_57 : decode cX3_fillFrom 57 = .ok (.iload_n 2, 1) := by decide +kernel
theorem dX3_fillFrom_58 : decode cX3_fillFrom 58 = .ok (.invokevirtual 93, 3) := by decide +kernel
theorem dX3_fillFrom_61 : decode cX3_fillFrom 61 = .ok (.goto 5, 3) := by decide +kernel
theorem dX3_fillFrom_64 : decode cX3_fillFrom 64 = .ok (.iconst 0, 1) := by decide +kernel
theorem dX3_fillFrom_65 : decode cX3_fillFrom 65 = .ok (.ireturn, 1) := by decide +kernel
theorem dX3_fillFrom_66 : decode cX3_fillFrom 66 = .ok (.iinc 5 1, 3) := by decide +kernel
theorem dX3_fillFrom_69 : decode cX3_fillFrom 69 = .ok (.goto (-61), 3) := by decide +kernel
theorem dX3_fillFrom_72 : decode cX3_fillFrom 72 = .ok (.iconst 1, 1) := by decide +kernel
theorem dX3_fillFrom_73 : decode cX3_fillFrom 73 = .ok (.ireturn, 1) := by decide +kernel
theorem dX3_goOnBehind_0 : decode cX3_goOnBehind 0 = .ok (.iload_n 3, 1) := by decide +kernel
theorem dX3_goOnBehind_1 : decode cX3_goOnBehind 1 = .ok (.aload_n 0, 1) := by decide +kernel
theorem dX3_goOnBehind_2 : decode cX3_goOnBehind 2 = .ok (.getfield 28, 3) := by decide +kernel
theorem dX3_goOnBehind_5 : decode cX3_goOnBehind 5 = .ok (.iconst 1, 1) := by decide +kernel
theorem dX3_goOnBehind_6 : decode cX3_goOnBehind 6 = .ok (.isub, 1) := by decide +kernel
theorem dX3_goOnBehind_7 : decode cX3_goOnBehind 7 = .ok (.invokestatic 96, 3) := by decide +kernel
theorem dX3_goOnBehind_10 : decode cX3_goOnBehind 10 = .ok (.istore 5, 2) := by decide +kernel
theorem dX3_goOnBehind_12 : decode cX3_goOnBehind 12 = .ok (.iload 5, 2) := by decide +kernel
theorem dX3_goOnBehind_14 : decode cX3_goOnBehind 14 = .ok (.iconst 1, 1) := by decide +kernel
theorem dX3_goOnBehind_15 : decode cX3_goOnBehind 15 = .ok (.if_icmp .lt 33, 3) := by decide +kernel
theorem dX3_goOnBehind_18 : decode cX3_goOnBehind 18 = .ok (.aload_n 0, 1) := by decide +kernel
theorem dX3_goOnBehind_19 : decode cX3_goOnBehind 19 = .ok (.aload_n 1, 1) := by decide +kernel
theorem dX3_goOnBehind_20 : decode cX3_goOnBehind 20 = .ok (.iload_n 2, 1) := by decide +kernel
theorem dX3_goOnBehind_21 : decode cX3_goOnBehind 21 = .ok (.iload 5, 2) := by decide +kernel
theorem dX3_goOnBehind_23 : decode cX3_goOnBehind 23 = .ok (.invokevirtual 102, 3) := by decide +kernel
theorem dX3_goOnBehind_26 : decode cX3_goOnBehind 26 = .ok (.ifCond .eq 16, 3) := by decide +kernel
theorem dX3_goOnBehind_29 : decode cX3_goOnBehind 29 = .ok (.aload_n 0, 1) := by decide +kernel
theorem dX3_goOnBehind_30 : decode cX3_goOnBehind 30 = .ok (.aload_n 1, 1) := by decide +kernel
theorem dX3_goOnBehind_31 : decode cX3_goOnBehind 31 = .ok (.iload_n 2, 1) := by decide +kernel
theorem dX3_goOnBehind_32 : decode cX3_goOnBehind 32 = .ok (.iload 5, 2) := by decide +kernel
theorem dX3_goOnBehind_34 : decode cX3_goOnBehind 34 = .ok (.iconst 1, 1) := by decide +kernel
theorem dX3_goOnBehind_35 : decode cX3_goOnBehind 35 = .ok (.iadd, 1) := by decide +kernel
theorem dX3_goOnBehind_36 : decode cX3_goOnBehind 36 = .ok (.iload 4, 2) := by decide +kernel
theorem dX3_goOnBehind_38 : decode cX3_goOnBehind 38 = .ok (.invokevirtual 106, 3) := by decide +kernel
theorem dX3_goOnBehind_41 : decode cX3_goOnBehind 41 = .ok (.ireturn, 1) := by decide +kernel
theorem dX3_goOnBehind_42 : decode cX3_goOnBehind 42 = .ok (.iinc 5 (-1), 3) := by decide +kernel
theorem dX3_goOnBehind_45 : decode cX3_goOnBehind 45 = .ok (.goto (-33), 3) := by decide +kernel
theorem dX3_goOnBehind_48 : decode cX3_goOnBehind 48 = .ok (.iconst 0, 1) := by decide +kernel
theorem dX3_goOnBehind_49 : decode cX3_goOnBehind 49 = .ok (.ireturn, 1) := by decide +kernel
theorem dX3_changeLast_0 : decode cX3_changeLast 0 = .ok (.aload_n 0, 1) := by decide +kernel
theorem dX3_changeLast_1 : decode cX3_changeLast 1 = .ok (.iload_n 3, 1) := by decide +kernel
theorem dX3_changeLast_2 : decode cX3_changeLast 2 = .ok (.iconst 1, 1) := by decide +kernel
theorem dX3_changeLast_3 : decode cX3_changeLast 3 = .ok (.iadd, 1) := by decide +kernel
theorem dX3_changeLast_4 : decode cX3_changeLast 4 = .ok (.invokevirtual 77, 3) := by decide +kernel
theorem dX3_changeLast_7 : decode cX3_changeLast 7 = .ok (.aload_n 0, 1) := by decide +kernel
theorem dX3_changeLast_8 : decode cX3_changeLast 8 = .ok (.getfield 17, 3) := by decide +kernel
theorem dX3_changeLast_11 : decode cX3_changeLast 11 = .ok (.iload_n 3, 1) := by decide +kernel
theorem dX3_changeLast_12 : decode cX3_changeLast 12 = .ok (.iaload, 1) := by decide +kernel
theorem dX3_changeLast_13 : decode cX3_changeLast 13 = .ok (.iconst (-1), 1) := by decide +kernel
theorem dX3_changeLast_14 : decode cX3_changeLast 14 = .ok (.if_icmp .ne 5, 3) := by decide +kernel
theorem dX3_changeLast_17 : decode cX3_changeLast 17 = .ok (.iconst 0, 1) := by decide +kernel
theorem dX3_changeLast_18 : decode cX3_changeLast 18 = .ok (.ireturn, 1) := by decide +kernel
theorem dX3_changeLast_19 : decode cX3_changeLast 19 = .ok (.aload_n 0, 1) := by decide +kernel
theorem dX3_changeLast_20 : decode cX3_changeLast 20 = .ok (.aload_n 1, 1) := by decide +kernel
theorem dX3_changeLast_21 : decode cX3_changeLast 21 = .ok (.aload_n 0, 1) := by decide +kernel
theorem dX3_changeLast_22 : decode cX3_changeLast 22 = .ok (.getfield 13, 3) := by decide +kernel
theorem dX3_changeLast_25 : decode cX3_changeLast 25 = .ok (.iload_n 3, 1) := by decide +kernel
theorem dX3_changeLast_26 : decode cX3_changeLast 26 = .ok (.iaload, 1) := by decide +kernel
theorem dX3_changeLast_27 : decode cX3_changeLast 27 = .ok (.aload_n 0, 1) := by decide +kernel
theorem dX3_changeLast_28 : decode cX3_changeLast 28 = .ok (.getfield 17, 3) := by decide +kernel
theorem dX3_changeLast_31 : decode cX3_changeLast 31 = .ok (.iload_n 3, 1) := by decide +kernel
theorem dX3_changeLast_32 : decode cX3_changeLast 32 = .ok (.iaload, 1) := by decide +kernel
theorem dX3_changeLast_33 : decode cX3_changeLast 33 = .ok (.invokevirtual 41, 3) := by decide +kernel
theorem dX3_changeLast_36 : decode cX3_changeLast 36 = .ok (.astore 4, 2) := by decide +kernel
theorem dX3_changeLast_38 : decode cX3_changeLast 38 = .ok (.aload 4, 2) := by decide +kernel
theorem dX3_changeLast_40 : decode cX3_changeLast 40 = .ok (.getfield 71, 3) := by decide +kernel
theorem dX3_changeLast_43 : decode cX3_changeLast 43 = .ok (.iconst 1, 1) := by decide +kernel
theorem dX3_changeLast_44 : decode cX3_changeLast 44 = .ok (.isub, 1) := by decide +kernel
theorem dX3_changeLast_45 : decode cX3_changeLast 45 = .ok (.istore 5, 2) := by decide +kernel
theorem dX3_changeLast_47 : decode cX3_changeLast 47 = .ok (.iload 5, 2) := by decide +kernel
theorem dX3_changeLast_49 : decode cX3_changeLast 49 = .ok (.ifCond .lt 64, 3) := by decide +kernel
theorem dX3_changeLast_52 : decode cX3_changeLast 52 = .ok (.aload 4, 2) := by decide +kernel
theorem dX3_changeLast_54 : decode cX3_changeLast 54 = .ok (.iload 5, 2) := by decide +kernel
theorem dX3_changeLast_56 : decode cX3_changeLast 56 = .ok (.aload_n 0, 1) := by decide +kernel
theorem dX3_changeLast_57 : decode cX3_changeLast 57 = .ok (.getfield 22, 3) := by decide +kernel
theorem dX3_changeLast_60 : decode cX3_changeLast 60 = .ok (.iload_n 3, 1) := by decide +kernel
theorem dX3_changeLast_61 : decode cX3_changeLast 61 = .ok (.aaload, 1) := by decide +kernel
theorem dX3_changeLast_62 : decode cX3_changeLast 62 = .ok (.iload 5, 2) := by decide +kernel
theorem dX3_changeLast_64 : decode cX3_changeLast 64 = .ok (.iaload, 1) := by decide +kernel
theorem dX3_changeLast_65 : decode cX3_changeLast 65 = .ok (.invokevirtual 110, 3) := by decide +kernel
theorem dX3_changeLast_68 : decode cX3_changeLast 68 = .ok (.istore 6, 2) := by decide +kernel
theorem dX3_changeLast_70 : decode cX3_changeLast 70 = .ok (.iload 6, 2) := by decide +kernel
theorem dX3_changeLast_72 : decode cX3_changeLast 72 = .ok (.aload_n 0, 1) := by decide +kernel
theorem dX3_changeLast_73 : decode cX3_changeLast 73 = .ok (.getfield 22, 3) := by decide +kernel
theorem dX3_changeLast_76 : decode cX3_changeLast 76 = .ok (.iload_n 3, 1) := by decide +kernel
theorem dX3_changeLast_77 : decode cX3_changeLast 77 = .ok (.aaload, 1) := by decide +kernel
theorem dX3_changeLast_78 : decode cX3_changeLast 78 = .ok (.iload 5, 2) := by decide +kernel
theorem dX3_changeLast_80 : decode cX3_changeLast 80 = .ok (.iaload, 1) := by decide +kernel
theorem dX3_changeLast_81 : decode cX3_changeLast 81 = .ok (.if_icmp .eq 26, 3) := by decide +kernel
theorem dX3_changeLast_84 : decode cX3_changeLast 84 = .ok (.aload_n 0, 1) := by decide +kernel
theorem dX3_changeLast_85 : decode cX3_changeLast 85 = .ok (.getfield 22, 3) := by decide +kernel
theorem dX3_changeLast_88 : decode cX3_changeLast 88 = .ok (.iload_n 3, 1) := by decide +kernel
theorem dX3_changeLast_89 : decode cX3_changeLast 89 = .ok (.aaload, 1) := by decide +kernel
theorem dX3_changeLast_90 : decode cX3_changeLast 90 = .ok (.iload 5, 2) := by decide +kernel
theorem dX3_changeLast_92 : decode cX3_changeLast 92 = .ok (.iload 6, 2) := by decide +kernel
theorem dX3_changeLast_94 : decode cX3_changeLast 94 = .ok (.iastore, 1) := by decide +kernel
theorem dX3_changeLast_95 : decode cX3_changeLast 95 = .ok (.aload_n 0, 1) := by decide +kernel
theorem dX3_changeLast_96 : decode cX3_changeLast 96 = .ok (.aload_n 1, 1) := by decide +kernel
theorem dX3_changeLast_97 : decode cX3_changeLast 97 = .ok (.iload_n 3, 1) := by decide +kernel
theorem dX3_changeLast_98 : decode cX3_changeLast 98 = .ok (.iload 5, 2) := by decide +kernel
theorem dX3_changeLast_100 : decode cX3_changeLast 100 = .ok (.iconst 1, 1) := by decide +kernel
theorem dX3_changeLast_101 : decode cX3_changeLast 101 = .ok (.iadd, 1) := by decide +kernel
theorem dX3_changeLast_102 : decode cX3_changeLast 102 = .ok (.invokevirtual 85, 3) := by decide +kernel
theorem dX3_changeLast_105 : decode cX3_changeLast 105 = .ok (.iconst 1, 1) := by decide +kernel
theorem dX3_changeLast_106 : decode cX3_changeLast 106 = .ok (.ireturn, 1) := by decide +kernel
theorem dX3_changeLast_107 : decode cX3_changeLast 107 = .ok (.iinc 5 (-1), 3) := by decide +kernel
theorem dX3_changeLast_110 : decode cX3_changeLast 110 = .ok (.goto (-63), 3) := by decide +kernel
theorem dX3_changeLast_113 : decode cX3_changeLast 113 = .ok (.aload_n 0, 1) := by decide +kernel
theorem dX3_changeLast_114 : decode cX3_changeLast 114 = .ok (.getfield 13, 3) := by decide +kernel
theorem dX3_changeLast_117 : decode cX3_changeLast 117 = .ok (.iload_n 3, 1) := by decide +kernel
theorem dX3_changeLast_118 : decode cX3_changeLast 118 = .ok (.iaload, 1) := by decide +kernel
theorem dX3_changeLast_119 : decode cX3_changeLast 119 = .ok (.iconst 1, 1) := by decide +kernel
theorem dX3_changeLast_120 : decode cX3_changeLast 120 = .ok (.iadd, 1) := by decide +kernel
theorem dX3_changeLast_121 : decode cX3_changeLast 121 = .ok (.aload_n 0, 1) := by decide +kernel
theorem dX3_changeLast_122 : decode cX3_changeLast 122 = .ok (.getfield 32, 3) := by decide +kernel
theorem dX3_changeLast_125 : decode cX3_changeLast 125 = .ok (.if_icmp .ge 16, 3) := by decide +kernel
theorem dX3_changeLast_128 : decode cX3_changeLast 128 = .ok (.aload_n 0, 1) := by decide +kernel
theorem dX3_changeLast_129 : decode cX3_changeLast 129 = .ok (.getfield 13, 3) := by decide +kernel
theorem dX3_changeLast_132 : decode cX3_changeLast 132 = .ok (.iload_n 3, 1) := by decide +kernel
theorem dX3_changeLast_133 : decode cX3_changeLast 133 = .ok (.dup2, 1) := by decide +kernel
theorem dX3_changeLast_134 : decode cX3_changeLast 134 = .ok (.iaload, 1) := by decide +kernel
theorem dX3_changeLast_135 : decode cX3_changeLast 135 = .ok (.iconst 1, 1) := by decide +kernel
theorem dX3_changeLast_136 : decode cX3_changeLast 136 = .ok (.iadd, 1) := by decide +kernel
theorem dX3_changeLast_137 : decode cX3_changeLast 137 = .ok (.iastore, 1) := by decide +kernel
theorem dX3_changeLast_138 : decode cX3_changeLast 138 = .ok (.goto 61, 3) := by decide +kernel
theorem dX3_changeLast_141 : decode cX3_changeLast 141 = .ok (.aload_n 1, 1) := by decide +kernel
theorem dX3_changeLast_142 : decode cX3_changeLast 142 = .ok (.iload_n 2, 1) := by decide +kernel
theorem dX3_changeLast_143 : decode cX3_changeLast 143 = .ok (.aload_n 0, 1) := by decide +kernel
theorem dX3_changeLast_144 : decode cX3_changeLast 144 = .ok (.getfield 17, 3) := by decide +kernel
theorem dX3_changeLast_147 : decode cX3_changeLast 147 = .ok (.iload_n 3, 1) := by decide +kernel
theorem dX3_changeLast_148 : decode cX3_changeLast 148 = .ok (.iaload, 1) := by decide +kernel
theorem dX3_changeLast_149 : decode cX3_changeLast 149 = .ok (.iconst 1, 1) := by decide +kernel
theorem dX3_changeLast_150 : decode cX3_changeLast 150 = .ok (.iadd, 1) := by decide +kernel
theorem dX3_changeLast_151 : decode cX3_changeLast 151 = .ok (.invokevirtual 35, 3) := by decide +kernel
theorem dX3_changeLast_154 : decode cX3_changeLast 154 = .ok (.ifCond .eq 23, 3) := by decide +kernel
theorem dX3_changeLast_157 : decode cX3_changeLast 157 = .ok (.aload_n 0, 1) := by decide +kernel
theorem dX3_changeLast_158 : decode cX3_changeLast 158 = .ok (.getfield 13, 3) := by decide +kernel
theorem dX3_changeLast_161 : decode cX3_changeLast 161 = .ok (.iload_n 3, 1) := by decide +kernel
theorem dX3_changeLast_162 : decode cX3_changeLast 162 = .ok (.iconst 0, 1) := by decide +kernel
theorem dX3_changeLast_163 : decode cX3_changeLast 163 = .ok (.iastore, 1) := by decide +kernel
theorem dX3_changeLast_164 : decode cX3_changeLast 164 = .ok (.aload_n 0, 1) := by decide +kernel
theorem dX3_changeLast_165 : decode cX3_changeLast 165 = .ok (.getfield 17, 3) := by decide +kernel
theorem dX3_changeLast_168 : decode cX3_changeLast 168 = .ok (.iload_n 3, 1) := by decide +kernel
theorem dX3_changeLast_169 : decode cX3_changeLast 169 = .ok (.dup2, 1) := by decide +kernel
theorem dX3_changeLast_170 : decode cX3_changeLast 170 = .ok (.iaload, 1) := by decide +kernel
theorem dX3_changeLast_171 : decode cX3_changeLast 171 = .ok (.iconst 1, 1) := by decide +kernel
theorem dX3_changeLast_172 : decode cX3_changeLast 172 = .ok (.iadd, 1) := by decide +kernel
theorem dX3_changeLast_173 : decode cX3_changeLast 173 = .ok (.iastore, 1) := by decide +kernel
theorem dX3_changeLast_174 : decode cX3_changeLast 174 = .ok (.goto 25, 3) := by decide +kernel
theorem dX3_changeLast_177 : decode cX3_changeLast 177 = .ok (.aload_n 0, 1) := by decide +kernel
theorem dX3_changeLast_178 : decode cX3_changeLast 178 = .ok (.getfield 32, 3) := by decide +kernel
theorem dX3_changeLast_181 : decode cX3_changeLast 181 = .ok (.iconst 3, 1) := by decide +kernel
theorem dX3_changeLast_182 : decode cX3_changeLast 182 = .ok (.if_icmp .ge 15, 3) := by decide +kernel
theorem dX3_changeLast_185 : decode cX3_changeLast 185 = .ok (.aload_n 0, 1) := by decide +kernel
theorem dX3_changeLast_186 : decode cX3_changeLast 186 = .ok (.iload_n 3, 1) := by decide +kernel
theorem dX3_changeLast_187 : decode cX3_changeLast 187 = .ok (.invokevirtual 77, 3) := by decide +kernel
theorem dX3_changeLast_190 : decode cX3_changeLast 190 = .ok (.aload_n 0, 1) := by decide +kernel
theorem dX3_changeLast_191 : decode cX3_changeLast 191 = .ok (.iload_n 2, 1) := by decide +kernel
theorem dX3_changeLast_192 : decode cX3_changeLast 192 = .ok (.invokevirtual 93, 3) := by decide +kernel
theorem dX3_changeLast_195 : decode cX3_changeLast 195 = .ok (.iconst 1, 1) := by decide +kernel
theorem dX3_changeLast_196 : decode cX3_changeLast 196 = .ok (.ireturn, 1) := by decide +kernel
theorem dX3_changeLast_197 : decode cX3_changeLast 197 = .ok (.iconst 0, 1) := by decide +kernel
theorem dX3_changeLast_198 : decode cX3_changeLast 198 = .ok (.ireturn, 1) := by decide +kernel
theorem dX3_changeLast_199 : decode cX3_changeLast 199 = .ok (.aload_n 0, 1) := by decide +kernel
theorem dX3_changeLast_200 : decode cX3_changeLast 200 = .ok (.aload_n 1, 1) := by decide +kernel
theorem dX3_changeLast_201 : decode cX3_changeLast 201 = .ok (.iload_n 3, 1) := by decide +kernel
theorem dX3_changeLast_202 : decode cX3_changeLast 202 = .ok (.iconst 0, 1) := by decide +kernel
theorem dX3_changeLast_203 : decode cX3_changeLast 203 = .ok (.invokevirtual 85, 3) := by decide +kernel
theorem dX3_changeLast_206 : decode cX3_changeLast 206 = .ok (.iconst 1, 1) := by decide +kernel
theorem dX3_changeLast_207 : decode cX3_changeLast 207 = .ok (.ireturn, 1) := by decide +kernel
theorem dX3_becomeLesser_0 : decode cX3_becomeLesser 0 = .ok (.iload_n 3, 1) := by decide +kernel
theorem dX3_becomeLesser_1 : decode cX3_becomeLesser 1 = .ok (.bipush 10, 2) := by decide +kernel
theorem dX3_becomeLesser_3 : decode cX3_becomeLesser 3 = .ok (.if_icmp .ge 10, 3) := by decide +kernel
theorem dX3_becomeLesser_6 : decode cX3_becomeLesser 6 = .ok (.aload_n 0, 1) := by decide +kernel
theorem dX3_becomeLesser_7 : decode cX3_becomeLesser 7 = .ok (.aload_n 2, 1) := by decide +kernel
theorem dX3_becomeLesser_8 : decode cX3_becomeLesser 8 = .ok (.iload_n 3, 1) := by decide +kernel
theorem dX3_becomeLesser_9 : decode cX3_becomeLesser 9 = .ok (.invokevirtual 113, 3) := by decide +kernel
theorem dX3_becomeLesser_12 : decode cX3_becomeLesser 12 = .ok (.ireturn, 1) := by decide +kernel
theorem dX3_becomeLesser_13 : decode cX3_becomeLesser 13 = .ok (.iload_n 3, 1) := by decide +kernel
theorem dX3_becomeLesser_14 : decode cX3_becomeLesser 14 = .ok (.bipush 10, 2) := by decide +kernel
theorem dX3_becomeLesser_16 : decode cX3_becomeLesser 16 = .ok (.isub, 1) := by decide +kernel
theorem dX3_becomeLesser_17 : decode cX3_becomeLesser 17 = .ok (.bipush 6, 2) := by decide +kernel
theorem dX3_becomeLesser_19 : decode cX3_becomeLesser 19 = .ok (.idiv, 1) := by decide +kernel
theorem dX3_becomeLesser_20 : decode cX3_becomeLesser 20 = .ok (.istore 4, 2) := by decide +kernel
theorem dX3_becomeLesser_22 : decode cX3_becomeLesser 22 = .ok (.iload_n 3, 1) := by decide +kernel
theorem dX3_becomeLesser_23 : decode cX3_becomeLesser 23 = .ok (.bipush 10, 2) := by decide +kernel
theorem dX3_becomeLesser_25 : decode cX3_becomeLesser 25 = .ok (.isub, 1) := by decide +kernel
theorem dX3_becomeLesser_26 : decode cX3_becomeLesser 26 = .ok (.bipush 6, 2) := by decide +kernel
theorem dX3_becomeLesser_28 : decode cX3_becomeLesser 28 = .ok (.irem, 1) := by decide +kernel
theorem dX3_becomeLesser_29 : decode cX3_becomeLesser 29 = .ok (.istore 5, 2) := by decide +kernel
theorem dX3_becomeLesser_31 : decode cX3_becomeLesser 31 = .ok (.aload_n 0, 1) := by decide +kernel
theorem dX3_becomeLesser_32 : decode cX3_becomeLesser 32 = .ok (.aload_n 1, 1) := by decide +kernel
theorem dX3_becomeLesser_33 : decode cX3_becomeLesser 33 = .ok (.aload_n 2, 1) := by decide +kernel
theorem dX3_becomeLesser_34 : decode cX3_becomeLesser 34 = .ok (.iload 4, 2) := by decide +kernel
theorem dX3_becomeLesser_36 : decode cX3_becomeLesser 36 = .ok (.iload 5, 2) := by decide +kernel
theorem dX3_becomeLesser_38 : decode cX3_becomeLesser 38 = .ok (.iconst 2, 1) := by decide +kernel
theorem dX3_becomeLesser_39 : decode cX3_becomeLesser 39 = .ok (.idiv, 1) := by decide +kernel
theorem dX3_becomeLesser_40 : decode cX3_becomeLesser 40 = .ok (.iload 5, 2) := by decide +kernel
theorem dX3_becomeLesser_42 : decode cX3_becomeLesser 42 = .ok (.iconst 2, 1) := by decide +kernel
theorem dX3_becomeLesser_43 : decode cX3_becomeLesser 43 = .ok (.irem, 1) := by decide +kernel
theorem dX3_becomeLesser_44 : decode cX3_becomeLesser 44 = .ok (.iconst 1, 1) := by decide +kernel
theorem dX3_becomeLesser_45 : decode cX3_becomeLesser 45 = .ok (.if_icmp .ne 7, 3) := by decide +kernel
theorem dX3_becomeLesser_48 : decode cX3_becomeLesser 48 = .ok (.iconst 1, 1) := by decide +kernel
theorem dX3_becomeLesser_49 : decode cX3_becomeLesser 49 = .ok (.goto 4, 3) := by decide +kernel
theorem dX3_becomeLesser_52 : decode cX3_becomeLesser 52 = .ok (.iconst 0, 1) := by decide +kernel
theorem dX3_becomeLesser_53 : decode cX3_becomeLesser 53 = .ok (.invokevirtual 117, 3) := by decide +kernel
theorem dX3_becomeLesser_56 : decode cX3_becomeLesser 56 = .ok (.ireturn, 1) := by decide +kernel
theorem dX3_leaveOut_0 : decode cX3_leaveOut 0 = .ok (.iload_n 2, 1) := by decide +kernel
theorem dX3_leaveOut_1 : decode cX3_leaveOut 1 = .ok (.aload_n 1, 1) := by decide +kernel
theorem dX3_leaveOut_2 : decode cX3_leaveOut 2 = .ok (.getfield 28, 3) := by decide +kernel
theorem dX3_leaveOut_5 : decode cX3_leaveOut 5 = .ok (.if_icmp .lt 5, 3) := by decide +kernel
theorem dX3_leaveOut_8 : decode cX3_leaveOut 8 = .ok (.iconst 0, 1) := by decide +kernel
theorem dX3_leaveOut_9 : decode cX3_leaveOut 9 = .ok (.ireturn, 1) := by decide +kernel
theorem dX3_leaveOut_10 : decode cX3_leaveOut 10 = .ok (.aload_n 0, 1) := by decide +kernel
theorem dX3_leaveOut_11 : decode cX3_leaveOut 11 = .ok (.invokevirtual 121, 3) := by decide +kernel
theorem dX3_leaveOut_14 : decode cX3_leaveOut 14 = .ok (.aload_n 1, 1) := by decide +kernel
theorem dX3_leaveOut_15 : decode cX3_leaveOut 15 = .ok (.getfield 17, 3) := by decide +kernel
theorem dX3_leaveOut_18 : decode cX3_leaveOut 18 = .ok (.iload_n 2, 1) := by decide +kernel
theorem dX3_leaveOut_19 : decode cX3_leaveOut 19 = .ok (.iaload, 1) := by decide +kernel
theorem dX3_leaveOut_20 : decode cX3_leaveOut 20 = .ok (.iconst (-1), 1) := by decide +kernel
theorem dX3_leaveOut_21 : decode cX3_leaveOut 21 = .ok (.if_icmp .ne 7, 3) := by decide +kernel
theorem dX3_leaveOut_24 : decode cX3_leaveOut 24 = .ok (.iconst 1, 1) := by decide +kernel
theorem dX3_leaveOut_25 : decode cX3_leaveOut 25 = .ok (.goto 4, 3) := by decide +kernel
theorem dX3_leaveOut_28 : decode cX3_leaveOut 28 = .ok (.iconst 0, 1) := by decide +kernel
theorem dX3_leaveOut_29 : decode cX3_leaveOut 29 = .ok (.istore_n 3, 1) := by decide +kernel
theorem dX3_leaveOut_30 : decode cX3_leaveOut 30 = .ok (.iload_n 3, 1) := by decide +kernel
theorem dX3_leaveOut_31 : decode cX3_leaveOut 31 = .ok (.ifCond .eq 12, 3) := by decide +kernel
theorem dX3_leaveOut_34 : decode cX3_leaveOut 34 = .ok (.aload_n 1, 1) := by decide +kernel
theorem dX3_leaveOut_35 : decode cX3_leaveOut 35 = .ok (.getfield 13, 3) := by decide +kernel
theorem dX3_leaveOut_38 : decode cX3_leaveOut 38 = .ok (.iload_n 2, 1) := by decide +kernel
theorem dX3_leaveOut_39 : decode cX3_leaveOut 39 = .ok (.iaload, 1) := by decide +kernel
theorem dX3_leaveOut_40 : decode cX3_leaveOut 40 = .ok (.goto 4, 3) := by decide +kernel
theorem dX3_leaveOut_43 : decode cX3_leaveOut 43 = .ok (.iconst 3, 1) := by decide +kernel
theorem dX3_leaveOut_44 : decode cX3_leaveOut 44 = .ok (.istore 4, 2) := by decide +kernel
theorem dX3_leaveOut_46 : decode cX3_leaveOut 46 = .ok (.iconst 0, 1) := by decide +kernel
theorem dX3_leaveOut_47 : decode cX3_leaveOut 47 = .ok (.istore 5, 2) := by decide +kernel
theorem dX3_leaveOut_49 : decode cX3_leaveOut 49 = .ok (.iload 5, 2) := by decide +kernel
theorem dX3_leaveOut_51 : decode cX3_leaveOut 51 = .ok (.aload_n 1, 1) := by decide +kernel
theorem dX3_leaveOut_52 : decode cX3_leaveOut 52 = .ok (.getfield 28, 3) := by decide +kernel
theorem dX3_leaveOut_55 : decode cX3_leaveOut 55 = .ok (.if_icmp .ge 109, 3) := by decide +kernel
theorem dX3_leaveOut_58 : decode cX3_leaveOut 58 = .ok (.aload_n 1, 1) := by decide +kernel
theorem dX3_leaveOut_59 : decode cX3_leaveOut 59 = .ok (.getfield 13, 3) := by decide +kernel
theorem dX3_leaveOut_62 : decode cX3_leaveOut 62 = .ok (.iload 5, 2) := by decide +kernel
theorem dX3_leaveOut_64 : decode cX3_leaveOut 64 = .ok (.iaload, 1) := by decide +kernel
theorem dX3_leaveOut_65 : decode cX3_leaveOut 65 = .ok (.istore 6, 2) := by decide +kernel
theorem dX3_leaveOut_67 : decode cX3_leaveOut 67 = .ok (.iload 5, 2) := by decide +kernel
theorem dX3_leaveOut_69 : decode cX3_leaveOut 69 = .ok (.iload_n 2, 1) := by decide +kernel
theorem dX3_leaveOut_70 : decode cX3_leaveOut 70 = .ok (.if_icmp .eq 88, 3) := by decide +kernel
theorem dX3_leaveOut_73 : decode cX3_leaveOut 73 = .ok (.iload 6, 2) := by decide +kernel
theorem dX3_leaveOut_75 : decode cX3_leaveOut 75 = .ok (.iload 4, 2) := by decide +kernel
theorem dX3_leaveOut_77 : decode cX3_leaveOut 77 = .ok (.if_icmp .ne 6, 3) := by decide +kernel
theorem dX3_leaveOut_80 : decode cX3_leaveOut 80 = .ok (.goto 78, 3) := by decide +kernel
theorem dX3_leaveOut_83 : decode cX3_leaveOut 83 = .ok (.aload_n 1, 1) := by decide +kernel
theorem dX3_leaveOut_84 : decode cX3_leaveOut 84 = .ok (.getfield 17, 3) := by decide +kernel
theorem dX3_leaveOut_87 : decode cX3_leaveOut 87 = .ok (.iload 5, 2) := by decide +kernel
theorem dX3_leaveOut_89 : decode cX3_leaveOut 89 = .ok (.iaload, 1) := by decide +kernel
theorem dX3_leaveOut_90 : decode cX3_leaveOut 90 = .ok (.iconst (-1), 1) := by decide +kernel
theorem dX3_leaveOut_91 : decode cX3_leaveOut 91 = .ok (.if_icmp .ne 19, 3) := by decide +kernel
theorem dX3_leaveOut_94 : decode cX3_leaveOut 94 = .ok (.aload_n 0, 1) := by decide +kernel
theorem dX3_leaveOut_95 : decode cX3_leaveOut 95 = .ok (.aload_n 1, 1) := by decide +kernel
theorem dX3_leaveOut_96 : decode cX3_leaveOut 96 = .ok (.getfield 22, 3) := by decide +kernel
theorem dX3_leaveOut_99 : decode cX3_leaveOut 99 = .ok (.iload 5, 2) := by decide +kernel
theorem dX3_leaveOut_101 : decode cX3_leaveOut 101 = .ok (.aaload, 1) := by decide +kernel
theorem dX3_leaveOut_102 : decode cX3_leaveOut 102 = .ok (.iconst 0, 1) := by decide +kernel
theorem dX3_leaveOut_103 : decode cX3_leaveOut 103 = .ok (.iaload, 1) := by decide +kernel
theorem dX3_leaveOut_104 : decode cX3_leaveOut 104 = .ok (.invokevirtual 93, 3) := by decide +kernel
theorem dX3_leaveOut_107 : decode cX3_leaveOut 107 = .ok (.goto 51, 3) := by decide +kernel
theorem dX3_leaveOut_110 : decode cX3_leaveOut 110 = .ok (.aload_n 1, 1) := by decide +kernel
theorem dX3_leaveOut_111 : decode cX3_leaveOut 111 = .ok (.getfield 22, 3) := by decide +kernel
theorem dX3_leaveOut_114 : decode cX3_leaveOut 114 = .ok (.iload 5, 2) := by decide +kernel
theorem dX3_leaveOut_116 : decode cX3_leaveOut 116 = .ok (.aaload, 1) := by decide +kernel
theorem dX3_leaveOut_117 : decode cX3_leaveOut 117 = .ok (.astore 7, 2) := by decide +kernel
theorem dX3_leaveOut_119 : decode cX3_leaveOut 119 = .ok (.aload_n 0, 1) := by decide +kernel
theorem dX3_leaveOut_120 : decode cX3_leaveOut 120 = .ok (.iload 6, 2) := by decide +kernel
theorem dX3_leaveOut_122 : decode cX3_leaveOut 122 = .ok (.iload 4, 2) := by decide +kernel
theorem dX3_leaveOut_124 : decode cX3_leaveOut 124 = .ok (.if_icmp .le 10, 3) := by decide +kernel
theorem dX3_leaveOut_127 : decode cX3_leaveOut 127 = .ok (.iload 6, 2) := by decide +kernel
theorem dX3_leaveOut_129 : decode cX3_leaveOut 129 = .ok (.iconst 1, 1) := by decide +kernel
theorem dX3_leaveOut_130 : decode cX3_leaveOut 130 = .ok (.isub, 1) := by decide +kernel
theorem dX3_leaveOut_131 : decode cX3_leaveOut 131 = .ok (.goto 5, 3) := by decide +kernel
theorem dX3_leaveOut_134 : decode cX3_leaveOut 134 = .ok (.iload 6, 2) := by decide +kernel
theorem dX3_leaveOut_136 : decode cX3_leaveOut 136 = .ok (.aload_n 1, 1) := by decide +kernel
theorem dX3_leaveOut_137 : decode cX3_leaveOut 137 = .ok (.getfield 17, 3) := by decide +kernel
theorem dX3_leaveOut_140 : decode cX3_leaveOut 140 = .ok (.iload 5, 2) := by decide +kernel
theorem dX3_leaveOut_142 : decode cX3_leaveOut 142 = .ok (.iaload, 1) := by decide +kernel
theorem dX3_leaveOut_143 : decode cX3_leaveOut 143 = .ok (.aload 7, 2) := by decide +kernel
theorem dX3_leaveOut_145 : decode cX3_leaveOut 145 = .ok (.iconst 0, 1) := by decide +kernel
theorem dX3_leaveOut_146 : decode cX3_leaveOut 146 = .ok (.iaload, 1) := by decide +kernel
theorem dX3_leaveOut_147 : decode cX3_leaveOut 147 = .ok (.aload 7, 2) := by decide +kernel
theorem dX3_leaveOut_149 : decode cX3_leaveOut 149 = .ok (.iconst 1, 1) := by decide +kernel
theorem dX3_leaveOut_150 : decode cX3_leaveOut 150 = .ok (.iaload, 1) := by decide +kernel
theorem dX3_leaveOut_151 : decode cX3_leaveOut 151 = .ok (.aload 7, 2) := by decide +kernel
theorem dX3_leaveOut_153 : decode cX3_leaveOut 153 = .ok (.iconst 2, 1) := by decide +kernel
theorem dX3_leaveOut_154 : decode cX3_leaveOut 154 = .ok (.iaload, 1) := by decide +kernel
theorem dX3_leaveOut_155 : decode cX3_leaveOut 155 = .ok (.invokevirtual 81, 3) := by decide +kernel
theorem dX3_leaveOut_158 : decode cX3_leaveOut 158 = .ok (.iinc 5 1, 3) := by decide +kernel
theorem dX3_leaveOut_161 : decode cX3_leaveOut 161 = .ok (.goto (-112), 3) := by decide +kernel
theorem dX3_leaveOut_164 : decode cX3_leaveOut 164 = .ok (.aload_n 0, 1) := by decide +kernel
theorem dX3_leaveOut_165 : decode cX3_leaveOut 165 = .ok (.getfield 28, 3) := by decide +kernel
theorem dX3_leaveOut_168 : decode cX3_leaveOut 168 = .ok (.ifCond .le 7, 3) := by decide +kernel
theorem dX3_leaveOut_171 : decode cX3_leaveOut 171 = .ok (.iconst 1, 1) := by decide +kernel
theorem dX3_leaveOut_172 : decode cX3_leaveOut 172 = .ok (.goto 4, 3) := by decide +kernel
theorem dX3_leaveOut_175 : decode cX3_leaveOut 175 = .ok (.iconst 0, 1) := by decide +kernel
theorem dX3_leaveOut_176 : decode cX3_leaveOut 176 = .ok (.ireturn, 1) := by decide +kernel
theorem dX3_lowerOne_0 : decode cX3_lowerOne 0 = .ok (.iload_n 3, 1) := by decide +kernel
theorem dX3_lowerOne_1 : decode cX3_lowerOne 1 = .ok (.aload_n 2, 1) := by decide +kernel
theorem dX3_lowerOne_2 : decode cX3_lowerOne 2 = .ok (.getfield 28, 3) := by decide +kernel
theorem dX3_lowerOne_5 : decode cX3_lowerOne 5 = .ok (.if_icmp .ge 13, 3) := by decide +kernel
theorem dX3_lowerOne_8 : decode cX3_lowerOne 8 = .ok (.aload_n 2, 1) := by decide +kernel
theorem dX3_lowerOne_9 : decode cX3_lowerOne 9 = .ok (.getfield 17, 3) := by decide +kernel
theorem dX3_lowerOne_12 : decode cX3_lowerOne 12 = .ok (.iload_n 3, 1) := by decide +kernel
theorem dX3_lowerOne_13 : decode cX3_lowerOne 13 = .ok (.iaload, 1) := by decide +kernel
theorem dX3_lowerOne_14 : decode cX3_lowerOne 14 = .ok (.iconst (-1), 1) := by decide +kernel
theorem dX3_lowerOne_15 : decode cX3_lowerOne 15 = .ok (.if_icmp .ne 5, 3) := by decide +kernel
theorem dX3_lowerOne_18 : decode cX3_lowerOne 18 = .ok (.iconst 0, 1) := by decide +kernel
theorem dX3_lowerOne_19 : decode cX3_lowerOne 19 = .ok (.ireturn, 1) := by decide +kernel
theorem dX3_lowerOne_20 : decode cX3_lowerOne 20 = .ok (.aload_n 2, 1) := by decide +kernel
theorem dX3_lowerOne_21 : decode cX3_lowerOne 21 = .ok (.aload_n 1, 1) := by decide +kernel
theorem dX3_lowerOne_22 : decode cX3_lowerOne 22 = .ok (.aload_n 2, 1) := by decide +kernel
theorem dX3_lowerOne_23 : decode cX3_lowerOne 23 = .ok (.getfield 13, 3) := by decide +kernel
theorem dX3_lowerOne_26 : decode cX3_lowerOne 26 = .ok (.iload_n 3, 1) := by decide +kernel
theorem dX3_lowerOne_27 : decode cX3_lowerOne 27 = .ok (.iaload, 1) := by decide +kernel
theorem dX3_lowerOne_28 : decode cX3_lowerOne 28 = .ok (.aload_n 2, 1) := by decide +kernel
theorem dX3_lowerOne_29 : decode cX3_lowerOne 29 = .ok (.getfield 17, 3) := by decide +kernel
theorem dX3_lowerOne_32 : decode cX3_lowerOne 32 = .ok (.iload_n 3, 1) := by decide +kernel
theorem dX3_lowerOne_33 : decode cX3_lowerOne 33 = .ok (.iaload, 1) := by decide +kernel
theorem dX3_lowerOne_34 : decode cX3_lowerOne 34 = .ok (.invokevirtual 41, 3) := by decide +kernel
theorem dX3_lowerOne_37 : decode cX3_lowerOne 37 = .ok (.astore 6, 2) := by decide +kernel
theorem dX3_lowerOne_39 : decode cX3_lowerOne 39 = .ok (.iload 4, 2) := by decide +kernel
theorem dX3_lowerOne_41 : decode cX3_lowerOne 41 = .ok (.aload 6, 2) := by decide +kernel
theorem dX3_lowerOne_43 : decode cX3_lowerOne 43 = .ok (.getfield 71, 3) := by decide +kernel
theorem dX3_lowerOne_46 : decode cX3_lowerOne 46 = .ok (.if_icmp .lt 5, 3) := by decide +kernel
theorem dX3_lowerOne_49 : decode cX3_lowerOne 49 = .ok (.iconst 0, 1) := by decide +kernel
theorem dX3_lowerOne_50 : decode cX3_lowerOne 50 = .ok (.ireturn, 1) := by decide +kernel
theorem dX3_lowerOne_51 : decode cX3_lowerOne 51 = .ok (.aload 6, 2) := by decide +kernel
theorem dX3_lowerOne_53 : decode cX3_lowerOne 53 = .ok (.iload 4, 2) := by decide +kernel
theorem dX3_lowerOne_55 : decode cX3_lowerOne 55 = .ok (.invokevirtual 124, 3) := by decide +kernel
theorem dX3_lowerOne_58 : decode cX3_lowerOne 58 = .ok (.i2l, 1) := by decide +kernel
theorem dX3_lowerOne_59 : decode cX3_lowerOne 59 = .ok (.lstore 7, 2) := by decide +kernel
theorem dX3_lowerOne_61 : decode cX3_lowerOne 61 = .ok (.aload_n 2, 1) := by decide +kernel
theorem dX3_lowerOne_62 : decode cX3_lowerOne 62 = .ok (.getfield 22, 3) := by decide +kernel
theorem dX3_lowerOne_65 : decode cX3_lowerOne 65 = .ok (.iload_n 3, 1) := by decide +kernel
theorem dX3_lowerOne_66 : decode cX3_lowerOne 66 = .ok (.aaload, 1) := by decide +kernel
theorem dX3_lowerOne_67 : decode cX3_lowerOne 67 = .ok (.iload 4, 2) := by decide +kernel
theorem dX3_lowerOne_69 : decode cX3_lowerOne 69 = .ok (.iaload, 1) := by decide +kernel
theorem dX3_lowerOne_70 : decode cX3_lowerOne 70 = .ok (.i2l, 1) := by decide +kernel
theorem dX3_lowerOne_71 : decode cX3_lowerOne 71 = .ok (.lstore 9, 2) := by decide +kernel
theorem dX3_lowerOne_73 : decode cX3_lowerOne 73 = .ok (.iload 5, 2) := by decide +kernel
theorem dX3_lowerOne_75 : decode cX3_lowerOne 75 = .ok (.ifCond .eq 18, 3) := by decide +kernel
theorem dX3_lowerOne_78 : decode cX3_lowerOne 78 = .ok (.lload 7, 2) := by decide +kernel
theorem dX3_lowerOne_80 : decode cX3_lowerOne 80 = .ok (.lload 9, 2) := by decide +kernel
theorem dX3_lowerOne_82 : decode cX3_lowerOne 82 = .ok (.lload 7, 2) := by decide +kernel
theorem dX3_lowerOne_84 : decode cX3_lowerOne 84 = .ok (.lsub, 1) := by decide +kernel
theorem dX3_lowerOne_85 : decode cX3_lowerOne 85 = .ok (.ldc2_w 128, 3) := by decide +kernel
theorem dX3_lowerOne_88 : decode cX3_lowerOne 88 = .ok (.ldiv, 1) := by decide +kernel
theorem dX3_lowerOne_89 : decode cX3_lowerOne 89 = .ok (.ladd, 1) := by decide +kernel
theorem dX3_lowerOne_90 : decode cX3_lowerOne 90 = .ok (.goto 5, 3) := by decide +kernel
theorem dX3_lowerOne_93 : decode cX3_lowerOne 93 = .ok (.lload 7, 2) := by decide +kernel
theorem dX3_lowerOne_95 : decode cX3_lowerOne 95 = .ok (.lstore 11, 2) := by decide +kernel
theorem dX3_lowerOne_97 : decode cX3_lowerOne 97 = .ok (.lload 11, 2) := by decide +kernel
theorem dX3_lowerOne_99 : decode cX3_lowerOne 99 = .ok (.lload 9, 2) := by decide +kernel
theorem dX3_lowerOne_101 : decode cX3_lowerOne 101 = .ok (.lcmp, 1) := by decide +kernel
theorem dX3_lowerOne_102 : decode cX3_lowerOne 102 = .ok (.ifCond .ne 5, 3) := by decide +kernel
theorem dX3_lowerOne_105 : decode cX3_lowerOne 105 = .ok (.iconst 0, 1) := by decide +kernel
theorem dX3_lowerOne_106 : decode cX3_lowerOne 106 = .ok (.ireturn, 1) := by decide +kernel
theorem dX3_lowerOne_107 : decode cX3_lowerOne 107 = .ok (.aload_n 0, 1) := by decide +kernel
theorem dX3_lowerOne_108 : decode cX3_lowerOne 108 = .ok (.aload_n 2, 1) := by decide +kernel
theorem dX3_lowerOne_109 : decode cX3_lowerOne 109 = .ok (.invokevirtual 130, 3) := by decide +kernel
theorem dX3_lowerOne_112 : decode cX3_lowerOne 112 = .ok (.aload_n 0, 1) := by decide +kernel
theorem dX3_lowerOne_113 : decode cX3_lowerOne 113 = .ok (.getfield 22, 3) := by decide +kernel
theorem dX3_lowerOne_116 : decode cX3_lowerOne 116 = .ok (.iload_n 3, 1) := by decide +kernel
theorem dX3_lowerOne_117 : decode cX3_lowerOne 117 = .ok (.aaload, 1) := by decide +kernel
theorem dX3_lowerOne_118 : decode cX3_lowerOne 118 = .ok (.iload 4, 2) := by decide +kernel
theorem dX3_lowerOne_120 : decode cX3_lowerOne 120 = .ok (.lload 11, 2) := by decide +kernel
theorem dX3_lowerOne_122 : decode cX3_lowerOne 122 = .ok (.l2i, 1) := by decide +kernel
theorem dX3_lowerOne_123 : decode cX3_lowerOne 123 = .ok (.iastore, 1) := by decide +kernel
theorem dX3_lowerOne_124 : decode cX3_lowerOne 124 = .ok (.iconst 1, 1) := by decide +kernel
theorem dX3_lowerOne_125 : decode cX3_lowerOne 125 = .ok (.ireturn, 1) := by decide +kernel
theorem dX4_wipe_0 : decode cX4_wipe 0 = .ok (.aload_n 0, 1) := by decide +kernel
theorem dX4_wipe_1 : decode cX4_wipe 1 = .ok (.iconst 0, 1) := by decide +kernel
theorem dX4_wipe_2 : decode cX4_wipe 2 = .ok (.putfield 52, 3) := by decide +kernel
theorem dX4_wipe_5 : decode cX4_wipe 5 = .ok (.aload_n 0, 1) := by decide +kernel
theorem dX4_wipe_6 : decode cX4_wipe 6 = .ok (.iconst (-1), 1) := by decide +kernel
theorem dX4_wipe_7 : decode cX4_wipe 7 = .ok (.putfield 39, 3) := by decide +kernel
theorem dX4_wipe_10 : decode cX4_wipe 10 = .ok (.aload_n 0, 1) := by decide +kernel
theorem dX4_wipe_11 : decode cX4_wipe 11 = .ok (.iconst (-1), 1) := by decide +kernel
theorem dX4_wipe_12 : decode cX4_wipe 12 = .ok (.putfield 43, 3) := by decide +kernel
theorem dX4_wipe_15 : decode cX4_wipe 15 = .ok (.aload_n 0, 1) := by decide +kernel
theorem dX4_wipe_16 : decode cX4_wipe 16 = .ok (.iconst (-1), 1) := by decide +kernel
theorem dX4_wipe_17 : decode cX4_wipe 17 = .ok (.putfield 46, 3) := by decide +kernel
theorem dX4_wipe_20 : decode cX4_wipe 20 = .ok (.aload_n 0, 1) := by decide +kernel
theorem dX4_wipe_21 : decode cX4_wipe 21 = .ok (.iconst (-1), 1) := by decide +kernel
theorem dX4_wipe_22 : decode cX4_wipe 22 = .ok (.putfield 49, 3) := by decide +kernel
theorem dX4_wipe_25 : decode cX4_wipe 25 = .ok (.aload_n 0, 1) := by decide +kernel
theorem dX4_wipe_26 : decode cX4_wipe 26 = .ok (.lconst 0, 1) := by decide +kernel
theorem dX4_wipe_27 : decode cX4_wipe 27 = .ok (.putfield 55, 3) := by decide +kernel
theorem dX4_wipe_30 : decode cX4_wipe 30 = .ok (.aload_n 0, 1) := by decide +kernel
theorem dX4_wipe_31 : decode cX4_wipe 31 = .ok (.iconst 0, 1) := by decide +kernel
theorem dX4_wipe_32 : decode cX4_wipe 32 = .ok (.putfield 59, 3) := by decide +kernel
theorem dX4_wipe_35 : decode cX4_wipe 35 = .ok (.aload_n 0, 1) := by decide +kernel
theorem dX4_wipe_36 : decode cX4_wipe 36 = .ok (.iconst 0, 1) := by decide +kernel
theorem dX4_wipe_37 : decode cX4_wipe 37 = .ok (.putfield 62, 3) := by decide +kernel
theorem dX4_wipe_40 : decode cX4_wipe 40 = .ok (.iconst 0, 1) := by decide +kernel
theorem dX4_wipe_41 : decode cX4_wipe 41 = .ok (.istore_n 1, 1) := by decide +kernel
theorem dX4_wipe_42 : decode cX4_wipe 42 = .ok (.iload_n 1, 1) := by decide +kernel
theorem dX4_wipe_43 : decode cX4_wipe 43 = .ok (.bipush 10, 2) := by decide +kernel
theorem dX4_wipe_45 : decode cX4_wipe 45 = .ok (.if_icmp .ge 14, 3) := by decide +kernel
theorem dX4_wipe_48 : decode cX4_wipe 48 = .ok (.aload_n 0, 1) := by decide +kernel
theorem dX4_wipe_49 : decode cX4_wipe 49 = .ok (.iload_n 1, 1) := by decide +kernel
theorem dX4_wipe_50 : decode cX4_wipe 50 = .ok (.invokevirtual 65, 3) := by decide +kernel
theorem dX4_wipe_53 : decode cX4_wipe 53 = .ok (.iinc 1 1, 3) := by decide +kernel
theorem dX4_wipe_56 : decode cX4_wipe 56 = .ok (.goto (-14), 3) := by decide +kernel
theorem dX4_wipe_59 : decode cX4_wipe 59 = .ok (.return_, 1) := by decide +kernel
theorem dX4_forgetCall_0 : decode cX4_forgetCall 0 = .ok (.iload_n 1, 1) := by decide +kernel
theorem dX4_forgetCall_1 : decode cX4_forgetCall 1 = .ok (.ifCond .lt 23, 3) := by decide +kernel
theorem dX4_forgetCall_4 : decode cX4_forgetCall 4 = .ok (.iload_n 1, 1) := by decide +kernel
theorem dX4_forgetCall_5 : decode cX4_forgetCall 5 = .ok (.bipush 10, 2) := by decide +kernel
theorem dX4_forgetCall_7 : decode cX4_forgetCall 7 = .ok (.if_icmp .ge 17, 3) := by decide +kernel
theorem dX4_forgetCall_10 : decode cX4_forgetCall 10 = .ok (.aload_n 0, 1) := by decide +kernel
theorem dX4_forgetCall_11 : decode cX4_forgetCall 11 = .ok (.getfield 33, 3) := by decide +kernel
theorem dX4_forgetCall_14 : decode cX4_forgetCall 14 = .ok (.iload_n 1, 1) := by decide +kernel
theorem dX4_forgetCall_15 : decode cX4_forgetCall 15 = .ok (.iconst 0, 1) := by decide +kernel
theorem dX4_forgetCall_16 : decode cX4_forgetCall 16 = .ok (.iastore, 1) := by decide +kernel
theorem dX4_forgetCall_17 : decode cX4_forgetCall 17 = .ok (.aload_n 0, 1) := by decide +kernel
theorem dX4_forgetCall_18 : decode cX4_forgetCall 18 = .ok (.getfield 36, 3) := by decide +kernel
theorem dX4_forgetCall_21 : decode cX4_forgetCall 21 = .ok (.iload_n 1, 1) := by decide +kernel
theorem dX4_forgetCall_22 : decode cX4_forgetCall 22 = .ok (.iconst 0, 1) := by decide +kernel
theorem dX4_forgetCall_23 : decode cX4_forgetCall 23 = .ok (.iastore, 1) := by decide +kernel
theorem dX4_forgetCall_24 : decode cX4_forgetCall 24 = .ok (.return_, 1) := by decide +kernel
theorem dX4_breakBy_0 : decode cX4_breakBy 0 = .ok (.aload_n 0, 1) := by decide +kernel
theorem dX4_breakBy_1 : decode cX4_breakBy 1 = .ok (.iload_n 1, 1) := by decide +kernel
theorem dX4_breakBy_2 : decode cX4_breakBy 2 = .ok (.putfield 52, 3) := by decide +kernel
theorem dX4_breakBy_5 : decode cX4_breakBy 5 = .ok (.aload_n 0, 1) := by decide +kernel
theorem dX4_breakBy_6 : decode cX4_breakBy 6 = .ok (.iload_n 2, 1) := by decide +kernel
theorem dX4_breakBy_7 : decode cX4_breakBy 7 = .ok (.putfield 39, 3) := by decide +kernel
theorem dX4_breakBy_10 : decode cX4_breakBy 10 = .ok (.aload_n 0, 1) := by decide +kernel
theorem dX4_breakBy_11 : decode cX4_breakBy 11 = .ok (.iload_n 3, 1) := by decide +kernel
theorem dX4_breakBy_12 : decode cX4_breakBy 12 = .ok (.putfield 43, 3) := by decide +kernel
theorem dX4_breakBy_15 : decode cX4_breakBy 15 = .ok (.return_, 1) := by decide +kernel
theorem dX4_breakAt_0 : decode cX4_breakAt 0 = .ok (.aload_n 0, 1) := by decide +kernel
theorem dX4_breakAt_1 : decode cX4_breakAt 1 = .ok (.iload_n 1, 1) := by decide +kernel
theorem dX4_breakAt_2 : decode cX4_breakAt 2 = .ok (.putfield 52, 3) := by decide +kernel
theorem dX4_breakAt_5 : decode cX4_breakAt 5 = .ok (.aload_n 0, 1) := by decide +kernel
theorem dX4_breakAt_6 : decode cX4_breakAt 6 = .ok (.iload_n 2, 1) := by decide +kernel
theorem dX4_breakAt_7 : decode cX4_breakAt 7 = .ok (.putfield 46, 3) := by decide +kernel
theorem dX4_breakAt_10 : decode cX4_breakAt 10 = .ok (.aload_n 0, 1) := by decide +kernel
theorem dX4_breakAt_11 : decode cX4_breakAt 11 = .ok (.iload_n 3, 1) := by decide +kernel
theorem dX4_breakAt_12 : decode cX4_breakAt 12 = .ok (.putfield 49, 3) := by decide +kernel
theorem dX4_breakAt_15 : decode cX4_breakAt 15 = .ok (.return_, 1) := by decide +kernel
theorem dX4_brokenPlace_0 : decode cX4_brokenPlace 0 = .ok (.aload_n 0, 1) := by decide +kernel
theorem dX4_brokenPlace_1 : decode cX4_brokenPlace 1 = .ok (.getfield 39, 3) := by decide +kernel
theorem dX4_brokenPlace_4 : decode cX4_brokenPlace 4 = .ok (.ifCond .lt 26, 3) := by decide +kernel
theorem dX4_brokenPlace_7 : decode cX4_brokenPlace 7 = .ok (.aload_n 0, 1) := by decide +kernel
theorem dX4_brokenPlace_8 : decode cX4_brokenPlace 8 = .ok (.getfield 39, 3) := by decide +kernel
theorem dX4_brokenPlace_11 : decode cX4_brokenPlace 11 = .ok (.aload_n 1, 1) := by decide +kernel
theorem dX4_brokenPlace_12 : decode cX4_brokenPlace 12 = .ok (.getfield 69, 3) := by decide +kernel
theorem dX4_brokenPlace_15 : decode cX4_brokenPlace 15 = .ok (.if_icmp .ge 15, 3) := by decide +kernel
theorem dX4_brokenPlace_18 : decode cX4_brokenPlace 18 = .ok (.aload_n 1, 1) := by decide +kernel
theorem dX4_brokenPlace_19 : decode cX4_brokenPlace 19 = .ok (.getfield 74, 3) := by decide +kernel
theorem dX4_brokenPlace_22 : decode cX4_brokenPlace 22 = .ok (.aload_n 0, 1) := by decide +kernel
theorem dX4_brokenPlace_23 : decode cX4_brokenPlace 23 = .ok (.getfield 39, 3) := by decide +kernel
theorem dX4_brokenPlace_26 : decode cX4_brokenPlace 26 = .ok (.iaload, 1) := by decide +kernel
theorem dX4_brokenPlace_27 : decode cX4_brokenPlace 27 = .ok (.goto 4, 3) := by decide +kernel
theorem dX4_brokenPlace_30 : decode cX4_brokenPlace 30 = .ok (.iconst (-1), 1) := by decide +kernel
theorem dX4_brokenPlace_31 : decode cX4_brokenPlace 31 = .ok (.ireturn, 1) := by decide +kernel
theorem dX6_admits_0 : decode cX6_admits 0 = .ok (.iload_n 1, 1) := by decide +kernel
theorem dX6_admits_1 : decode cX6_admits 1 = .ok (.ifCond .lt 16, 3) := by decide +kernel
theorem dX6_admits_4 : decode cX6_admits 4 = .ok (.iload_n 1, 1) := by decide +kernel
theorem dX6_admits_5 : decode cX6_admits 5 = .ok (.aload_n 0, 1) := by decide +kernel
theorem dX6_admits_6 : decode cX6_admits 6 = .ok (.getfield 16, 3) := by decide +kernel
theorem dX6_admits_9 : decode cX6_admits 9 = .ok (.if_icmp .ge 8, 3) := by decide +kernel
theorem dX6_admits_12 : decode cX6_admits 12 = .ok (.iload_n 1, 1) := by decide +kernel
theorem dX6_admits_13 : decode cX6_admits 13 = .ok (.iconst 3, 1) := by decide +kernel
theorem dX6_admits_14 : decode cX6_admits 14 = .ok (.if_icmp .lt 13, 3) := by decide +kernel
theorem dX6_admits_17 : decode cX6_admits 17 = .ok (.iload_n 2, 1) := by decide +kernel
theorem dX6_admits_18 : decode cX6_admits 18 = .ok (.ifCond .ne 7, 3) := by decide +kernel
theorem dX6_admits_21 : decode cX6_admits 21 = .ok (.iconst 1, 1) := by decide +kernel
theorem dX6_admits_22 : decode cX6_admits 22 = .ok (.goto 4, 3) := by decide +kernel
theorem dX6_admits_25 : decode cX6_admits 25 = .ok (.iconst 0, 1) := by decide +kernel
theorem dX6_admits_26 : decode cX6_admits 26 = .ok (.ireturn, 1) := by decide +kernel
theorem dX6_admits_27 : decode cX6_admits 27 = .ok (.iload_n 2, 1) := by decide +kernel
theorem dX6_admits_28 : decode cX6_admits 28 = .ok (.aload_n 0, 1) := by decide +kernel
theorem dX6_admits_29 : decode cX6_admits 29 = .ok (.getfield 9, 3) := by decide +kernel
theorem dX6_admits_32 : decode cX6_admits 32 = .ok (.iload_n 1, 1) := by decide +kernel
theorem dX6_admits_33 : decode cX6_admits 33 = .ok (.iaload, 1) := by decide +kernel
theorem dX6_admits_34 : decode cX6_admits 34 = .ok (.if_icmp .lt 17, 3) := by decide +kernel
theorem dX6_admits_37 : decode cX6_admits 37 = .ok (.iload_n 2, 1) := by decide +kernel
theorem dX6_admits_38 : decode cX6_admits 38 = .ok (.aload_n 0, 1) := by decide +kernel
theorem dX6_admits_39 : decode cX6_admits 39 = .ok (.getfield 13, 3) := by decide +kernel
theorem dX6_admits_42 : decode cX6_admits 42 = .ok (.iload_n 1, 1) := by decide +kernel
theorem dX6_admits_43 : decode cX6_admits 43 = .ok (.iaload, 1) := by decide +kernel
theorem dX6_admits_44 : decode cX6_admits 44 = .ok (.if_icmp .gt 7, 3) := by decide +kernel
theorem dX6_admits_47 : decode cX6_admits 47 = .ok (.iconst 1, 1) := by decide +kernel
theorem dX6_admits_48 : decode cX6_admits 48 = .ok (.goto 4, 3) := by decide +kernel
theorem dX6_admits_51 : decode cX6_admits 51 = .ok (.iconst 0, 1) := by decide +kernel
theorem dX6_admits_52 : decode cX6_admits 52 = .ok (.ireturn, 1) := by decide +kernel
theorem dX6_firstOf_0 : decode cX6_firstOf 0 = .ok (.iload_n 1, 1) := by decide +kernel
theorem dX6_firstOf_1 : decode cX6_firstOf 1 = .ok (.ifCond .lt 8, 3) := by decide +kernel
theorem dX6_firstOf_4 : decode cX6_firstOf 4 = .ok (.iload_n 1, 1) := by decide +kernel
theorem dX6_firstOf_5 : decode cX6_firstOf 5 = .ok (.iconst 3, 1) := by decide +kernel
theorem dX6_firstOf_6 : decode cX6_firstOf 6 = .ok (.if_icmp .lt 5, 3) := by decide +kernel
theorem dX6_firstOf_9 : decode cX6_firstOf 9 = .ok (.iconst 0, 1) := by decide +kernel
theorem dX6_firstOf_10 : decode cX6_firstOf 10 = .ok (.ireturn, 1) := by decide +kernel
theorem dX6_firstOf_11 : decode cX6_firstOf 11 = .ok (.aload_n 0, 1) := by decide +kernel
theorem dX6_firstOf_12 : decode cX6_firstOf 12 = .ok (.getfield 9, 3) := by decide +kernel
theorem dX6_firstOf_15 : decode cX6_firstOf 15 = .ok (.iload_n 1, 1) := by decide +kernel
theorem dX6_firstOf_16 : decode cX6_firstOf 16 = .ok (.iaload, 1) := by decide +kernel
theorem dX6_firstOf_17 : decode cX6_firstOf 17 = .ok (.ifCond .gt 16, 3) := by decide +kernel
theorem dX6_firstOf_20 : decode cX6_firstOf 20 = .ok (.aload_n 0, 1) := by decide +kernel
theorem dX6_firstOf_21 : decode cX6_firstOf 21 = .ok (.getfield 13, 3) := by decide +kernel
theorem dX6_firstOf_24 : decode cX6_firstOf 24 = .ok (.iload_n 1, 1) := by decide +kernel
theorem dX6_firstOf_25 : decode cX6_firstOf 25 = .ok (.iaload, 1) := by decide +kernel
theorem dX6_firstOf_26 : decode cX6_firstOf 26 = .ok (.ifCond .lt 7, 3) := by decide +kernel
theorem dX6_firstOf_29 : decode cX6_firstOf 29 = .ok (.iconst 0, 1) := by decide +kernel
theorem dX6_firstOf_30 : decode cX6_firstOf 30 = .ok (.goto 9, 3) := by decide +kernel
theorem dX6_firstOf_33 : decode cX6_firstOf 33 = .ok (.aload_n 0, 1) := by decide +kernel
theorem dX6_firstOf_34 : decode cX6_firstOf 34 = .ok (.getfield 9, 3) := by decide +kernel
theorem dX6_firstOf_37 : decode cX6_firstOf 37 = .ok (.iload_n 1, 1) := by decide +kernel
theorem dX6_firstOf_38 : decode cX6_firstOf 38 = .ok (.iaload, 1) := by decide +kernel
theorem dX6_firstOf_39 : decode cX6_firstOf 39 = .ok (.ireturn, 1) := by decide +kernel
theorem dX6_numberBehind_0 : decode cX6_numberBehind 0 = .ok (.iload_n 1, 1) := by decide +kernel
theorem dX6_numberBehind_1 : decode cX6_numberBehind 1 = .ok (.ifCond .lt 8, 3) := by decide +kernel
theorem dX6_numberBehind_4 : decode cX6_numberBehind 4 = .ok (.iload_n 1, 1) := by decide +kernel
theorem dX6_numberBehind_5 : decode cX6_numberBehind 5 = .ok (.iconst 3, 1) := by decide +kernel
theorem dX6_numberBehind_6 : decode cX6_numberBehind 6 = .ok (.if_icmp .lt 5, 3) := by decide +kernel
theorem dX6_numberBehind_9 : decode cX6_numberBehind 9 = .ok (.iload_n 2, 1) := by decide +kernel
theorem dX6_numberBehind_10 : decode cX6_numberBehind 10 = .ok (.ireturn, 1) := by decide +kernel
theorem dX6_numberBehind_11 : decode cX6_numberBehind 11 = .ok (.iload_n 2, 1) := by decide +kernel
theorem dX6_numberBehind_12 : decode cX6_numberBehind 12 = .ok (.ifCond .ge 24, 3) := by decide +kernel
theorem dX6_numberBehind_15 : decode cX6_numberBehind 15 = .ok (.iload_n 2, 1) := by decide +kernel
theorem dX6_numberBehind_16 : decode cX6_numberBehind 16 = .ok (.aload_n 0, 1) := by decide +kernel
theorem dX6_numberBehind_17 : decode cX6_numberBehind 17 = .ok (.getfield 9, 3) := by decide +kernel
theorem dX6_numberBehind_20 : decode cX6_numberBehind 20 = .ok (.iload_n 1, 1) := by decide +kernel
theorem dX6_numberBehind_21 : decode cX6_numberBehind 21 = .ok (.iaload, 1) := by decide +kernel
theorem dX6_numberBehind_22 : decode cX6_numberBehind 22 = .ok (.if_icmp .ne 14, 3) := by decide +kernel
theorem dX6_numberBehind_25 : decode cX6_numberBehind 25 = .ok (.aload_n 0, 1) := by decide +kernel
theorem dX6_numberBehind_26 : decode cX6_numberBehind 26 = .ok (.getfield 13, 3) := by decide +kernel
theorem dX6_numberBehind_29 : decode cX6_numberBehind 29 = .ok (.iload_n 1, 1) := by decide +kernel
theorem dX6_numberBehind_30 : decode cX6_numberBehind 30 = .ok (.iaload, 1) := by decide +kernel
theorem dX6_numberBehind_31 : decode cX6_numberBehind 31 = .ok (.ifCond .le 5, 3) := by decide +kernel
theorem dX6_numberBehind_34 : decode cX6_numberBehind 34 = .ok (.iconst 0, 1) := by decide +kernel
theorem dX6_numberBehind_35 : decode cX6_numberBehind 35 = .ok (.ireturn, 1) := by decide +kernel
theorem dX6_numberBehind_36 : decode cX6_numberBehind 36 = .ok (.aload_n 0, 1) := by decide +kernel
theorem dX6_numberBehind_37 : decode cX6_numberBehind 37 = .ok (.getfield 13, 3) := by decide +kernel
theorem dX6_numberBehind_40 : decode cX6_numberBehind 40 = .ok (.iload_n 1, 1) := by decide +kernel
theorem dX6_numberBehind_41 : decode cX6_numberBehind 41 = .ok (.iaload, 1) := by decide +kernel
theorem dX6_numberBehind_42 : decode cX6_numberBehind 42 = .ok (.ireturn, 1) := by decide +kernel
theorem dX7_hasClass_0 : decode cX7_hasClass 0 = .ok (.iload_n 1, 1) := by decide +kernel
theorem dX7_hasClass_1 : decode cX7_hasClass 1 = .ok (.ifCond .lt 15, 3) := by decide +kernel
theorem dX7_hasClass_4 : decode cX7_hasClass 4 = .ok (.iload_n 1, 1) := by decide +kernel
theorem dX7_hasClass_5 : decode cX7_hasClass 5 = .ok (.aload_n 0, 1) := by decide +kernel
theorem dX7_hasClass_6 : decode cX7_hasClass 6 = .ok (.getfield 58, 3) := by decide +kernel
theorem dX7_hasClass_9 : decode cX7_hasClass 9 = .ok (.if_icmp .ge 7, 3) := by decide +kernel
theorem dX7_hasClass_12 : decode cX7_hasClass 12 = .ok (.iconst 1, 1) := by decide +kernel
theorem dX7_hasClass_13 : decode cX7_hasClass 13 = .ok (.goto 4, 3) := by decide +kernel
theorem dX7_hasClass_16 : decode cX7_hasClass 16 = .ok (.iconst 0, 1) := by decide +kernel
theorem dX7_hasClass_17 : decode cX7_hasClass 17 = .ok (.ireturn, 1) := by decide +kernel
theorem dX7_hasMember_0 : decode cX7_hasMember 0 = .ok (.aload_n 0, 1) := by decide +kernel
theorem dX7_hasMember_1 : decode cX7_hasMember 1 = .ok (.iload_n 1, 1) := by decide +kernel
theorem dX7_hasMember_2 : decode cX7_hasMember 2 = .ok (.invokevirtual 80, 3) := by decide +kernel
theorem dX7_hasMember_5 : decode cX7_hasMember 5 = .ok (.ifCond .eq 24, 3) := by decide +kernel
theorem dX7_hasMember_8 : decode cX7_hasMember 8 = .ok (.iload_n 2, 1) := by decide +kernel
theorem dX7_hasMember_9 : decode cX7_hasMember 9 = .ok (.ifCond .lt 20, 3) := by decide +kernel
theorem dX7_hasMember_12 : decode cX7_hasMember 12 = .ok (.iload_n 2, 1) := by decide +kernel
theorem dX7_hasMember_13 : decode cX7_hasMember 13 = .ok (.aload_n 0, 1) := by decide +kernel
theorem dX7_hasMember_14 : decode cX7_hasMember 14 = .ok (.getfield 13, 3) := by decide +kernel
theorem dX7_hasMember_17 : decode cX7_hasMember 17 = .ok (.iload_n 1, 1) := by decide +kernel
theorem dX7_hasMember_18 : decode cX7_hasMember 18 = .ok (.aaload, 1) := by decide +kernel
theorem dX7_hasMember_19 : decode cX7_hasMember 19 = .ok (.getfield 84, 3) := by decide +kernel
theorem dX7_hasMember_22 : decode cX7_hasMember 22 = .ok (.if_icmp .ge 7, 3) := by decide +kernel
theorem dX7_hasMember_25 : decode cX7_hasMember 25 = .ok (.iconst 1, 1) := by decide +kernel
theorem dX7_hasMember_26 : decode cX7_hasMember 26 = .ok (.goto 4, 3) := by decide +kernel
theorem dX7_hasMember_29 : decode cX7_hasMember 29 = .ok (.iconst 0, 1) := by decide +kernel
theorem dX7_hasMember_30 : decode cX7_hasMember 30 = .ok (.ireturn, 1) := by decide +kernel
theorem dX7_cellsOf_0 : decode cX7_cellsOf 0 = .ok (.iload_n 1, 1) := by decide +kernel
theorem dX7_cellsOf_1 : decode cX7_cellsOf 1 = .ok (.ifCond .lt 23, 3) := by decide +kernel
theorem dX7_cellsOf_4 : decode cX7_cellsOf 4 = .ok (.iload_n 1, 1) := by decide +kernel
theorem dX7_cellsOf_5 : decode cX7_cellsOf 5 = .ok (.aload_n 0, 1) := by decide +kernel
theorem dX7_cellsOf_6 : decode cX7_cellsOf 6 = .ok (.getfield 58, 3) := by decide +kernel
theorem dX7_cellsOf_9 : decode cX7_cellsOf 9 = .ok (.if_icmp .ge 15, 3) := by decide +kernel
theorem dX7_cellsOf_12 : decode cX7_cellsOf 12 = .ok (.aload_n 0, 1) := by decide +kernel
theorem dX7_cellsOf_13 : decode cX7_cellsOf 13 = .ok (.getfield 13, 3) := by decide +kernel
theorem dX7_cellsOf_16 : decode cX7_cellsOf 16 = .ok (.iload_n 1, 1) := by decide +kernel
theorem dX7_cellsOf_17 : decode cX7_cellsOf 17 = .ok (.aaload, 1) := by decide +kernel
theorem dX7_cellsOf_18 : decode cX7_cellsOf 18 = .ok (.getfield 87, 3) := by decide +kernel
theorem dX7_cellsOf_21 : decode cX7_cellsOf 21 = .ok (.goto 4, 3) := by decide +kernel
theorem dX7_cellsOf_24 : decode cX7_cellsOf 24 = .ok (.iconst 0, 1) := by decide +kernel
theorem dX7_cellsOf_25 : decode cX7_cellsOf 25 = .ok (.ireturn, 1) := by decide +kernel
theorem dX7_memberNamed_0 : decode cX7_memberNamed 0 = .ok (.iconst 0, 1) := by decide +kernel
theorem dX7_memberNamed_1 : decode cX7_memberNamed 1 = .ok (.istore 4, 2) := by decide +kernel
theorem dX7_memberNamed_3 : decode cX7_memberNamed 3 = .ok (.iload 4, 2) := by decide +kernel
theorem dX7_memberNamed_5 : decode cX7_memberNamed 5 = .ok (.aload_n 1, 1) := by decide +kernel
theorem dX7_memberNamed_6 : decode cX7_memberNamed 6 = .ok (.getfield 84, 3) := by decide +kernel
theorem dX7_memberNamed_9 : decode cX7_memberNamed 9 = .ok (.if_icmp .ge 32, 3) := by decide +kernel
theorem dX7_memberNamed_12 : decode cX7_memberNamed 12 = .ok (.aload_n 0, 1) := by decide +kernel
theorem dX7_memberNamed_13 : decode cX7_memberNamed 13 = .ok (.getfield 20, 3) := by decide +kernel
theorem dX7_memberNamed_16 : decode cX7_memberNamed 16 = .ok (.aload_n 1, 1) := by decide +kernel
theorem dX7_memberNamed_17 : decode cX7_memberNamed 17 = .ok (.getfield 94, 3) := by decide +kernel
theorem dX7_memberNamed_20 : decode cX7_memberNamed 20 = .ok (.iload 4, 2) := by decide +kernel
theorem dX7_memberNamed_22 : decode cX7_memberNamed 22 = .ok (.iaload, 1) := by decide +kernel
theorem dX7_memberNamed_23 : decode cX7_memberNamed 23 = .ok (.aaload, 1) := by decide +kernel
theorem dX7_memberNamed_24 : decode cX7_memberNamed 24 = .ok (.getfield 97, 3) := by decide +kernel
theorem dX7_memberNamed_27 : decode cX7_memberNamed 27 = .ok (.lload_n 2, 1) := by decide +kernel
theorem dX7_memberNamed_28 : decode cX7_memberNamed 28 = .ok (.lcmp, 1) := by decide +kernel
theorem dX7_memberNamed_29 : decode cX7_memberNamed 29 = .ok (.ifCond .ne 6, 3) := by decide +kernel
theorem dX7_memberNamed_32 : decode cX7_memberNamed 32 = .ok (.iload 4, 2) := by decide +kernel
theorem dX7_memberNamed_34 : decode cX7_memberNamed 34 = .ok (.ireturn, 1) := by decide +kernel
theorem dX7_memberNamed_35 : decode cX7_memberNamed 35 = .ok (.iinc 4 1, 3) := by decide +kernel
theorem dX7_memberNamed_38 : decode cX7_memberNamed 38 = .ok (.goto (-35), 3) := by decide +kernel
theorem dX7_memberNamed_41 : decode cX7_memberNamed 41 = .ok (.iconst (-1), 1) := by decide +kernel
theorem dX7_memberNamed_42 : decode cX7_memberNamed 42 = .ok (.ireturn, 1) := by decide +kernel
theorem dX7_begunOf_0 : decode cX7_begunOf 0 = .ok (.iconst 0, 1) := by decide +kernel
theorem dX7_begunOf_1 : decode cX7_begunOf 1 = .ok (.istore_n 2, 1) := by decide +kernel
theorem dX7_begunOf_2 : decode cX7_begunOf 2 = .ok (.aload_n 1, 1) := by decide +kernel
theorem dX7_begunOf_3 : decode cX7_begunOf 3 = .ok (.getfield 98, 3) := by decide +kernel
theorem dX7_begunOf_6 : decode cX7_begunOf 6 = .ok (.istore_n 3, 1) := by decide +kernel
theorem dX7_begunOf_7 : decode cX7_begunOf 7 = .ok (.iload_n 3, 1) := by decide +kernel
theorem dX7_begunOf_8 : decode cX7_begunOf 8 = .ok (.aload_n 1, 1) := by decide +kernel
theorem dX7_begunOf_9 : decode cX7_begunOf 9 = .ok (.getfield 98, 3) := by decide +kernel
theorem dX7_begunOf_12 : decode cX7_begunOf 12 = .ok (.aload_n 1, 1) := by decide +kernel
theorem dX7_begunOf_13 : decode cX7_begunOf 13 = .ok (.getfield 101, 3) := by decide +kernel
theorem dX7_begunOf_16 : decode cX7_begunOf 16 = .ok (.iadd, 1) := by decide +kernel
theorem dX7_begunOf_17 : decode cX7_begunOf 17 = .ok (.if_icmp .ge 34, 3) := by decide +kernel
theorem dX7_begunOf_20 : decode cX7_begunOf 20 = .ok (.iload_n 3, 1) := by decide +kernel
theorem dX7_begunOf_21 : decode cX7_begunOf 21 = .ok (.aload_n 0, 1) := by decide +kernel
theorem dX7_begunOf_22 : decode cX7_begunOf 22 = .ok (.getfield 71, 3) := by decide +kernel
theorem dX7_begunOf_25 : decode cX7_begunOf 25 = .ok (.if_icmp .ge 26, 3) := by decide +kernel
theorem dX7_begunOf_28 : decode cX7_begunOf 28 = .ok (.iload_n 2, 1) := by decide +kernel
theorem dX7_begunOf_29 : decode cX7_begunOf 29 = .ok (.aload_n 0, 1) := by decide +kernel
theorem dX7_begunOf_30 : decode cX7_begunOf 30 = .ok (.getfield 51, 3) := by decide +kernel
theorem dX7_begunOf_33 : decode cX7_begunOf 33 = .ok (.iload_n 3, 1) := by decide +kernel
theorem dX7_begunOf_34 : decode cX7_begunOf 34 = .ok (.baload, 1) := by decide +kernel
theorem dX7_begunOf_35 : decode cX7_begunOf 35 = .ok (.ifCond .eq 7, 3) := by decide +kernel
theorem dX7_begunOf_38 : decode cX7_begunOf 38 = .ok (.iconst 1, 1) := by decide +kernel
theorem dX7_begunOf_39 : decode cX7_begunOf 39 = .ok (.goto 4, 3) := by decide +kernel
theorem dX7_begunOf_42 : decode cX7_begunOf 42 = .ok (.iconst 0, 1) := by decide +kernel
theorem dX7_begunOf_43 : decode cX7_begunOf 43 = .ok (.iadd, 1) := by decide +kernel
theorem dX7_begunOf_44 : decode cX7_begunOf 44 = .ok (.istore_n 2, 1) := by decide +kernel
theorem dX7_begunOf_45 : decode cX7_begunOf 45 = .ok (.iinc 3 1, 3) := by decide +kernel
theorem dX7_begunOf_48 : decode cX7_begunOf 48 = .ok (.goto (-41), 3) := by decide +kernel
theorem dX7_begunOf_51 : decode cX7_begunOf 51 = .ok (.iload_n 2, 1) := by decide +kernel
theorem dX7_begunOf_52 : decode cX7_begunOf 52 = .ok (.ireturn, 1) := by decide +kernel
theorem dX8_letterOf_0 : decode cX8_letterOf 0 = .ok (.iconst 0, 1) := by decide +kernel
theorem dX8_letterOf_1 : decode cX8_letterOf 1 = .ok (.istore_n 3, 1) := by decide +kernel
theorem dX8_letterOf_2 : decode cX8_letterOf 2 = .ok (.lload_n 0, 1) := by decide +kernel
theorem dX8_letterOf_3 : decode cX8_letterOf 3 = .ok (.lstore 4, 2) := by decide +kernel
theorem dX8_letterOf_5 : decode cX8_letterOf 5 = .ok (.lload 4, 2) := by decide +kernel
theorem dX8_letterOf_7 : decode cX8_letterOf 7 = .ok (.lconst 0, 1) := by decide +kernel
theorem dX8_letterOf_8 : decode cX8_letterOf 8 = .ok (.lcmp, 1) := by decide +kernel
theorem dX8_letterOf_9 : decode cX8_letterOf 9 = .ok (.ifCond .le 23, 3) := by decide +kernel
theorem dX8_letterOf_12 : decode cX8_letterOf 12 = .ok (.iload_n 3, 1) := by decide +kernel
theorem dX8_letterOf_13 : decode cX8_letterOf 13 = .ok (.bipush 12, 2) := by decide +kernel
theorem dX8_letterOf_15 : decode cX8_letterOf 15 = .ok (.if_icmp .ge 17, 3) := by decide +kernel
theorem dX8_letterOf_18 : decode cX8_letterOf 18 = .ok (.iinc 3 1, 3) := by decide +kernel
theorem dX8_letterOf_21 : decode cX8_letterOf 21 = .ok (.lload 4, 2) := by decide +kernel
theorem dX8_letterOf_23 : decode cX8_letterOf 23 = .ok (.ldc2_w 55, 3) := by decide +kernel
theorem dX8_letterOf_26 : decode cX8_letterOf 26 = .ok (.ldiv, 1) := by decide +kernel
theorem dX8_letterOf_27 : decode cX8_letterOf 27 = .ok (.lstore 4, 2) := by decide +kernel
theorem dX8_letterOf_29 : decode cX8_letterOf 29 = .ok (.goto (-24), 3) := by decide +kernel
theorem dX8_letterOf_32 : decode cX8_letterOf 32 = .ok (.iload_n 2, 1) := by decide +kernel
theorem dX8_letterOf_33 : decode cX8_letterOf 33 = .ok (.ifCond .lt 8, 3) := by decide +kernel
theorem dX8_letterOf_36 : decode cX8_letterOf 36 = .ok (.iload_n 2, 1) := by decide +kernel
theorem dX8_letterOf_37 : decode cX8_letterOf 37 = .ok (.iload_n 3, 1) := by decide +kernel
theorem dX8_letterOf_38 : decode cX8_letterOf 38 = .ok (.if_icmp .lt 5, 3) := by decide +kernel
theorem dX8_letterOf_41 : decode cX8_letterOf 41 = .ok (.iconst (-1), 1) := by decide +kernel
theorem dX8_letterOf_42 : decode cX8_letterOf 42 = .ok (.ireturn, 1) := by decide +kernel
theorem dX8_letterOf_43 : decode cX8_letterOf 43 = .ok (.lload_n 0, 1) := by decide +kernel
theorem dX8_letterOf_44 : decode cX8_letterOf 44 = .ok (.lstore 4, 2) := by decide +kernel
theorem dX8_letterOf_46 : decode cX8_letterOf 46 = .ok (.iload_n 3, 1) := by decide +kernel
theorem dX8_letterOf_47 : decode cX8_letterOf 47 = .ok (.iconst 1, 1) := by decide +kernel
theorem dX8_letterOf_48 : decode cX8_letterOf 48 = .ok (.isub, 1) := by decide +kernel
theorem dX8_letterOf_49 : decode cX8_letterOf 49 = .ok (.istore 6, 2) := by decide +kernel
theorem dX8_letterOf_51 : decode cX8_letterOf 51 = .ok (.iload 6, 2) := by decide +kernel
theorem dX8_letterOf_53 : decode cX8_letterOf 53 = .ok (.iload_n 2, 1) := by decide +kernel
theorem dX8_letterOf_54 : decode cX8_letterOf 54 = .ok (.if_icmp .le 17, 3) := by decide +kernel
theorem dX8_letterOf_57 : decode cX8_letterOf 57 = .ok (.lload 4, 2) := by decide +kernel
theorem dX8_letterOf_59 : decode cX8_letterOf 59 = .ok (.ldc2_w 55, 3) := by decide +kernel
theorem dX8_letterOf_62 : decode cX8_letterOf 62 = .ok (.ldiv, 1) := by decide +kernel
theorem dX8_letterOf_63 : decode cX8_letterOf 63 = .ok (.lstore 4, 2) := by decide +kernel
theorem dX8_letterOf_65 : decode cX8_letterOf 65 = .ok (.iinc 6 (-1), 3) := by decide +kernel
theorem dX8_letterOf_68 : decode cX8_letterOf 68 = .ok (.goto (-17), 3) := by decide +kernel
theorem dX8_letterOf_71 : decode cX8_letterOf 71 = .ok (.lload 4, 2) := by decide +kernel
theorem dX8_letterOf_73 : decode cX8_letterOf 73 = .ok (.ldc2_w 55, 3) := by decide +kernel
theorem dX8_letterOf_76 : decode cX8_letterOf 76 = .ok (.lrem, 1) := by decide +kernel
theorem dX8_letterOf_77 : decode cX8_letterOf 77 = .ok (.l2i, 1) := by decide +kernel
theorem dX8_letterOf_78 : decode cX8_letterOf 78 = .ok (.istore 6, 2) := by decide +kernel
theorem dX8_letterOf_80 : decode cX8_letterOf 80 = .ok (.iload 6, 2) := by decide +kernel
theorem dX8_letterOf_82 : decode cX8_letterOf 82 = .ok (.bipush 37, 2) := by decide +kernel
theorem dX8_letterOf_84 : decode cX8_letterOf 84 = .ok (.if_icmp .ne 6, 3) := by decide +kernel
theorem dX8_letterOf_87 : decode cX8_letterOf 87 = .ok (.bipush 95, 2) := by decide +kernel
theorem dX8_letterOf_89 : decode cX8_letterOf 89 = .ok (.ireturn, 1) := by decide +kernel
theorem dX8_letterOf_90 : decode cX8_letterOf 90 = .ok (.iload 6, 2) := by decide +kernel
theorem dX8_letterOf_92 : decode cX8_letterOf 92 = .ok (.bipush 26, 2) := by decide +kernel
theorem dX8_letterOf_94 : decode cX8_letterOf 94 = .ok (.if_icmp .le 14, 3) := by decide +kernel
theorem dX8_letterOf_97 : decode cX8_letterOf 97 = .ok (.bipush 48, 2) := by decide +kernel
theorem dX8_letterOf_99 : decode cX8_letterOf 99 = .ok (.iload 6, 2) := by decide +kernel
theorem dX8_letterOf_101 : decode cX8_letterOf 101 = .ok (.iadd, 1) := by decide +kernel
theorem dX8_letterOf_102 : decode cX8_letterOf 102 = .ok (.bipush 27, 2) := by decide +kernel
theorem dX8_letterOf_104 : decode cX8_letterOf 104 = .ok (.isub, 1) := by decide +kernel
theorem dX8_letterOf_105 : decode cX8_letterOf 105 = .ok (.goto 10, 3) := by decide +kernel
theorem dX8_letterOf_108 : decode cX8_letterOf 108 = .ok (.bipush 97, 2) := by decide +kernel
theorem dX8_letterOf_110 : decode cX8_letterOf 110 = .ok (.iload 6, 2) := by decide +kernel
theorem dX8_letterOf_112 : decode cX8_letterOf 112 = .ok (.iadd, 1) := by decide +kernel
theorem dX8_letterOf_113 : decode cX8_letterOf 113 = .ok (.iconst 1, 1) := by decide +kernel
theorem dX8_letterOf_114 : decode cX8_letterOf 114 = .ok (.isub, 1) := by decide +kernel
theorem dX8_letterOf_115 : decode cX8_letterOf 115 = .ok (.ireturn, 1) := by decide +kernel
theorem dX9_fillNew_0 : decode cX9_fillNew 0 = .ok (.iconst 0, 1) := by decide +kernel
theorem dX9_fillNew_1 : decode cX9_fillNew 1 = .ok (.istore_n 2, 1) := by decide +kernel
theorem dX9_fillNew_2 : decode cX9_fillNew 2 = .ok (.iload_n 2, 1) := by decide +kernel
theorem dX9_fillNew_3 : decode cX9_fillNew 3 = .ok (.aload_n 0, 1) := by decide +kernel
theorem dX9_fillNew_4 : decode cX9_fillNew 4 = .ok (.getfield 36, 3) := by decide +kernel
theorem dX9_fillNew_7 : decode cX9_fillNew 7 = .ok (.if_icmp .ge 64, 3) := by decide +kernel
theorem dX9_fillNew_10 : decode cX9_fillNew 10 = .ok (.aload_n 0, 1) := by decide +kernel
theorem dX9_fillNew_11 : decode cX9_fillNew 11 = .ok (.getfield 15, 3) := by decide +kernel
theorem dX9_fillNew_14 : decode cX9_fillNew 14 = .ok (.iload_n 2, 1) := by decide +kernel
theorem dX9_fillNew_15 : decode cX9_fillNew 15 = .ok (.iaload, 1) := by decide +kernel
theorem dX9_fillNew_16 : decode cX9_fillNew 16 = .ok (.aload_n 0, 1) := by decide +kernel
theorem dX9_fillNew_17 : decode cX9_fillNew 17 = .ok (.getfield 19, 3) := by decide +kernel
theorem dX9_fillNew_20 : decode cX9_fillNew 20 = .ok (.iload_n 2, 1) := by decide +kernel
theorem dX9_fillNew_21 : decode cX9_fillNew 21 = .ok (.iaload, 1) := by decide +kernel
theorem dX9_fillNew_22 : decode cX9_fillNew 22 = .ok (.iconst 1, 1) := by decide +kernel
theorem dX9_fillNew_23 : decode cX9_fillNew 23 = .ok (.invokestatic 60, 3) := by decide +kernel
theorem dX9_fillNew_26 : decode cX9_fillNew 26 = .ok (.iadd, 1) := by decide +kernel
theorem dX9_fillNew_27 : decode cX9_fillNew 27 = .ok (.istore_n 3, 1) := by decide +kernel
theorem dX9_fillNew_28 : decode cX9_fillNew 28 = .ok (.aload_n 0, 1) := by decide +kernel
theorem dX9_fillNew_29 : decode cX9_fillNew 29 = .ok (.getfield 15, 3) := by decide +kernel
theorem dX9_fillNew_32 : decode cX9_fillNew 32 = .ok (.iload_n 2, 1) := by decide +kernel
theorem dX9_fillNew_33 : decode cX9_fillNew 33 = .ok (.iaload, 1) := by decide +kernel
theorem dX9_fillNew_34 : decode cX9_fillNew 34 = .ok (.istore 4, 2) := by decide +kernel
theorem dX9_fillNew_36 : decode cX9_fillNew 36 = .ok (.iload 4, 2) := by decide +kernel
theorem dX9_fillNew_38 : decode cX9_fillNew 38 = .ok (.iload_n 3, 1) := by decide +kernel
theorem dX9_fillNew_39 : decode cX9_fillNew 39 = .ok (.if_icmp .ge 26, 3) := by decide +kernel
theorem dX9_fillNew_42 : decode cX9_fillNew 42 = .ok (.iload 4, 2) := by decide +kernel
theorem dX9_fillNew_44 : decode cX9_fillNew 44 = .ok (.aload_n 1, 1) := by decide +kernel
theorem dX9_fillNew_45 : decode cX9_fillNew 45 = .ok (.arraylength, 1) := by decide +kernel
theorem dX9_fillNew_46 : decode cX9_fillNew 46 = .ok (.if_icmp .ge 19, 3) := by decide +kernel
theorem dX9_fillNew_49 : decode cX9_fillNew 49 = .ok (.aload_n 1, 1) := by decide +kernel
theorem dX9_fillNew_50 : decode cX9_fillNew 50 = .ok (.iload 4, 2) := by decide +kernel
theorem dX9_fillNew_52 : decode cX9_fillNew 52 = .ok (.aload_n 0, 1) := by decide +kernel
theorem dX9_fillNew_53 : decode cX9_fillNew 53 = .ok (.getfield 22, 3) := by decide +kernel
theorem dX9_fillNew_56 : decode cX9_fillNew 56 = .ok (.iload_n 2, 1) := by decide +kernel
theorem dX9_fillNew_57 : decode cX9_fillNew 57 = .ok (.iaload, 1) := by decide +kernel
theorem dX9_fillNew_58 : decode cX9_fillNew 58 = .ok (.iastore, 1) := by decide +kernel
theorem dX9_fillNew_59 : decode cX9_fillNew 59 = .ok (.iinc 4 1, 3) := by decide +kernel
theorem dX9_fillNew_62 : decode cX9_fillNew 62 = .ok (.goto (-26), 3) := by decide +kernel
theorem dX9_fillNew_65 : decode cX9_fillNew 65 = .ok (.iinc 2 1, 3) := by decide +kernel
theorem dX9_fillNew_68 : decode cX9_fillNew 68 = .ok (.goto (-66), 3) := by decide +kernel
theorem dX9_fillNew_71 : decode cX9_fillNew 71 = .ok (.return_, 1) := by decide +kernel
theorem dX9_changedCell_0 : decode cX9_changedCell 0 = .ok (.iconst 0, 1) := by decide +kernel
theorem dX9_changedCell_1 : decode cX9_changedCell 1 = .ok (.istore 4, 2) := by decide +kernel
theorem dX9_changedCell_3 : decode cX9_changedCell 3 = .ok (.iload 4, 2) := by decide +kernel
theorem dX9_changedCell_5 : decode cX9_changedCell 5 = .ok (.aload_n 0, 1) := by decide +kernel
theorem dX9_changedCell_6 : decode cX9_changedCell 6 = .ok (.getfield 36, 3) := by decide +kernel
theorem dX9_changedCell_9 : decode cX9_changedCell 9 = .ok (.if_icmp .ge 89, 3) := by decide +kernel
theorem dX9_changedCell_12 : decode cX9_changedCell 12 = .ok (.aload_n 0, 1) := by decide +kernel
theorem dX9_changedCell_13 : decode cX9_changedCell 13 = .ok (.getfield 15, 3) := by decide +kernel
theorem dX9_changedCell_16 : decode cX9_changedCell 16 = .ok (.iload 4, 2) := by decide +kernel
theorem dX9_changedCell_18 : decode cX9_changedCell 18 = .ok (.iaload, 1) := by decide +kernel
theorem dX9_changedCell_19 : decode cX9_changedCell 19 = .ok (.aload_n 0, 1) := by decide +kernel
theorem dX9_changedCell_20 : decode cX9_changedCell 20 = .ok (.getfield 19, 3) := by decide +kernel
theorem dX9_changedCell_23 : decode cX9_changedCell 23 = .ok (.iload 4, 2) := by decide +kernel
theorem dX9_changedCell_25 : decode cX9_changedCell 25 = .ok (.iaload, 1) := by decide +kernel
theorem dX9_changedCell_26 : decode cX9_changedCell 26 = .ok (.iconst 1, 1) := by decide +kernel
theorem dX9_changedCell_27 : decode cX9_changedCell 27 = .ok (.invokestatic 60, 3) := by decide +kernel
theorem dX9_changedCell_30 : decode cX9_changedCell 30 = .ok (.iadd, 1) := by decide +kernel
theorem dX9_changedCell_31 : decode cX9_changedCell 31 = .ok (.istore 5, 2) := by decide +kernel
theorem dX9_changedCell_33 : decode cX9_changedCell 33 = .ok (.aload_n 0, 1) := by decide +kernel
theorem dX9_changedCell_34 : decode cX9_changedCell 34 = .ok (.getfield 15, 3) := by decide +kernel
theorem dX9_changedCell_37 : decode cX9_changedCell 37 = .ok (.iload 4, 2) := by decide +kernel
theorem dX9_changedCell_39 : decode cX9_changedCell 39 = .ok (.iaload, 1) := by decide +kernel
theorem dX9_changedCell_40 : decode cX9_changedCell 40 = .ok (.istore 6, 2) := by decide +kernel
theorem dX9_changedCell_42 : decode cX9_changedCell 42 = .ok (.iload 6, 2) := by decide +kernel
theorem dX9_changedCell_44 : decode cX9_changedCell 44 = .ok (.iload 5, 2) := by decide +kernel
theorem dX9_changedCell_46 : decode cX9_changedCell 46 = .ok (.if_icmp .ge 46, 3) := by decide +kernel
theorem dX9_changedCell_49 : decode cX9_changedCell 49 = .ok (.iload_n 3, 1) := by decide +kernel
theorem dX9_changedCell_50 : decode cX9_changedCell 50 = .ok (.iload 4, 2) := by decide +kernel
theorem dX9_changedCell_52 : decode cX9_changedCell 52 = .ok (.ishr, 1) := by decide +kernel
theorem dX9_changedCell_53 : decode cX9_changedCell 53 = .ok (.iconst 1, 1) := by decide +kernel
theorem dX9_changedCell_54 : decode cX9_changedCell 54 = .ok (.iand, 1) := by decide +kernel
theorem dX9_changedCell_55 : decode cX9_changedCell 55 = .ok (.ifCond .ne 37, 3) := by decide +kernel
theorem dX9_changedCell_58 : decode cX9_changedCell 58 = .ok (.iload 6, 2) := by decide +kernel
theorem dX9_changedCell_60 : decode cX9_changedCell 60 = .ok (.aload_n 1, 1) := by decide +kernel
theorem dX9_changedCell_61 : decode cX9_changedCell 61 = .ok (.arraylength, 1) := by decide +kernel
theorem dX9_changedCell_62 : decode cX9_changedCell 62 = .ok (.if_icmp .ge 24, 3) := by decide +kernel
theorem dX9_changedCell_65 : decode cX9_changedCell 65 = .ok (.iload 6, 2) := by decide +kernel
theorem dX9_changedCell_67 : decode cX9_changedCell 67 = .ok (.aload_n 2, 1) := by decide +kernel
theorem dX9_changedCell_68 : decode cX9_changedCell 68 = .ok (.arraylength, 1) := by decide +kernel
theorem dX9_changedCell_69 : decode cX9_changedCell 69 = .ok (.if_icmp .ge 17, 3) := by decide +kernel
theorem dX9_changedCell_72 : decode cX9_changedCell 72 = .ok (.aload_n 1, 1) := by decide +kernel
theorem dX9_changedCell_73 : decode cX9_changedCell 73 = .ok (.iload 6, 2) := by decide +kernel
theorem dX9_changedCell_75 : decode cX9_changedCell 75 = .ok (.iaload, 1) := by decide +kernel
theorem dX9_changedCell_76 : decode cX9_changedCell 76 = .ok (.aload_n 2, 1) := by decide +kernel
theorem dX9_changedCell_77 : decode cX9_changedCell 77 = .ok (.iload 6, 2) := by decide +kernel
theorem dX9_changedCell_79 : decode cX9_changedCell 79 = .ok (.iaload, 1) := by decide +kernel
theorem dX9_changedCell_80 : decode cX9_changedCell 80 = .ok (.if_icmp .eq 6, 3) := by decide +kernel
theorem dX9_changedCell_83 : decode cX9_changedCell 83 = .ok (.iload 6, 2) := by decide +kernel
theorem dX9_changedCell_85 : decode cX9_changedCell 85 = .ok (.ireturn, 1) := by decide +kernel
theorem dX9_changedCell_86 : decode cX9_changedCell 86 = .ok (.iinc 6 1, 3) := by decide +kernel
theorem dX9_changedCell_89 : decode cX9_changedCell 89 = .ok (.goto (-47), 3) := by decide +kernel
theorem dX9_changedCell_92 : decode cX9_changedCell 92 = .ok (.iinc 4 1, 3) := by decide +kernel
theorem dX9_changedCell_95 : decode cX9_changedCell 95 = .ok (.goto (-92), 3) := by decide +kernel
theorem dX9_changedCell_98 : decode cX9_changedCell 98 = .ok (.iconst (-1), 1) := by decide +kernel
theorem dX9_changedCell_99 : decode cX9_changedCell 99 = .ok (.ireturn, 1) := by decide +kernel
theorem dX10_emptyRow_0 : decode cX10_emptyRow 0 = .ok (.aload_n 0, 1) := by decide +kernel
theorem dX10_emptyRow_1 : decode cX10_emptyRow 1 = .ok (.getfield 25, 3) := by decide +kernel
theorem dX10_emptyRow_4 : decode cX10_emptyRow 4 = .ok (.invokevirtual 42, 3) := by decide +kernel
theorem dX10_emptyRow_7 : decode cX10_emptyRow 7 = .ok (.aload_n 0, 1) := by decide +kernel
theorem dX10_emptyRow_8 : decode cX10_emptyRow 8 = .ok (.iconst 0, 1) := by decide +kernel
theorem dX10_emptyRow_9 : decode cX10_emptyRow 9 = .ok (.putfield 53, 3) := by decide +kernel
theorem dX10_emptyRow_12 : decode cX10_emptyRow 12 = .ok (.return_, 1) := by decide +kernel
theorem dX10_appendMake_0 : decode cX10_appendMake 0 = .ok (.aload_n 0, 1) := by decide +kernel
theorem dX10_appendMake_1 : decode cX10_appendMake 1 = .ok (.getfield 35, 3) := by decide +kernel
theorem dX10_appendMake_4 : decode cX10_appendMake 4 = .ok (.aload_n 0, 1) := by decide +kernel
theorem dX10_appendMake_5 : decode cX10_appendMake 5 = .ok (.getfield 25, 3) := by decide +kernel
theorem dX10_appendMake_8 : decode cX10_appendMake 8 = .ok (.getfield 57, 3) := by decide +kernel
theorem dX10_appendMake_11 : decode cX10_appendMake 11 = .ok (.invokevirtual 60, 3) := by decide +kernel
theorem dX10_appendMake_14 : decode cX10_appendMake 14 = .ok (.aload_n 0, 1) := by decide +kernel
theorem dX10_appendMake_15 : decode cX10_appendMake 15 = .ok (.getfield 25, 3) := by decide +kernel
theorem dX10_appendMake_18 : decode cX10_appendMake 18 = .ok (.iload_n 1, 1) := by decide +kernel
theorem dX10_appendMake_19 : decode cX10_appendMake 19 = .ok (.invokevirtual 64, 3) := by decide +kernel
theorem dX10_appendMake_22 : decode cX10_appendMake 22 = .ok (.aload_n 0, 1) := by decide +kernel
theorem dX10_appendMake_23 : decode cX10_appendMake 23 = .ok (.iconst 0, 1) := by decide +kernel
theorem dX10_appendMake_24 : decode cX10_appendMake 24 = .ok (.putfield 53, 3) := by decide +kernel
theorem dX10_appendMake_27 : decode cX10_appendMake 27 = .ok (.aload_n 0, 1) := by decide +kernel
theorem dX10_appendMake_28 : decode cX10_appendMake 28 = .ok (.getfield 25, 3) := by decide +kernel
theorem dX10_appendMake_31 : decode cX10_appendMake 31 = .ok (.getfield 67, 3) := by decide +kernel
theorem dX10_appendMake_34 : decode cX10_appendMake 34 = .ok (.iconst 1, 1) := by decide +kernel
theorem dX10_appendMake_35 : decode cX10_appendMake 35 = .ok (.isub, 1) := by decide +kernel
theorem dX10_appendMake_36 : decode cX10_appendMake 36 = .ok (.ireturn, 1) := by decide +kernel
theorem dX10_appendCall_0 : decode cX10_appendCall 0 = .ok (.aload_n 0, 1) := by decide +kernel
theorem dX10_appendCall_1 : decode cX10_appendCall 1 = .ok (.getfield 35, 3) := by decide +kernel
theorem dX10_appendCall_4 : decode cX10_appendCall 4 = .ok (.aload_n 0, 1) := by decide +kernel
theorem dX10_appendCall_5 : decode cX10_appendCall 5 = .ok (.getfield 25, 3) := by decide +kernel
theorem dX10_appendCall_8 : decode cX10_appendCall 8 = .ok (.getfield 57, 3) := by decide +kernel
theorem dX10_appendCall_11 : decode cX10_appendCall 11 = .ok (.invokevirtual 60, 3) := by decide +kernel
theorem dX10_appendCall_14 : decode cX10_appendCall 14 = .ok (.aload_n 0, 1) := by decide +kernel
theorem dX10_appendCall_15 : decode cX10_appendCall 15 = .ok (.getfield 25, 3) := by decide +kernel
theorem dX10_appendCall_18 : decode cX10_appendCall 18 = .ok (.iload_n 1, 1) := by decide +kernel
theorem dX10_appendCall_19 : decode cX10_appendCall 19 = .ok (.iload_n 2, 1) := by decide +kernel
theorem dX10_appendCall_20 : decode cX10_appendCall 20 = .ok (.iload_n 3, 1) := by decide +kernel
theorem dX10_appendCall_21 : decode cX10_appendCall 21 = .ok (.iload 4, 2) := by decide +kernel
theorem dX10_appendCall_23 : decode cX10_appendCall 23 = .ok (.iload 5, 2) := by decide +kernel
theorem dX10_appendCall_25 : decode cX10_appendCall 25 = .ok (.invokevirtual 70, 3) := by decide +kernel
theorem dX10_appendCall_28 : decode cX10_appendCall 28 = .ok (.aload_n 0, 1) := by decide +kernel
theorem dX10_appendCall_29 : decode cX10_appendCall 29 = .ok (.iconst 0, 1) := by decide +kernel
theorem dX10_appendCall_30 : decode cX10_appendCall 30 = .ok (.putfield 53, 3) := by decide +kernel
theorem dX10_appendCall_33 : decode cX10_appendCall 33 = .ok (.aload_n 0, 1) := by decide +kernel
theorem dX10_appendCall_34 : decode cX10_appendCall 34 = .ok (.getfield 25, 3) := by decide +kernel
theorem dX10_appendCall_37 : decode cX10_appendCall 37 = .ok (.getfield 57, 3) := by decide +kernel
theorem dX10_appendCall_40 : decode cX10_appendCall 40 = .ok (.ireturn, 1) := by decide +kernel
theorem dX10_runOwnRow_0 : decode cX10_runOwnRow 0 = .ok (.aload_n 0, 1) := by decide +kernel
theorem dX10_runOwnRow_1 : decode cX10_runOwnRow 1 = .ok (.aload_n 0, 1) := by decide +kernel
theorem dX10_runOwnRow_2 : decode cX10_runOwnRow 2 = .ok (.getfield 25, 3) := by decide +kernel
theorem dX10_runOwnRow_5 : decode cX10_runOwnRow 5 = .ok (.aload_n 0, 1) := by decide +kernel
theorem dX10_runOwnRow_6 : decode cX10_runOwnRow 6 = .ok (.getfield 35, 3) := by decide +kernel
theorem dX10_runOwnRow_9 : decode cX10_runOwnRow 9 = .ok (.invokevirtual 74, 3) := by decide +kernel
theorem dX10_runOwnRow_12 : decode cX10_runOwnRow 12 = .ok (.aload_n 0, 1) := by decide +kernel
theorem dX10_runOwnRow_13 : decode cX10_runOwnRow 13 = .ok (.iconst 1, 1) := by decide +kernel
theorem dX10_runOwnRow_14 : decode cX10_runOwnRow 14 = .ok (.putfield 53, 3) := by decide +kernel
theorem dX10_runOwnRow_17 : decode cX10_runOwnRow 17 = .ok (.return_, 1) := by decide +kernel
theorem dX10_tellOfSpare_0 : decode cX10_tellOfSpare 0 = .ok (.aload_n 0, 1) := by decide +kernel
theorem dX10_tellOfSpare_1 : decode cX10_tellOfSpare 1 = .ok (.getfield 25, 3) := by decide +kernel
theorem dX10_tellOfSpare_4 : decode cX10_tellOfSpare 4 = .ok (.astore_n 1, 1) := by decide +kernel
theorem dX10_tellOfSpare_5 : decode cX10_tellOfSpare 5 = .ok (.aload_n 0, 1) := by decide +kernel
theorem dX10_tellOfSpare_6 : decode cX10_tellOfSpare 6 = .ok (.aload_n 0, 1) := by decide +kernel
theorem dX10_tellOfSpare_7 : decode cX10_tellOfSpare 7 = .ok (.getfield 29, 3) := by decide +kernel
theorem dX10_tellOfSpare_10 : decode cX10_tellOfSpare 10 = .ok (.putfield 25, 3) := by decide +kernel
theorem dX10_tellOfSpare_13 : decode cX10_tellOfSpare 13 = .ok (.aload_n 0, 1) := by decide +kernel
theorem dX10_tellOfSpare_14 : decode cX10_tellOfSpare 14 = .ok (.aload_n 1, 1) := by decide +kernel
theorem dX10_tellOfSpare_15 : decode cX10_tellOfSpare 15 = .ok (.putfield 29, 3) := by decide +kernel
theorem dX10_tellOfSpare_18 : decode cX10_tellOfSpare 18 = .ok (.aload_n 0, 1) := by decide +kernel
theorem dX10_tellOfSpare_19 : decode cX10_tellOfSpare 19 = .ok (.getfield 35, 3) := by decide +kernel
theorem dX10_tellOfSpare_22 : decode cX10_tellOfSpare 22 = .ok (.astore_n 2, 1) := by decide +kernel
theorem dX10_tellOfSpare_23 : decode cX10_tellOfSpare 23 = .ok (.aload_n 0, 1) := by decide +kernel
theorem dX10_tellOfSpare_24 : decode cX10_tellOfSpare 24 = .ok (.aload_n 0, 1) := by decide +kernel
theorem dX10_tellOfSpare_25 : decode cX10_tellOfSpare 25 = .ok (.getfield 39, 3) := by decide +kernel
theorem dX10_tellOfSpare_28 : decode cX10_tellOfSpare 28 = .ok (.putfield 35, 3) := by decide +kernel
theorem dX10_tellOfSpare_31 : decode cX10_tellOfSpare 31 = .ok (.aload_n 0, 1) := by decide +kernel
theorem dX10_tellOfSpare_32 : decode cX10_tellOfSpare 32 = .ok (.aload_n 2, 1) := by decide +kernel
theorem dX10_tellOfSpare_33 : decode cX10_tellOfSpare 33 = .ok (.putfield 39, 3) := by decide +kernel
theorem dX10_tellOfSpare_36 : decode cX10_tellOfSpare 36 = .ok (.aload_n 0, 1) := by decide +kernel
theorem dX10_tellOfSpare_37 : decode cX10_tellOfSpare 37 = .ok (.iconst 1, 1) := by decide +kernel
theorem dX10_tellOfSpare_38 : decode cX10_tellOfSpare 38 = .ok (.putfield 53, 3) := by decide +kernel
theorem dX10_tellOfSpare_41 : decode cX10_tellOfSpare 41 = .ok (.return_, 1) := by decide +kernel
theorem dX10_countSpare_0 : decode cX10_countSpare 0 = .ok (.aload_n 0, 1) := by decide +kernel
theorem dX10_countSpare_1 : decode cX10_countSpare 1 = .ok (.dup, 1) := by decide +kernel
theorem dX10_countSpare_2 : decode cX10_countSpare 2 = .ok (.getfield 46, 3) := by decide +kernel
theorem dX10_countSpare_5 : decode cX10_countSpare 5 = .ok (.iconst 1, 1) := by decide +kernel
theorem dX10_countSpare_6 : decode cX10_countSpare 6 = .ok (.iadd, 1) := by decide +kernel
theorem dX10_countSpare_7 : decode cX10_countSpare 7 = .ok (.putfield 46, 3) := by decide +kernel
theorem dX10_countSpare_10 : decode cX10_countSpare 10 = .ok (.aload_n 0, 1) := by decide +kernel
theorem dX10_countSpare_11 : decode cX10_countSpare 11 = .ok (.dup, 1) := by decide +kernel
theorem dX10_countSpare_12 : decode cX10_countSpare 12 = .ok (.getfield 50, 3) := by decide +kernel
theorem dX10_countSpare_15 : decode cX10_countSpare 15 = .ok (.aload_n 0, 1) := by decide +kernel
theorem dX10_countSpare_16 : decode cX10_countSpare 16 = .ok (.getfield 39, 3) := by decide +kernel
theorem dX10_countSpare_19 : decode cX10_countSpare 19 = .ok (.getfield 78, 3) := by decide +kernel
theorem dX10_countSpare_22 : decode cX10_countSpare 22 = .ok (.iconst (-1), 1) := by decide +kernel
theorem dX10_countSpare_23 : decode cX10_countSpare 23 = .ok (.if_icmp .ne 7, 3) := by decide +kernel
theorem dX10_countSpare_26 : decode cX10_countSpare 26 = .ok (.iconst 1, 1) := by decide +kernel
theorem dX10_countSpare_27 : decode cX10_countSpare 27 = .ok (.goto 4, 3) := by decide +kernel
theorem dX10_countSpare_30 : decode cX10_countSpare 30 = .ok (.iconst 0, 1) := by decide +kernel
theorem dX10_countSpare_31 : decode cX10_countSpare 31 = .ok (.iadd, 1) := by decide +kernel
theorem dX10_countSpare_32 : decode cX10_countSpare 32 = .ok (.putfield 50, 3) := by decide +kernel
theorem dX10_countSpare_35 : decode cX10_countSpare 35 = .ok (.return_, 1) := by decide +kernel
theorem dX10_tryDrawn_0 : decode cX10_tryDrawn 0 = .ok (.aload_n 0, 1) := by decide +kernel
theorem dX10_tryDrawn_1 : decode cX10_tryDrawn 1 = .ok (.iconst 0, 1) := by decide +kernel
theorem dX10_tryDrawn_2 : decode cX10_tryDrawn 2 = .ok (.putfield 46, 3) := by decide +kernel
theorem dX10_tryDrawn_5 : decode cX10_tryDrawn 5 = .ok (.aload_n 0, 1) := by decide +kernel
theorem dX10_tryDrawn_6 : decode cX10_tryDrawn 6 = .ok (.iconst 0, 1) := by decide +kernel
theorem dX10_tryDrawn_7 : decode cX10_tryDrawn 7 = .ok (.putfield 50, 3) := by decide +kernel
theorem dX10_tryDrawn_10 : decode cX10_tryDrawn 10 = .ok (.iconst 0, 1) := by decide +kernel
theorem dX10_tryDrawn_11 : decode cX10_tryDrawn 11 = .ok (.istore 4, 2) := by decide +kernel
theorem dX10_tryDrawn_13 : decode cX10_tryDrawn 13 = .ok (.iload 4, 2) := by decide +kernel
theorem dX10_tryDrawn_15 : decode cX10_tryDrawn 15 = .ok (.iload_n 3, 1) := by decide +kernel
theorem dX10_tryDrawn_16 : decode cX10_tryDrawn 16 = .ok (.if_icmp .ge 60, 3) := by decide +kernel
theorem dX10_tryDrawn_19 : decode cX10_tryDrawn 19 = .ok (.aload_n 0, 1) := by decide +kernel
theorem dX10_tryDrawn_20 : decode cX10_tryDrawn 20 = .ok (.iload_n 1, 1) := by decide +kernel
theorem dX10_tryDrawn_21 : decode cX10_tryDrawn 21 = .ok (.iload_n 2, 1) := by decide +kernel
theorem dX10_tryDrawn_22 : decode cX10_tryDrawn 22 = .ok (.sipush 7919, 3) := by decide +kernel
theorem dX10_tryDrawn_25 : decode cX10_tryDrawn 25 = .ok (.iload 4, 2) := by decide +kernel
theorem dX10_tryDrawn_27 : decode cX10_tryDrawn 27 = .ok (.imul, 1) := by decide +kernel
theorem dX10_tryDrawn_28 : decode cX10_tryDrawn 28 = .ok (.iadd, 1) := by decide +kernel
theorem dX10_tryDrawn_29 : decode cX10_tryDrawn 29 = .ok (.invokevirtual 81, 3) := by decide +kernel
theorem dX10_tryDrawn_32 : decode cX10_tryDrawn 32 = .ok (.aload_n 0, 1) := by decide +kernel
theorem dX10_tryDrawn_33 : decode cX10_tryDrawn 33 = .ok (.aload_n 0, 1) := by decide +kernel
theorem dX10_tryDrawn_34 : decode cX10_tryDrawn 34 = .ok (.getfield 29, 3) := by decide +kernel
theorem dX10_tryDrawn_37 : decode cX10_tryDrawn 37 = .ok (.aload_n 0, 1) := by decide +kernel
theorem dX10_tryDrawn_38 : decode cX10_tryDrawn 38 = .ok (.getfield 39, 3) := by decide +kernel
theorem dX10_tryDrawn_41 : decode cX10_tryDrawn 41 = .ok (.invokevirtual 74, 3) := by decide +kernel
theorem dX10_tryDrawn_44 : decode cX10_tryDrawn 44 = .ok (.aload_n 0, 1) := by decide +kernel
theorem dX10_tryDrawn_45 : decode cX10_tryDrawn 45 = .ok (.invokevirtual 85, 3) := by decide +kernel
theorem dX10_tryDrawn_48 : decode cX10_tryDrawn 48 = .ok (.aload_n 0, 1) := by decide +kernel
theorem dX10_tryDrawn_49 : decode cX10_tryDrawn 49 = .ok (.invokevirtual 88, 3) := by decide +kernel
theorem dX10_tryDrawn_52 : decode cX10_tryDrawn 52 = .ok (.aload_n 0, 1) := by decide +kernel
theorem dX10_tryDrawn_53 : decode cX10_tryDrawn 53 = .ok (.getfield 35, 3) := by decide +kernel
theorem dX10_tryDrawn_56 : decode cX10_tryDrawn 56 = .ok (.getfield 78, 3) := by decide +kernel
theorem dX10_tryDrawn_59 : decode cX10_tryDrawn 59 = .ok (.ifCond .le 11, 3) := by decide +kernel
theorem dX10_tryDrawn_62 : decode cX10_tryDrawn 62 = .ok (.aload_n 0, 1) := by decide +kernel
theorem dX10_tryDrawn_63 : decode cX10_tryDrawn 63 = .ok (.getfield 35, 3) := by decide +kernel
theorem dX10_tryDrawn_66 : decode cX10_tryDrawn 66 = .ok (.getfield 78, 3) := by decide +kernel
theorem dX10_tryDrawn_69 : decode cX10_tryDrawn 69 = .ok (.ireturn, 1) := by decide +kernel
theorem dX10_tryDrawn_70 : decode cX10_tryDrawn 70 = .ok (.iinc 4 1, 3) := by decide +kernel
theorem dX10_tryDrawn_73 : decode cX10_tryDrawn 73 = .ok (.goto (-60), 3) := by decide +kernel
theorem dX10_tryDrawn_76 : decode cX10_tryDrawn 76 = .ok (.iconst 0, 1) := by decide +kernel
theorem dX10_tryDrawn_77 : decode cX10_tryDrawn 77 = .ok (.ireturn, 1) := by decide +kernel
theorem dX10_drawNext_0 : decode cX10_drawNext 0 = .ok (.aload_n 0, 1) := by decide +kernel
theorem dX10_drawNext_1 : decode cX10_drawNext 1 = .ok (.ldc 91, 2) := by decide +kernel
theorem dX10_drawNext_3 : decode cX10_drawNext 3 = .ok (.aload_n 0, 1) := by decide +kernel
theorem dX10_drawNext_4 : decode cX10_drawNext 4 = .ok (.getfield 92, 3) := by decide +kernel
theorem dX10_drawNext_7 : decode cX10_drawNext 7 = .ok (.imul, 1) := by decide +kernel
theorem dX10_drawNext_8 : decode cX10_drawNext 8 = .ok (.sipush 12345, 3) := by decide +kernel
theorem dX10_drawNext_11 : decode cX10_drawNext 11 = .ok (.iadd, 1) := by decide +kernel
theorem dX10_drawNext_12 : decode cX10_drawNext 12 = .ok (.putfield 92, 3) := by decide +kernel
theorem dX10_drawNext_15 : decode cX10_drawNext 15 = .ok (.aload_n 0, 1) := by decide +kernel
theorem dX10_drawNext_16 : decode cX10_drawNext 16 = .ok (.getfield 92, 3) := by decide +kernel
theorem dX10_drawNext_19 : decode cX10_drawNext 19 = .ok (.bipush 16, 2) := by decide +kernel
theorem dX10_drawNext_21 : decode cX10_drawNext 21 = .ok (.iushr, 1) := by decide +kernel
theorem dX10_drawNext_22 : decode cX10_drawNext 22 = .ok (.sipush 32767, 3) := by decide +kernel
theorem dX10_drawNext_25 : decode cX10_drawNext 25 = .ok (.iand, 1) := by decide +kernel
theorem dX10_drawNext_26 : decode cX10_drawNext 26 = .ok (.ireturn, 1) := by decide +kernel
theorem dX10_drawRow_0 : decode cX10_drawRow 0 = .ok (.aload_n 0, 1) := by decide +kernel
theorem dX10_drawRow_1 : decode cX10_drawRow 1 = .ok (.iload_n 2, 1) := by decide +kernel
theorem dX10_drawRow_2 : decode cX10_drawRow 2 = .ok (.putfield 92, 3) := by decide +kernel
theorem dX10_drawRow_5 : decode cX10_drawRow 5 = .ok (.aload_n 0, 1) := by decide +kernel
theorem dX10_drawRow_6 : decode cX10_drawRow 6 = .ok (.getfield 29, 3) := by decide +kernel
theorem dX10_drawRow_9 : decode cX10_drawRow 9 = .ok (.invokevirtual 42, 3) := by decide +kernel
theorem dX10_drawRow_12 : decode cX10_drawRow 12 = .ok (.iconst 1, 1) := by decide +kernel
theorem dX10_drawRow_13 : decode cX10_drawRow 13 = .ok (.aload_n 0, 1) := by decide +kernel
theorem dX10_drawRow_14 : decode cX10_drawRow 14 = .ok (.invokevirtual 95, 3) := by decide +kernel
theorem dX10_drawRow_17 : decode cX10_drawRow 17 = .ok (.bipush 10, 2) := by decide +kernel
theorem dX10_drawRow_19 : decode cX10_drawRow 19 = .ok (.irem, 1) := by decide +kernel
theorem dX10_drawRow_20 : decode cX10_drawRow 20 = .ok (.iadd, 1) := by decide +kernel
theorem dX10_drawRow_21 : decode cX10_drawRow 21 = .ok (.istore_n 3, 1) := by decide +kernel
theorem dX10_drawRow_22 : decode cX10_drawRow 22 = .ok (.aload_n 0, 1) := by decide +kernel
theorem dX10_drawRow_23 : decode cX10_drawRow 23 = .ok (.getfield 29, 3) := by decide +kernel
theorem dX10_drawRow_26 : decode cX10_drawRow 26 = .ok (.iload_n 1, 1) := by decide +kernel
theorem dX10_drawRow_27 : decode cX10_drawRow 27 = .ok (.invokevirtual 64, 3) := by decide +kernel
theorem dX10_drawRow_30 : decode cX10_drawRow 30 = .ok (.iconst 1, 1) := by decide +kernel
theorem dX10_drawRow_31 : decode cX10_drawRow 31 = .ok (.istore 4, 2) := by decide +kernel
theorem dX10_drawRow_33 : decode cX10_drawRow 33 = .ok (.iconst 1, 1) := by decide +kernel
theorem dX10_drawRow_34 : decode cX10_drawRow 34 = .ok (.istore 5, 2) := by decide +kernel
theorem dX10_drawRow_36 : decode cX10_drawRow 36 = .ok (.iload 5, 2) := by decide +kernel
theorem dX10_drawRow_38 : decode cX10_drawRow 38 = .ok (.iload_n 3, 1) := by decide +kernel
theorem dX10_drawRow_39 : decode cX10_drawRow 39 = .ok (.if_icmp .ge 101, 3) := by decide +kernel
theorem dX10_drawRow_42 : decode cX10_drawRow 42 = .ok (.iload 4, 2) := by decide +kernel
theorem dX10_drawRow_44 : decode cX10_drawRow 44 = .ok (.ifCond .eq 96, 3) := by decide +kernel
theorem dX10_drawRow_47 : decode cX10_drawRow 47 = .ok (.aload_n 0, 1) := by decide +kernel
theorem dX10_drawRow_48 : decode cX10_drawRow 48 = .ok (.invokevirtual 95, 3) := by decide +kernel
theorem dX10_drawRow_51 : decode cX10_drawRow 51 = .ok (.bipush 8, 2) := by decide +kernel
theorem dX10_drawRow_53 : decode cX10_drawRow 53 = .ok (.irem, 1) := by decide +kernel
theorem dX10_drawRow_54 : decode cX10_drawRow 54 = .ok (.ifCond .ne 18, 3) := by decide +kernel
theorem dX10_drawRow_57 : decode cX10_drawRow 57 = .ok (.aload_n 0, 1) := by decide +kernel
theorem dX10_drawRow_58 : decode cX10_drawRow 58 = .ok (.getfield 29, 3) := by decide +kernel
theorem dX10_drawRow_61 : decode cX10_drawRow 61 = .ok (.getfield 67, 3) := by decide +kernel
theorem dX10_drawRow_64 : decode cX10_drawRow 64 = .ok (.iconst 3, 1) := by decide +kernel
theorem dX10_drawRow_65 : decode cX10_drawRow 65 = .ok (.if_icmp .ge 7, 3) := by decide +kernel
theorem dX10_drawRow_68 : decode cX10_drawRow 68 = .ok (.iconst 1, 1) := by decide +kernel
theorem dX10_drawRow_69 : decode cX10_drawRow 69 = .ok (.goto 4, 3) := by decide +kernel
theorem dX10_drawRow_72 : decode cX10_drawRow 72 = .ok (.iconst 0, 1) := by decide +kernel
theorem dX10_drawRow_73 : decode cX10_drawRow 73 = .ok (.istore 6, 2) := by decide +kernel
theorem dX10_drawRow_75 : decode cX10_drawRow 75 = .ok (.iload 6, 2) := by decide +kernel
theorem dX10_drawRow_77 : decode cX10_drawRow 77 = .ok (.ifCond .ne 15, 3) := by decide +kernel
theorem dX10_drawRow_80 : decode cX10_drawRow 80 = .ok (.aload_n 0, 1) := by decide +kernel
theorem dX10_drawRow_81 : decode cX10_drawRow 81 = .ok (.getfield 9, 3) := by decide +kernel
theorem dX10_drawRow_84 : decode cX10_drawRow 84 = .ok (.iload_n 1, 1) := by decide +kernel
theorem dX10_drawRow_85 : decode cX10_drawRow 85 = .ok (.iconst 0, 1) := by decide +kernel
theorem dX10_drawRow_86 : decode cX10_drawRow 86 = .ok (.invokevirtual 99, 3) := by decide +kernel
theorem dX10_drawRow_89 : decode cX10_drawRow 89 = .ok (.ifCond .ne 32, 3) := by decide +kernel
theorem dX10_drawRow_92 : decode cX10_drawRow 92 = .ok (.aload_n 0, 1) := by decide +kernel
theorem dX10_drawRow_93 : decode cX10_drawRow 93 = .ok (.getfield 29, 3) := by decide +kernel
theorem dX10_drawRow_96 : decode cX10_drawRow 96 = .ok (.getfield 67, 3) := by decide +kernel
theorem dX10_drawRow_99 : decode cX10_drawRow 99 = .ok (.iconst 3, 1) := by decide +kernel
theorem dX10_drawRow_100 : decode cX10_drawRow 100 = .ok (.if_icmp .ge 7, 3) := by decide +kernel
theorem dX10_drawRow_103 : decode cX10_drawRow 103 = .ok (.iconst 1, 1) := by decide +kernel
theorem dX10_drawRow_104 : decode cX10_drawRow 104 = .ok (.goto 4, 3) := by decide +kernel
theorem dX10_drawRow_107 : decode cX10_drawRow 107 = .ok (.iconst 0, 1) := by decide +kernel
theorem dX10_drawRow_108 : decode cX10_drawRow 108 = .ok (.istore 4, 2) := by decide +kernel
theorem dX10_drawRow_110 : decode cX10_drawRow 110 = .ok (.aload_n 0, 1) := by decide +kernel
theorem dX10_drawRow_111 : decode cX10_drawRow 111 = .ok (.getfield 29, 3) := by decide +kernel
theorem dX10_drawRow_114 : decode cX10_drawRow 114 = .ok (.iload_n 1, 1) := by decide +kernel
theorem dX10_drawRow_115 : decode cX10_drawRow 115 = .ok (.invokevirtual 64, 3) := by decide +kernel
theorem dX10_drawRow_118 : decode cX10_drawRow 118 = .ok (.goto 16, 3) := by decide +kernel
theorem dX10_drawRow_121 : decode cX10_drawRow 121 = .ok (.aload_n 0, 1) := by decide +kernel
theorem dX10_drawRow_122 : decode cX10_drawRow 122 = .ok (.aload_n 0, 1) := by decide +kernel
theorem dX10_drawRow_123 : decode cX10_drawRow 123 = .ok (.getfield 9, 3) := by decide +kernel
theorem dX10_drawRow_126 : decode cX10_drawRow 126 = .ok (.getfield 105, 3) := by decide +kernel
theorem dX10_drawRow_129 : decode cX10_drawRow 129 = .ok (.iload_n 1, 1) := by decide +kernel
theorem dX10_drawRow_130 : decode cX10_drawRow 130 = .ok (.aaload, 1) := by decide +kernel
theorem dX10_drawRow_131 : decode cX10_drawRow 131 = .ok (.invokevirtual 109, 3) := by decide +kernel
theorem dX10_drawRow_134 : decode cX10_drawRow 134 = .ok (.iinc 5 1, 3) := by decide +kernel
theorem dX10_drawRow_137 : decode cX10_drawRow 137 = .ok (.goto (-101), 3) := by decide +kernel
theorem dX10_drawRow_140 : decode cX10_drawRow 140 = .ok (.return_, 1) := by decide +kernel
theorem dX10_drawCall_0 : decode cX10_drawCall 0 = .ok (.aload_n 0, 1) := by decide +kernel
theorem dX10_drawCall_1 : decode cX10_drawCall 1 = .ok (.invokevirtual 95, 3) := by decide +kernel
theorem dX10_drawCall_4 : decode cX10_drawCall 4 = .ok (.aload_n 0, 1) := by decide +kernel
theorem dX10_drawCall_5 : decode cX10_drawCall 5 = .ok (.getfield 29, 3) := by decide +kernel
theorem dX10_drawCall_8 : decode cX10_drawCall 8 = .ok (.getfield 67, 3) := by decide +kernel
theorem dX10_drawCall_11 : decode cX10_drawCall 11 = .ok (.iconst 1, 1) := by decide +kernel
theorem dX10_drawCall_12 : decode cX10_drawCall 12 = .ok (.invokestatic 113, 3) := by decide +kernel
theorem dX10_drawCall_15 : decode cX10_drawCall 15 = .ok (.irem, 1) := by decide +kernel
theorem dX10_drawCall_16 : decode cX10_drawCall 16 = .ok (.istore_n 2, 1) := by decide +kernel
theorem dX10_drawCall_17 : decode cX10_drawCall 17 = .ok (.aload_n 0, 1) := by decide +kernel
theorem dX10_drawCall_18 : decode cX10_drawCall 18 = .ok (.invokevirtual 95, 3) := by decide +kernel
theorem dX10_drawCall_21 : decode cX10_drawCall 21 = .ok (.aload_n 1, 1) := by decide +kernel
theorem dX10_drawCall_22 : decode cX10_drawCall 22 = .ok (.getfield 119, 3) := by decide +kernel
theorem dX10_drawCall_25 : decode cX10_drawCall 25 = .ok (.iconst 1, 1) := by decide +kernel
theorem dX10_drawCall_26 : decode cX10_drawCall 26 = .ok (.invokestatic 113, 3) := by decide +kernel
theorem dX10_drawCall_29 : decode cX10_drawCall 29 = .ok (.irem, 1) := by decide +kernel
theorem dX10_drawCall_30 : decode cX10_drawCall 30 = .ok (.istore_n 3, 1) := by decide +kernel
theorem dX10_drawCall_31 : decode cX10_drawCall 31 = .ok (.aload_n 0, 1) := by decide +kernel
theorem dX10_drawCall_32 : decode cX10_drawCall 32 = .ok (.getfield 9, 3) := by decide +kernel
theorem dX10_drawCall_35 : decode cX10_drawCall 35 = .ok (.getfield 124, 3) := by decide +kernel
theorem dX10_drawCall_38 : decode cX10_drawCall 38 = .ok (.aload_n 1, 1) := by decide +kernel
theorem dX10_drawCall_39 : decode cX10_drawCall 39 = .ok (.getfield 128, 3) := by decide +kernel
theorem dX10_drawCall_42 : decode cX10_drawCall 42 = .ok (.iload_n 3, 1) := by decide +kernel
theorem dX10_drawCall_43 : decode cX10_drawCall 43 = .ok (.iaload, 1) := by decide +kernel
theorem dX10_drawCall_44 : decode cX10_drawCall 44 = .ok (.aaload, 1) := by decide +kernel
theorem dX10_drawCall_45 : decode cX10_drawCall 45 = .ok (.astore 4, 2) := by decide +kernel
theorem dX10_drawCall_47 : decode cX10_drawCall 47 = .ok (.aload_n 0, 1) := by decide +kernel
theorem dX10_drawCall_48 : decode cX10_drawCall 48 = .ok (.aload 4, 2) := by decide +kernel
theorem dX10_drawCall_50 : decode cX10_drawCall 50 = .ok (.iconst 0, 1) := by decide +kernel
theorem dX10_drawCall_51 : decode cX10_drawCall 51 = .ok (.invokevirtual 132, 3) := by decide +kernel
theorem dX10_drawCall_54 : decode cX10_drawCall 54 = .ok (.istore 5, 2) := by decide +kernel
theorem dX10_drawCall_56 : decode cX10_drawCall 56 = .ok (.aload_n 0, 1) := by decide +kernel
theorem dX10_drawCall_57 : decode cX10_drawCall 57 = .ok (.aload 4, 2) := by decide +kernel
theorem dX10_drawCall_59 : decode cX10_drawCall 59 = .ok (.iconst 1, 1) := by decide +kernel
theorem dX10_drawCall_60 : decode cX10_drawCall 60 = .ok (.invokevirtual 132, 3) := by decide +kernel
theorem dX10_drawCall_63 : decode cX10_drawCall 63 = .ok (.istore 6, 2) := by decide +kernel
theorem dX10_drawCall_65 : decode cX10_drawCall 65 = .ok (.aload_n 0, 1) := by decide +kernel
theorem dX10_drawCall_66 : decode cX10_drawCall 66 = .ok (.aload 4, 2) := by decide +kernel
theorem dX10_drawCall_68 : decode cX10_drawCall 68 = .ok (.iconst 2, 1) := by decide +kernel
theorem dX10_drawCall_69 : decode cX10_drawCall 69 = .ok (.invokevirtual 132, 3) := by decide +kernel
theorem dX10_drawCall_72 : decode cX10_drawCall 72 = .ok (.istore 7, 2) := by decide +kernel
theorem dX10_drawCall_74 : decode cX10_drawCall 74 = .ok (.aload_n 0, 1) := by decide +kernel
theorem dX10_drawCall_75 : decode cX10_drawCall 75 = .ok (.getfield 29, 3) := by decide +kernel
theorem dX10_drawCall_78 : decode cX10_drawCall 78 = .ok (.iload_n 2, 1) := by decide +kernel
theorem dX10_drawCall_79 : decode cX10_drawCall 79 = .ok (.iload_n 3, 1) := by decide +kernel
theorem dX10_drawCall_80 : decode cX10_drawCall 80 = .ok (.iload 5, 2) := by decide +kernel
theorem dX10_drawCall_82 : decode cX10_drawCall 82 = .ok (.iload 6, 2) := by decide +kernel
theorem dX10_drawCall_84 : decode cX10_drawCall 84 = .ok (.iload 7, 2) := by decide +kernel
theorem dX10_drawCall_86 : decode cX10_drawCall 86 = .ok (.invokevirtual 70, 3) := by decide +kernel
theorem dX10_drawCall_89 : decode cX10_drawCall 89 = .ok (.return_, 1) := by decide +kernel
theorem dX10_drawArgument_0 : decode cX10_drawArgument 0 = .ok (.iload_n 2, 1) := by decide +kernel
theorem dX10_drawArgument_1 : decode cX10_drawArgument 1 = .ok (.aload_n 1, 1) := by decide +kernel
theorem dX10_drawArgument_2 : decode cX10_drawArgument 2 = .ok (.getfield 136, 3) := by decide +kernel
theorem dX10_drawArgument_5 : decode cX10_drawArgument 5 = .ok (.if_icmp .lt 5, 3) := by decide +kernel
theorem dX10_drawArgument_8 : decode cX10_drawArgument 8 = .ok (.iconst 0, 1) := by decide +kernel
theorem dX10_drawArgument_9 : decode cX10_drawArgument 9 = .ok (.ireturn, 1) := by decide +kernel
theorem dX10_drawArgument_10 : decode cX10_drawArgument 10 = .ok (.aload_n 0, 1) := by decide +kernel
theorem dX10_drawArgument_11 : decode cX10_drawArgument 11 = .ok (.invokevirtual 95, 3) := by decide +kernel
theorem dX10_drawArgument_14 : decode cX10_drawArgument 14 = .ok (.iconst 4, 1) := by decide +kernel
theorem dX10_drawArgument_15 : decode cX10_drawArgument 15 = .ok (.irem, 1) := by decide +kernel
theorem dX10_drawArgument_16 : decode cX10_drawArgument 16 = .ok (.tableswitch 48 0 2 #[28, 35, 42], 28) := by decide +kernel
theorem dX10_drawArgument_44 : decode cX10_drawArgument 44 = .ok (.aload_n 1, 1) := by decide +kernel
theorem dX10_drawArgument_45 : decode cX10_drawArgument 45 = .ok (.getfield 141, 3) := by decide +kernel
theorem dX10_drawArgument_48 : decode cX10_drawArgument 48 = .ok (.iload_n 2, 1) := by decide +kernel
theorem dX10_drawArgument_49 : decode cX10_drawArgument 49 = .ok (.iaload, 1) := by decide +kernel
theorem dX10_drawArgument_50 : decode cX10_drawArgument 50 = .ok (.ireturn, 1) := by decide +kernel
theorem dX10_drawArgument_51 : decode cX10_drawArgument 51 = .ok (.aload_n 1, 1) := by decide +kernel
theorem dX10_drawArgument_52 : decode cX10_drawArgument 52 = .ok (.getfield 144, 3) := by decide +kernel
theorem dX10_drawArgument_55 : decode cX10_drawArgument 55 = .ok (.iload_n 2, 1) := by decide +kernel
theorem dX10_drawArgument_56 : decode cX10_drawArgument 56 = .ok (.iaload, 1) := by decide +kernel
theorem dX10_drawArgument_57 : decode cX10_drawArgument 57 = .ok (.ireturn, 1) := by decide +kernel
theorem dX10_drawArgument_58 : decode cX10_drawArgument 58 = .ok (.aload_n 1, 1) := by decide +kernel
theorem dX10_drawArgument_59 : decode cX10_drawArgument 59 = .ok (.iload_n 2, 1) := by decide +kernel
theorem dX10_drawArgument_60 : decode cX10_drawArgument 60 = .ok (.invokevirtual 147, 3) := by decide +kernel
theorem dX10_drawArgument_63 : decode cX10_drawArgument 63 = .ok (.ireturn, 1) := by decide +kernel
theorem dX10_drawArgument_64 : decode cX10_drawArgument 64 = .ok (.aload_n 1, 1) := by decide +kernel
theorem dX10_drawArgument_65 : decode cX10_drawArgument 65 = .ok (.getfield 144, 3) := by decide +kernel
theorem dX10_drawArgument_68 : decode cX10_drawArgument 68 = .ok (.iload_n 2, 1) := by decide +kernel
theorem dX10_drawArgument_69 : decode cX10_drawArgument 69 = .ok (.iaload, 1) := by decide +kernel
theorem dX10_drawArgument_70 : decode cX10_drawArgument 70 = .ok (.i2l, 1) := by decide +kernel
theorem dX10_drawArgument_71 : decode cX10_drawArgument 71 = .ok (.aload_n 1, 1) := by decide +kernel
theorem dX10_drawArgument_72 : decode cX10_drawArgument 72 = .ok (.getfield 141, 3) := by decide +kernel
theorem dX10_drawArgument_75 : decode cX10_drawArgument 75 = .ok (.iload_n 2, 1) := by decide +kernel
theorem dX10_drawArgument_76 : decode cX10_drawArgument 76 = .ok (.iaload, 1) := by decide +kernel
theorem dX10_drawArgument_77 : decode cX10_drawArgument 77 = .ok (.i2l, 1) := by decide +kernel
theorem dX10_drawArgument_78 : decode cX10_drawArgument 78 = .ok (.lsub, 1) := by decide +kernel
theorem dX10_drawArgument_79 : decode cX10_drawArgument 79 = .ok (.lconst 1, 1) := by decide +kernel
theorem dX10_drawArgument_80 : decode cX10_drawArgument 80 = .ok (.ladd, 1) := by decide +kernel
theorem dX10_drawArgument_81 : decode cX10_drawArgument 81 = .ok (.lconst 1, 1) := by decide +kernel
theorem dX10_drawArgument_82 : decode cX10_drawArgument 82 = .ok (.invokestatic 151, 3) := by decide +kernel
theorem dX10_drawArgument_85 : decode cX10_drawArgument 85 = .ok (.lstore_n 3, 1) := by decide +kernel
theorem dX10_drawArgument_86 : decode cX10_drawArgument 86 = .ok (.aload_n 1, 1) := by decide +kernel
theorem dX10_drawArgument_87 : decode cX10_drawArgument 87 = .ok (.getfield 141, 3) := by decide +kernel
theorem dX10_drawArgument_90 : decode cX10_drawArgument 90 = .ok (.iload_n 2, 1) := by decide +kernel
theorem dX10_drawArgument_91 : decode cX10_drawArgument 91 = .ok (.iaload, 1) := by decide +kernel
theorem dX10_drawArgument_92 : decode cX10_drawArgument 92 = .ok (.i2l, 1) := by decide +kernel
theorem dX10_drawArgument_93 : decode cX10_drawArgument 93 = .ok (.aload_n 0, 1) := by decide +kernel
theorem dX10_drawArgument_94 : decode cX10_drawArgument 94 = .ok (.invokevirtual 95, 3) := by decide +kernel
theorem dX10_drawArgument_97 : decode cX10_drawArgument 97 = .ok (.i2l, 1) := by decide +kernel
theorem dX10_drawArgument_98 : decode cX10_drawArgument 98 = .ok (.lload_n 3, 1) := by decide +kernel
theorem dX10_drawArgument_99 : decode cX10_drawArgument 99 = .ok (.lrem, 1) := by decide +kernel
theorem dX10_drawArgument_100 : decode cX10_drawArgument 100 = .ok (.ladd, 1) := by decide +kernel
theorem dX10_drawArgument_101 : decode cX10_drawArgument 101 = .ok (.l2i, 1) := by decide +kernel
theorem dX10_drawArgument_102 : decode cX10_drawArgument 102 = .ok (.ireturn, 1) := by decide +kernel
theorem dX10_tryAll_0 : decode cX10_tryAll 0 = .ok (.aload_n 0, 1) := by decide +kernel
theorem dX10_tryAll_1 : decode cX10_tryAll 1 = .ok (.iconst 0, 1) := by decide +kernel
theorem dX10_tryAll_2 : decode cX10_tryAll 2 = .ok (.putfield 46, 3) := by decide +kernel
theorem dX10_tryAll_5 : decode cX10_tryAll 5 = .ok (.aload_n 0, 1) := by decide +kernel
theorem dX10_tryAll_6 : decode cX10_tryAll 6 = .ok (.iconst 0, 1) := by decide +kernel
theorem dX10_tryAll_7 : decode cX10_tryAll 7 = .ok (.putfield 50, 3) := by decide +kernel
theorem dX10_tryAll_10 : decode cX10_tryAll 10 = .ok (.iconst 1, 1) := by decide +kernel
theorem dX10_tryAll_11 : decode cX10_tryAll 11 = .ok (.istore_n 3, 1) := by decide +kernel
theorem dX10_tryAll_12 : decode cX10_tryAll 12 = .ok (.iload_n 3, 1) := by decide +kernel
theorem dX10_tryAll_13 : decode cX10_tryAll 13 = .ok (.iload_n 2, 1) := by decide +kernel
theorem dX10_tryAll_14 : decode cX10_tryAll 14 = .ok (.if_icmp .gt 157, 3) := by decide +kernel
theorem dX10_tryAll_17 : decode cX10_tryAll 17 = .ok (.aload_n 0, 1) := by decide +kernel
theorem dX10_tryAll_18 : decode cX10_tryAll 18 = .ok (.getfield 29, 3) := by decide +kernel
theorem dX10_tryAll_21 : decode cX10_tryAll 21 = .ok (.invokevirtual 42, 3) := by decide +kernel
theorem dX10_tryAll_24 : decode cX10_tryAll 24 = .ok (.aload_n 0, 1) := by decide +kernel
theorem dX10_tryAll_25 : decode cX10_tryAll 25 = .ok (.getfield 29, 3) := by decide +kernel
theorem dX10_tryAll_28 : decode cX10_tryAll 28 = .ok (.aload_n 0, 1) := by decide +kernel
theorem dX10_tryAll_29 : decode cX10_tryAll 29 = .ok (.getfield 9, 3) := by decide +kernel
theorem dX10_tryAll_32 : decode cX10_tryAll 32 = .ok (.iload_n 1, 1) := by decide +kernel
theorem dX10_tryAll_33 : decode cX10_tryAll 33 = .ok (.iconst 0, 1) := by decide +kernel
theorem dX10_tryAll_34 : decode cX10_tryAll 34 = .ok (.iload_n 3, 1) := by decide +kernel
theorem dX10_tryAll_35 : decode cX10_tryAll 35 = .ok (.invokevirtual 154, 3) := by decide +kernel
theorem dX10_tryAll_38 : decode cX10_tryAll 38 = .ok (.istore 4, 2) := by decide +kernel
theorem dX10_tryAll_40 : decode cX10_tryAll 40 = .ok (.iconst 0, 1) := by decide +kernel
theorem dX10_tryAll_41 : decode cX10_tryAll 41 = .ok (.istore 5, 2) := by decide +kernel
theorem dX10_tryAll_43 : decode cX10_tryAll 43 = .ok (.iload 5, 2) := by decide +kernel
theorem dX10_tryAll_45 : decode cX10_tryAll 45 = .ok (.ldc 158, 2) := by decide +kernel
theorem dX10_tryAll_47 : decode cX10_tryAll 47 = .ok (.if_icmp .ge 118, 3) := by decide +kernel
theorem dX10_tryAll_50 : decode cX10_tryAll 50 = .ok (.iload 4, 2) := by decide +kernel
theorem dX10_tryAll_52 : decode cX10_tryAll 52 = .ok (.ifCond .eq 113, 3) := by decide +kernel
theorem dX10_tryAll_55 : decode cX10_tryAll 55 = .ok (.aload_n 0, 1) := by decide +kernel
theorem dX10_tryAll_56 : decode cX10_tryAll 56 = .ok (.getfield 46, 3) := by decide +kernel
theorem dX10_tryAll_59 : decode cX10_tryAll 59 = .ok (.sipush 600, 3) := by decide +kernel
theorem dX10_tryAll_62 : decode cX10_tryAll 62 = .ok (.if_icmp .ge 103, 3) := by decide +kernel
theorem dX10_tryAll_65 : decode cX10_tryAll 65 = .ok (.aload_n 0, 1) := by decide +kernel
theorem dX10_tryAll_66 : decode cX10_tryAll 66 = .ok (.aload_n 0, 1) := by decide +kernel
theorem dX10_tryAll_67 : decode cX10_tryAll 67 = .ok (.getfield 29, 3) := by decide +kernel
theorem dX10_tryAll_70 : decode cX10_tryAll 70 = .ok (.aload_n 0, 1) := by decide +kernel
theorem dX10_tryAll_71 : decode cX10_tryAll 71 = .ok (.getfield 39, 3) := by decide +kernel
theorem dX10_tryAll_74 : decode cX10_tryAll 74 = .ok (.invokevirtual 74, 3) := by decide +kernel
theorem dX10_tryAll_77 : decode cX10_tryAll 77 = .ok (.aload_n 0, 1) := by decide +kernel
theorem dX10_tryAll_78 : decode cX10_tryAll 78 = .ok (.getfield 39, 3) := by decide +kernel
theorem dX10_tryAll_81 : decode cX10_tryAll 81 = .ok (.getfield 159, 3) := by decide +kernel
theorem dX10_tryAll_84 : decode cX10_tryAll 84 = .ok (.istore 6, 2) := by decide +kernel
theorem dX10_tryAll_86 : decode cX10_tryAll 86 = .ok (.aload_n 0, 1) := by decide +kernel
theorem dX10_tryAll_87 : decode cX10_tryAll 87 = .ok (.getfield 39, 3) := by decide +kernel
theorem dX10_tryAll_90 : decode cX10_tryAll 90 = .ok (.getfield 78, 3) := by decide +kernel
theorem dX10_tryAll_93 : decode cX10_tryAll 93 = .ok (.iconst (-1), 1) := by decide +kernel
theorem dX10_tryAll_94 : decode cX10_tryAll 94 = .ok (.if_icmp .ne 11, 3) := by decide +kernel
theorem dX10_tryAll_97 : decode cX10_tryAll 97 = .ok (.iload 6, 2) := by decide +kernel
theorem dX10_tryAll_99 : decode cX10_tryAll 99 = .ok (.iload_n 3, 1) := by decide +kernel
theorem dX10_tryAll_100 : decode cX10_tryAll 100 = .ok (.iconst 1, 1) := by decide +kernel
theorem dX10_tryAll_101 : decode cX10_tryAll 101 = .ok (.isub, 1) := by decide +kernel
theorem dX10_tryAll_102 : decode cX10_tryAll 102 = .ok (.if_icmp .ne 40, 3) := by decide +kernel
theorem dX10_tryAll_105 : decode cX10_tryAll 105 = .ok (.aload_n 0, 1) := by decide +kernel
theorem dX10_tryAll_106 : decode cX10_tryAll 106 = .ok (.invokevirtual 85, 3) := by decide +kernel
theorem dX10_tryAll_109 : decode cX10_tryAll 109 = .ok (.aload_n 0, 1) := by decide +kernel
theorem dX10_tryAll_110 : decode cX10_tryAll 110 = .ok (.invokevirtual 88, 3) := by decide +kernel
theorem dX10_tryAll_113 : decode cX10_tryAll 113 = .ok (.aload_n 0, 1) := by decide +kernel
theorem dX10_tryAll_114 : decode cX10_tryAll 114 = .ok (.getfield 35, 3) := by decide +kernel
theorem dX10_tryAll_117 : decode cX10_tryAll 117 = .ok (.getfield 78, 3) := by decide +kernel
theorem dX10_tryAll_120 : decode cX10_tryAll 120 = .ok (.ifCond .le 11, 3) := by decide +kernel
theorem dX10_tryAll_123 : decode cX10_tryAll 123 = .ok (.aload_n 0, 1) := by decide +kernel
theorem dX10_tryAll_124 : decode cX10_tryAll 124 = .ok (.getfield 35, 3) := by decide +kernel
theorem dX10_tryAll_127 : decode cX10_tryAll 127 = .ok (.getfield 78, 3) := by decide +kernel
theorem dX10_tryAll_130 : decode cX10_tryAll 130 = .ok (.ireturn, 1) := by decide +kernel
theorem dX10_tryAll_131 : decode cX10_tryAll 131 = .ok (.aload_n 0, 1) := by decide +kernel
theorem dX10_tryAll_132 : decode cX10_tryAll 132 = .ok (.getfield 29, 3) := by decide +kernel
theorem dX10_tryAll_135 : decode cX10_tryAll 135 = .ok (.aload_n 0, 1) := by decide +kernel
theorem dX10_tryAll_136 : decode cX10_tryAll 136 = .ok (.getfield 25, 3) := by decide +kernel
theorem dX10_tryAll_139 : decode cX10_tryAll 139 = .ok (.invokevirtual 162, 3) := by decide +kernel
theorem dX10_tryAll_142 : decode cX10_tryAll 142 = .ok (.aload_n 0, 1) := by decide +kernel
theorem dX10_tryAll_143 : decode cX10_tryAll 143 = .ok (.getfield 29, 3) := by decide +kernel
theorem dX10_tryAll_146 : decode cX10_tryAll 146 = .ok (.aload_n 0, 1) := by decide +kernel
theorem dX10_tryAll_147 : decode cX10_tryAll 147 = .ok (.getfield 9, 3) := by decide +kernel
theorem dX10_tryAll_150 : decode cX10_tryAll 150 = .ok (.iload_n 1, 1) := by decide +kernel
theorem dX10_tryAll_151 : decode cX10_tryAll 151 = .ok (.iload 6, 2) := by decide +kernel
theorem dX10_tryAll_153 : decode cX10_tryAll 153 = .ok (.iload_n 3, 1) := by decide +kernel
theorem dX10_tryAll_154 : decode cX10_tryAll 154 = .ok (.invokevirtual 166, 3) := by decide +kernel
theorem dX10_tryAll_157 : decode cX10_tryAll 157 = .ok (.istore 4, 2) := by decide +kernel
theorem dX10_tryAll_159 : decode cX10_tryAll 159 = .ok (.iinc 5 1, 3) := by decide +kernel
theorem dX10_tryAll_162 : decode cX10_tryAll 162 = .ok (.goto (-119), 3) := by decide +kernel
theorem dX10_tryAll_165 : decode cX10_tryAll 165 = .ok (.iinc 3 1, 3) := by decide +kernel
theorem dX10_tryAll_168 : decode cX10_tryAll 168 = .ok (.goto (-156), 3) := by decide +kernel
theorem dX10_tryAll_171 : decode cX10_tryAll 171 = .ok (.iconst 0, 1) := by decide +kernel
theorem dX10_tryAll_172 : decode cX10_tryAll 172 = .ok (.ireturn, 1) := by decide +kernel
theorem dX10_makeLeast_0 : decode cX10_makeLeast 0 = .ok (.aload_n 0, 1) := by decide +kernel
theorem dX10_makeLeast_1 : decode cX10_makeLeast 1 = .ok (.getfield 35, 3) := by decide +kernel
theorem dX10_makeLeast_4 : decode cX10_makeLeast 4 = .ok (.getfield 78, 3) := by decide +kernel
theorem dX10_makeLeast_7 : decode cX10_makeLeast 7 = .ok (.istore_n 1, 1) := by decide +kernel
theorem dX10_makeLeast_8 : decode cX10_makeLeast 8 = .ok (.aload_n 0, 1) := by decide +kernel
theorem dX10_makeLeast_9 : decode cX10_makeLeast 9 = .ok (.getfield 35, 3) := by decide +kernel
theorem dX10_makeLeast_12 : decode cX10_makeLeast 12 = .ok (.aload_n 0, 1) := by decide +kernel
theorem dX10_makeLeast_13 : decode cX10_makeLeast 13 = .ok (.getfield 9, 3) := by decide +kernel
theorem dX10_makeLeast_16 : decode cX10_makeLeast 16 = .ok (.invokevirtual 169, 3) := by decide +kernel
theorem dX10_makeLeast_19 : decode cX10_makeLeast 19 = .ok (.istore_n 2, 1) := by decide +kernel
theorem dX10_makeLeast_20 : decode cX10_makeLeast 20 = .ok (.iconst 0, 1) := by decide +kernel
theorem dX10_makeLeast_21 : decode cX10_makeLeast 21 = .ok (.istore_n 3, 1) := by decide +kernel
theorem dX10_makeLeast_22 : decode cX10_makeLeast 22 = .ok (.iconst 0, 1) := by decide +kernel
theorem dX10_makeLeast_23 : decode cX10_makeLeast 23 = .ok (.istore 4, 2) := by decide +kernel
theorem dX10_makeLeast_25 : decode cX10_makeLeast 25 = .ok (.iconst 0, 1) := by decide +kernel
theorem dX10_makeLeast_26 : decode cX10_makeLeast 26 = .ok (.istore 5, 2) := by decide +kernel
theorem dX10_makeLeast_28 : decode cX10_makeLeast 28 = .ok (.iload 5, 2) := by decide +kernel
theorem dX10_makeLeast_30 : decode cX10_makeLeast 30 = .ok (.ldc 158, 2) := by decide +kernel
theorem dX10_makeLeast_32 : decode cX10_makeLeast 32 = .ok (.if_icmp .ge 103, 3) := by decide +kernel
theorem dX10_makeLeast_35 : decode cX10_makeLeast 35 = .ok (.iload 4, 2) := by decide +kernel
theorem dX10_makeLeast_37 : decode cX10_makeLeast 37 = .ok (.bipush 70, 2) := by decide +kernel
theorem dX10_makeLeast_39 : decode cX10_makeLeast 39 = .ok (.if_icmp .ge 96, 3) := by decide +kernel
theorem dX10_makeLeast_42 : decode cX10_makeLeast 42 = .ok (.aload_n 0, 1) := by decide +kernel
theorem dX10_makeLeast_43 : decode cX10_makeLeast 43 = .ok (.getfield 29, 3) := by decide +kernel
theorem dX10_makeLeast_46 : decode cX10_makeLeast 46 = .ok (.aload_n 0, 1) := by decide +kernel
theorem dX10_makeLeast_47 : decode cX10_makeLeast 47 = .ok (.getfield 9, 3) := by decide +kernel
theorem dX10_makeLeast_50 : decode cX10_makeLeast 50 = .ok (.aload_n 0, 1) := by decide +kernel
theorem dX10_makeLeast_51 : decode cX10_makeLeast 51 = .ok (.getfield 25, 3) := by decide +kernel
theorem dX10_makeLeast_54 : decode cX10_makeLeast 54 = .ok (.iload 4, 2) := by decide +kernel
theorem dX10_makeLeast_56 : decode cX10_makeLeast 56 = .ok (.invokevirtual 173, 3) := by decide +kernel
theorem dX10_makeLeast_59 : decode cX10_makeLeast 59 = .ok (.istore 6, 2) := by decide +kernel
theorem dX10_makeLeast_61 : decode cX10_makeLeast 61 = .ok (.iload 6, 2) := by decide +kernel
theorem dX10_makeLeast_63 : decode cX10_makeLeast 63 = .ok (.ifCond .eq 48, 3) := by decide +kernel
theorem dX10_makeLeast_66 : decode cX10_makeLeast 66 = .ok (.aload_n 0, 1) := by decide +kernel
theorem dX10_makeLeast_67 : decode cX10_makeLeast 67 = .ok (.aload_n 0, 1) := by decide +kernel
theorem dX10_makeLeast_68 : decode cX10_makeLeast 68 = .ok (.getfield 29, 3) := by decide +kernel
theorem dX10_makeLeast_71 : decode cX10_makeLeast 71 = .ok (.aload_n 0, 1) := by decide +kernel
theorem dX10_makeLeast_72 : decode cX10_makeLeast 72 = .ok (.getfield 39, 3) := by decide +kernel
theorem dX10_makeLeast_75 : decode cX10_makeLeast 75 = .ok (.invokevirtual 74, 3) := by decide +kernel
theorem dX10_makeLeast_78 : decode cX10_makeLeast 78 = .ok (.aload_n 0, 1) := by decide +kernel
theorem dX10_makeLeast_79 : decode cX10_makeLeast 79 = .ok (.getfield 39, 3) := by decide +kernel
theorem dX10_makeLeast_82 : decode cX10_makeLeast 82 = .ok (.getfield 78, 3) := by decide +kernel
theorem dX10_makeLeast_85 : decode cX10_makeLeast 85 = .ok (.iload_n 1, 1) := by decide +kernel
theorem dX10_makeLeast_86 : decode cX10_makeLeast 86 = .ok (.if_icmp .ne 22, 3) := by decide +kernel
theorem dX10_makeLeast_89 : decode cX10_makeLeast 89 = .ok (.aload_n 0, 1) := by decide +kernel
theorem dX10_makeLeast_90 : decode cX10_makeLeast 90 = .ok (.getfield 39, 3) := by decide +kernel
theorem dX10_makeLeast_93 : decode cX10_makeLeast 93 = .ok (.aload_n 0, 1) := by decide +kernel
theorem dX10_makeLeast_94 : decode cX10_makeLeast 94 = .ok (.getfield 9, 3) := by decide +kernel
theorem dX10_makeLeast_97 : decode cX10_makeLeast 97 = .ok (.invokevirtual 169, 3) := by decide +kernel
theorem dX10_makeLeast_100 : decode cX10_makeLeast 100 = .ok (.iload_n 2, 1) := by decide +kernel
theorem dX10_makeLeast_101 : decode cX10_makeLeast 101 = .ok (.if_icmp .ne 7, 3) := by decide +kernel
theorem dX10_makeLeast_104 : decode cX10_makeLeast 104 = .ok (.iconst 1, 1) := by decide +kernel
theorem dX10_makeLeast_105 : decode cX10_makeLeast 105 = .ok (.goto 4, 3) := by decide +kernel
theorem dX10_makeLeast_108 : decode cX10_makeLeast 108 = .ok (.iconst 0, 1) := by decide +kernel
theorem dX10_makeLeast_109 : decode cX10_makeLeast 109 = .ok (.istore 6, 2) := by decide +kernel
theorem dX10_makeLeast_111 : decode cX10_makeLeast 111 = .ok (.iinc 4 1, 3) := by decide +kernel
theorem dX10_makeLeast_114 : decode cX10_makeLeast 114 = .ok (.iload 6, 2) := by decide +kernel
theorem dX10_makeLeast_116 : decode cX10_makeLeast 116 = .ok (.ifCond .eq 13, 3) := by decide +kernel
theorem dX10_makeLeast_119 : decode cX10_makeLeast 119 = .ok (.aload_n 0, 1) := by decide +kernel
theorem dX10_makeLeast_120 : decode cX10_makeLeast 120 = .ok (.invokevirtual 88, 3) := by decide +kernel
theorem dX10_makeLeast_123 : decode cX10_makeLeast 123 = .ok (.iinc 3 1, 3) := by decide +kernel
theorem dX10_makeLeast_126 : decode cX10_makeLeast 126 = .ok (.iconst 0, 1) := by decide +kernel
theorem dX10_makeLeast_127 : decode cX10_makeLeast 127 = .ok (.istore 4, 2) := by decide +kernel
theorem dX10_makeLeast_129 : decode cX10_makeLeast 129 = .ok (.iinc 5 1, 3) := by decide +kernel
theorem dX10_makeLeast_132 : decode cX10_makeLeast 132 = .ok (.goto (-104), 3) := by decide +kernel
theorem dX10_makeLeast_135 : decode cX10_makeLeast 135 = .ok (.iload_n 3, 1) := by decide +kernel
theorem dX10_makeLeast_136 : decode cX10_makeLeast 136 = .ok (.ifCond .ne 15, 3) := by decide +kernel
theorem dX10_makeLeast_139 : decode cX10_makeLeast 139 = .ok (.aload_n 0, 1) := by decide +kernel
theorem dX10_makeLeast_140 : decode cX10_makeLeast 140 = .ok (.aload_n 0, 1) := by decide +kernel
theorem dX10_makeLeast_141 : decode cX10_makeLeast 141 = .ok (.getfield 25, 3) := by decide +kernel
theorem dX10_makeLeast_144 : decode cX10_makeLeast 144 = .ok (.aload_n 0, 1) := by decide +kernel
theorem dX10_makeLeast_145 : decode cX10_makeLeast 145 = .ok (.getfield 35, 3) := by decide +kernel
theorem dX10_makeLeast_148 : decode cX10_makeLeast 148 = .ok (.invokevirtual 74, 3) := by decide +kernel
theorem dX10_makeLeast_151 : decode cX10_makeLeast 151 = .ok (.iload_n 3, 1) := by decide +kernel
theorem dX10_makeLeast_152 : decode cX10_makeLeast 152 = .ok (.ireturn, 1) := by decide +kernel
theorem dX10_runThrough_0 : decode cX10_runThrough 0 = .ok (.aload_n 2, 1) := by decide +kernel
theorem dX10_runThrough_1 : decode cX10_runThrough 1 = .ok (.invokevirtual 45, 3) := by decide +kernel
theorem dX10_runThrough_4 : decode cX10_runThrough 4 = .ok (.iconst 0, 1) := by decide +kernel
theorem dX10_runThrough_5 : decode cX10_runThrough 5 = .ok (.istore_n 3, 1) := by decide +kernel
theorem dX10_runThrough_6 : decode cX10_runThrough 6 = .ok (.iload_n 3, 1) := by decide +kernel
theorem dX10_runThrough_7 : decode cX10_runThrough 7 = .ok (.aload_n 1, 1) := by decide +kernel
theorem dX10_runThrough_8 : decode cX10_runThrough 8 = .ok (.getfield 57, 3) := by decide +kernel
theorem dX10_runThrough_11 : decode cX10_runThrough 11 = .ok (.if_icmp .ge 48, 3) := by decide +kernel
theorem dX10_runThrough_14 : decode cX10_runThrough 14 = .ok (.aload_n 2, 1) := by decide +kernel
theorem dX10_runThrough_15 : decode cX10_runThrough 15 = .ok (.getfield 78, 3) := by decide +kernel
theorem dX10_runThrough_18 : decode cX10_runThrough 18 = .ok (.ifCond .ne 41, 3) := by decide +kernel
theorem dX10_runThrough_21 : decode cX10_runThrough 21 = .ok (.aload_n 2, 1) := by decide +kernel
theorem dX10_runThrough_22 : decode cX10_runThrough 22 = .ok (.iload_n 3, 1) := by decide +kernel
theorem dX10_runThrough_23 : decode cX10_runThrough 23 = .ok (.putfield 159, 3) := by decide +kernel
theorem dX10_runThrough_26 : decode cX10_runThrough 26 = .ok (.aload_n 1, 1) := by decide +kernel
theorem dX10_runThrough_27 : decode cX10_runThrough 27 = .ok (.getfield 177, 3) := by decide +kernel
theorem dX10_runThrough_30 : decode cX10_runThrough 30 = .ok (.iload_n 3, 1) := by decide +kernel
theorem dX10_runThrough_31 : decode cX10_runThrough 31 = .ok (.iaload, 1) := by decide +kernel
theorem dX10_runThrough_32 : decode cX10_runThrough 32 = .ok (.iconst (-1), 1) := by decide +kernel
theorem dX10_runThrough_33 : decode cX10_runThrough 33 = .ok (.if_icmp .ne 13, 3) := by decide +kernel
theorem dX10_runThrough_36 : decode cX10_runThrough 36 = .ok (.aload_n 0, 1) := by decide +kernel
theorem dX10_runThrough_37 : decode cX10_runThrough 37 = .ok (.aload_n 1, 1) := by decide +kernel
theorem dX10_runThrough_38 : decode cX10_runThrough 38 = .ok (.aload_n 2, 1) := by decide +kernel
theorem dX10_runThrough_39 : decode cX10_runThrough 39 = .ok (.iload_n 3, 1) := by decide +kernel
theorem dX10_runThrough_40 : decode cX10_runThrough 40 = .ok (.invokevirtual 180, 3) := by decide +kernel
theorem dX10_runThrough_43 : decode cX10_runThrough 43 = .ok (.goto 10, 3) := by decide +kernel
theorem dX10_runThrough_46 : decode cX10_runThrough 46 = .ok (.aload_n 0, 1) := by decide +kernel
theorem dX10_runThrough_47 : decode cX10_runThrough 47 = .ok (.aload_n 1, 1) := by decide +kernel
theorem dX10_runThrough_48 : decode cX10_runThrough 48 = .ok (.aload_n 2, 1) := by decide +kernel
theorem dX10_runThrough_49 : decode cX10_runThrough 49 = .ok (.iload_n 3, 1) := by decide +kernel
theorem dX10_runThrough_50 : decode cX10_runThrough 50 = .ok (.invokevirtual 184, 3) := by decide +kernel
theorem dX10_runThrough_53 : decode cX10_runThrough 53 = .ok (.iinc 3 1, 3) := by decide +kernel
theorem dX10_runThrough_56 : decode cX10_runThrough 56 = .ok (.goto (-50), 3) := by decide +kernel
theorem dX10_runThrough_59 : decode cX10_runThrough 59 = .ok (.return_, 1) := by decide +kernel
theorem dX10_doMake_0 : decode cX10_doMake 0 = .ok (.aload_n 1, 1) := by decide +kernel
theorem dX10_doMake_1 : decode cX10_doMake 1 = .ok (.getfield 187, 3) := by decide +kernel
theorem dX10_doMake_4 : decode cX10_doMake 4 = .ok (.iload_n 3, 1) := by decide +kernel
theorem dX10_doMake_5 : decode cX10_doMake 5 = .ok (.aaload, 1) := by decide +kernel
theorem dX10_doMake_6 : decode cX10_doMake 6 = .ok (.iconst 0, 1) := by decide +kernel
theorem dX10_doMake_7 : decode cX10_doMake 7 = .ok (.iaload, 1) := by decide +kernel
theorem dX10_doMake_8 : decode cX10_doMake 8 = .ok (.istore 4, 2) := by decide +kernel
theorem dX10_doMake_10 : decode cX10_doMake 10 = .ok (.aload_n 2, 1) := by decide +kernel
theorem dX10_doMake_11 : decode cX10_doMake 11 = .ok (.getfield 191, 3) := by decide +kernel
theorem dX10_doMake_14 : decode cX10_doMake 14 = .ok (.istore 5, 2) := by decide +kernel
theorem dX10_doMake_16 : decode cX10_doMake 16 = .ok (.aload_n 0, 1) := by decide +kernel
theorem dX10_doMake_17 : decode cX10_doMake 17 = .ok (.getfield 9, 3) := by decide +kernel
theorem dX10_doMake_20 : decode cX10_doMake 20 = .ok (.iload 4, 2) := by decide +kernel
theorem dX10_doMake_22 : decode cX10_doMake 22 = .ok (.invokevirtual 192, 3) := by decide +kernel
theorem dX10_doMake_25 : decode cX10_doMake 25 = .ok (.ifCond .eq 9, 3) := by decide +kernel
theorem dX10_doMake_28 : decode cX10_doMake 28 = .ok (.iload 5, 2) := by decide +kernel
theorem dX10_doMake_30 : decode cX10_doMake 30 = .ok (.iconst 3, 1) := by decide +kernel
theorem dX10_doMake_31 : decode cX10_doMake 31 = .ok (.if_icmp .lt 4, 3) := by decide +kernel
theorem dX10_doMake_34 : decode cX10_doMake 34 = .ok (.return_, 1) := by decide +kernel
theorem dX10_doMake_35 : decode cX10_doMake 35 = .ok (.aload_n 0, 1) := by decide +kernel
theorem dX10_doMake_36 : decode cX10_doMake 36 = .ok (.getfield 9, 3) := by decide +kernel
theorem dX10_doMake_39 : decode cX10_doMake 39 = .ok (.getfield 105, 3) := by decide +kernel
theorem dX10_doMake_42 : decode cX10_doMake 42 = .ok (.iload 4, 2) := by decide +kernel
theorem dX10_doMake_44 : decode cX10_doMake 44 = .ok (.aaload, 1) := by decide +kernel
theorem dX10_doMake_45 : decode cX10_doMake 45 = .ok (.getfield 196, 3) := by decide +kernel
theorem dX10_doMake_48 : decode cX10_doMake 48 = .ok (.istore 6, 2) := by decide +kernel
theorem dX10_doMake_50 : decode cX10_doMake 50 = .ok (.aload_n 2, 1) := by decide +kernel
theorem dX10_doMake_51 : decode cX10_doMake 51 = .ok (.getfield 199, 3) := by decide +kernel
theorem dX10_doMake_54 : decode cX10_doMake 54 = .ok (.iload 5, 2) := by decide +kernel
theorem dX10_doMake_56 : decode cX10_doMake 56 = .ok (.iload 4, 2) := by decide +kernel
theorem dX10_doMake_58 : decode cX10_doMake 58 = .ok (.iastore, 1) := by decide +kernel
theorem dX10_doMake_59 : decode cX10_doMake 59 = .ok (.aload_n 2, 1) := by decide +kernel
theorem dX10_doMake_60 : decode cX10_doMake 60 = .ok (.getfield 202, 3) := by decide +kernel
theorem dX10_doMake_63 : decode cX10_doMake 63 = .ok (.iload 5, 2) := by decide +kernel
theorem dX10_doMake_65 : decode cX10_doMake 65 = .ok (.iload 6, 2) := by decide +kernel
theorem dX10_doMake_67 : decode cX10_doMake 67 = .ok (.iastore, 1) := by decide +kernel
theorem dX10_doMake_68 : decode cX10_doMake 68 = .ok (.aload_n 0, 1) := by decide +kernel
theorem dX10_doMake_69 : decode cX10_doMake 69 = .ok (.getfield 9, 3) := by decide +kernel
theorem dX10_doMake_72 : decode cX10_doMake 72 = .ok (.getfield 105, 3) := by decide +kernel
theorem dX10_doMake_75 : decode cX10_doMake 75 = .ok (.iload 4, 2) := by decide +kernel
theorem dX10_doMake_77 : decode cX10_doMake 77 = .ok (.aaload, 1) := by decide +kernel
theorem dX10_doMake_78 : decode cX10_doMake 78 = .ok (.aload_n 2, 1) := by decide +kernel
theorem dX10_doMake_79 : decode cX10_doMake 79 = .ok (.getfield 205, 3) := by decide +kernel
theorem dX10_doMake_82 : decode cX10_doMake 82 = .ok (.iload 5, 2) := by decide +kernel
theorem dX10_doMake_84 : decode cX10_doMake 84 = .ok (.aaload, 1) := by decide +kernel
theorem dX10_doMake_85 : decode cX10_doMake 85 = .ok (.invokevirtual 208, 3) := by decide +kernel
theorem dX10_doMake_88 : decode cX10_doMake 88 = .ok (.aload_n 0, 1) := by decide +kernel
theorem dX10_doMake_89 : decode cX10_doMake 89 = .ok (.getfield 9, 3) := by decide +kernel
theorem dX10_doMake_92 : decode cX10_doMake 92 = .ok (.iload 6, 2) := by decide +kernel
theorem dX10_doMake_94 : decode cX10_doMake 94 = .ok (.invokevirtual 192, 3) := by decide +kernel
theorem dX10_doMake_97 : decode cX10_doMake 97 = .ok (.ifCond .eq 23, 3) := by decide +kernel
theorem dX10_doMake_100 : decode cX10_doMake 100 = .ok (.aload_n 0, 1) := by decide +kernel
theorem dX10_doMake_101 : decode cX10_doMake 101 = .ok (.getfield 9, 3) := by decide +kernel
theorem dX10_doMake_104 : decode cX10_doMake 104 = .ok (.getfield 105, 3) := by decide +kernel
theorem dX10_doMake_107 : decode cX10_doMake 107 = .ok (.iload 6, 2) := by decide +kernel
theorem dX10_doMake_109 : decode cX10_doMake 109 = .ok (.aaload, 1) := by decide +kernel
theorem dX10_doMake_110 : decode cX10_doMake 110 = .ok (.aload_n 2, 1) := by decide +kernel
theorem dX10_doMake_111 : decode cX10_doMake 111 = .ok (.getfield 212, 3) := by decide +kernel
theorem dX10_doMake_114 : decode cX10_doMake 114 = .ok (.iload 5, 2) := by decide +kernel
theorem dX10_doMake_116 : decode cX10_doMake 116 = .ok (.aaload, 1) := by decide +kernel
theorem dX10_doMake_117 : decode cX10_doMake 117 = .ok (.invokevirtual 208, 3) := by decide +kernel
theorem dX10_doMake_120 : decode cX10_doMake 120 = .ok (.aload_n 2, 1) := by decide +kernel
theorem dX10_doMake_121 : decode cX10_doMake 121 = .ok (.dup, 1) := by decide +kernel
theorem dX10_doMake_122 : decode cX10_doMake 122 = .ok (.getfield 191, 3) := by decide +kernel
theorem dX10_doMake_125 : decode cX10_doMake 125 = .ok (.iconst 1, 1) := by decide +kernel
theorem dX10_doMake_126 : decode cX10_doMake 126 = .ok (.iadd, 1) := by decide +kernel
theorem dX10_doMake_127 : decode cX10_doMake 127 = .ok (.putfield 191, 3) := by decide +kernel
theorem dX10_doMake_130 : decode cX10_doMake 130 = .ok (.aload_n 2, 1) := by decide +kernel
theorem dX10_doMake_131 : decode cX10_doMake 131 = .ok (.getfield 215, 3) := by decide +kernel
theorem dX10_doMake_134 : decode cX10_doMake 134 = .ok (.iload_n 3, 1) := by decide +kernel
theorem dX10_doMake_135 : decode cX10_doMake 135 = .ok (.iconst 1, 1) := by decide +kernel
theorem dX10_doMake_136 : decode cX10_doMake 136 = .ok (.iastore, 1) := by decide +kernel
theorem dX10_doMake_137 : decode cX10_doMake 137 = .ok (.aload_n 0, 1) := by decide +kernel
theorem dX10_doMake_138 : decode cX10_doMake 138 = .ok (.aload_n 2, 1) := by decide +kernel
theorem dX10_doMake_139 : decode cX10_doMake 139 = .ok (.iload 5, 2) := by decide +kernel
theorem dX10_doMake_141 : decode cX10_doMake 141 = .ok (.invokevirtual 218, 3) := by decide +kernel
theorem dX10_doMake_144 : decode cX10_doMake 144 = .ok (.return_, 1) := by decide +kernel
theorem dX10_doCall_0 : decode cX10_doCall 0 = .ok (.aload_n 1, 1) := by decide +kernel
theorem dX10_doCall_1 : decode cX10_doCall 1 = .ok (.getfield 222, 3) := by decide +kernel
theorem dX10_doCall_4 : decode cX10_doCall 4 = .ok (.iload_n 3, 1) := by decide +kernel
theorem dX10_doCall_5 : decode cX10_doCall 5 = .ok (.iaload, 1) := by decide +kernel
theorem dX10_doCall_6 : decode cX10_doCall 6 = .ok (.istore 4, 2) := by decide +kernel
theorem dX10_doCall_8 : decode cX10_doCall 8 = .ok (.aload_n 1, 1) := by decide +kernel
theorem dX10_doCall_9 : decode cX10_doCall 9 = .ok (.getfield 187, 3) := by decide +kernel
theorem dX10_doCall_12 : decode cX10_doCall 12 = .ok (.iload_n 3, 1) := by decide +kernel
theorem dX10_doCall_13 : decode cX10_doCall 13 = .ok (.aaload, 1) := by decide +kernel
theorem dX10_doCall_14 : decode cX10_doCall 14 = .ok (.astore 5, 2) := by decide +kernel
theorem dX10_doCall_16 : decode cX10_doCall 16 = .ok (.iload 4, 2) := by decide +kernel
theorem dX10_doCall_18 : decode cX10_doCall 18 = .ok (.aload_n 2, 1) := by decide +kernel
theorem dX10_doCall_19 : decode cX10_doCall 19 = .ok (.getfield 191, 3) := by decide +kernel
theorem dX10_doCall_22 : decode cX10_doCall 22 = .ok (.if_icmp .ge 26, 3) := by decide +kernel
theorem dX10_doCall_25 : decode cX10_doCall 25 = .ok (.aload_n 0, 1) := by decide +kernel
theorem dX10_doCall_26 : decode cX10_doCall 26 = .ok (.getfield 9, 3) := by decide +kernel
theorem dX10_doCall_29 : decode cX10_doCall 29 = .ok (.aload_n 2, 1) := by decide +kernel
theorem dX10_doCall_30 : decode cX10_doCall 30 = .ok (.getfield 199, 3) := by decide +kernel
theorem dX10_doCall_33 : decode cX10_doCall 33 = .ok (.iload 4, 2) := by decide +kernel
theorem dX10_doCall_35 : decode cX10_doCall 35 = .ok (.iaload, 1) := by decide +kernel
theorem dX10_doCall_36 : decode cX10_doCall 36 = .ok (.aload_n 1, 1) := by decide +kernel
theorem dX10_doCall_37 : decode cX10_doCall 37 = .ok (.getfield 177, 3) := by decide +kernel
theorem dX10_doCall_40 : decode cX10_doCall 40 = .ok (.iload_n 3, 1) := by decide +kernel
theorem dX10_doCall_41 : decode cX10_doCall 41 = .ok (.iaload, 1) := by decide +kernel
theorem dX10_doCall_42 : decode cX10_doCall 42 = .ok (.invokevirtual 99, 3) := by decide +kernel
theorem dX10_doCall_45 : decode cX10_doCall 45 = .ok (.ifCond .ne 4, 3) := by decide +kernel
theorem dX10_doCall_48 : decode cX10_doCall 48 = .ok (.return_, 1) := by decide +kernel
theorem dX10_doCall_49 : decode cX10_doCall 49 = .ok (.aload_n 0, 1) := by decide +kernel
theorem dX10_doCall_50 : decode cX10_doCall 50 = .ok (.getfield 9, 3) := by decide +kernel
theorem dX10_doCall_53 : decode cX10_doCall 53 = .ok (.getfield 105, 3) := by decide +kernel
theorem dX10_doCall_56 : decode cX10_doCall 56 = .ok (.aload_n 2, 1) := by decide +kernel
theorem dX10_doCall_57 : decode cX10_doCall 57 = .ok (.getfield 199, 3) := by decide +kernel
theorem dX10_doCall_60 : decode cX10_doCall 60 = .ok (.iload 4, 2) := by decide +kernel
theorem dX10_doCall_62 : decode cX10_doCall 62 = .ok (.iaload, 1) := by decide +kernel
theorem dX10_doCall_63 : decode cX10_doCall 63 = .ok (.aaload, 1) := by decide +kernel
theorem dX10_doCall_64 : decode cX10_doCall 64 = .ok (.astore 6, 2) := by decide +kernel
theorem dX10_doCall_66 : decode cX10_doCall 66 = .ok (.aload 6, 2) := by decide +kernel
theorem dX10_doCall_68 : decode cX10_doCall 68 = .ok (.getfield 128, 3) := by decide +kernel
theorem dX10_doCall_71 : decode cX10_doCall 71 = .ok (.aload_n 1, 1) := by decide +kernel
theorem dX10_doCall_72 : decode cX10_doCall 72 = .ok (.getfield 177, 3) := by decide +kernel
theorem dX10_doCall_75 : decode cX10_doCall 75 = .ok (.iload_n 3, 1) := by decide +kernel
theorem dX10_doCall_76 : decode cX10_doCall 76 = .ok (.iaload, 1) := by decide +kernel
theorem dX10_doCall_77 : decode cX10_doCall 77 = .ok (.iaload, 1) := by decide +kernel
theorem dX10_doCall_78 : decode cX10_doCall 78 = .ok (.istore 7, 2) := by decide +kernel
theorem dX10_doCall_80 : decode cX10_doCall 80 = .ok (.aload_n 2, 1) := by decide +kernel
theorem dX10_doCall_81 : decode cX10_doCall 81 = .ok (.getfield 205, 3) := by decide +kernel
theorem dX10_doCall_84 : decode cX10_doCall 84 = .ok (.iload 4, 2) := by decide +kernel
theorem dX10_doCall_86 : decode cX10_doCall 86 = .ok (.aaload, 1) := by decide +kernel
theorem dX10_doCall_87 : decode cX10_doCall 87 = .ok (.astore 8, 2) := by decide +kernel
theorem dX10_doCall_89 : decode cX10_doCall 89 = .ok (.aload 8, 2) := by decide +kernel
theorem dX10_doCall_91 : decode cX10_doCall 91 = .ok (.iconst 0, 1) := by decide +kernel
theorem dX10_doCall_92 : decode cX10_doCall 92 = .ok (.aload_n 2, 1) := by decide +kernel
theorem dX10_doCall_93 : decode cX10_doCall 93 = .ok (.getfield 225, 3) := by decide +kernel
theorem dX10_doCall_96 : decode cX10_doCall 96 = .ok (.iconst 0, 1) := by decide +kernel
theorem dX10_doCall_97 : decode cX10_doCall 97 = .ok (.bipush 24, 2) := by decide +kernel
theorem dX10_doCall_99 : decode cX10_doCall 99 = .ok (.invokestatic 228, 3) := by decide +kernel
theorem dX10_doCall_102 : decode cX10_doCall 102 = .ok (.aload_n 0, 1) := by decide +kernel
theorem dX10_doCall_103 : decode cX10_doCall 103 = .ok (.getfield 18, 3) := by decide +kernel
theorem dX10_doCall_106 : decode cX10_doCall 106 = .ok (.aload_n 0, 1) := by decide +kernel
theorem dX10_doCall_107 : decode cX10_doCall 107 = .ok (.getfield 9, 3) := by decide +kernel
theorem dX10_doCall_110 : decode cX10_doCall 110 = .ok (.aload 6, 2) := by decide +kernel
theorem dX10_doCall_112 : decode cX10_doCall 112 = .ok (.aload 8, 2) := by decide +kernel
theorem dX10_doCall_114 : decode cX10_doCall 114 = .ok (.aload_n 2, 1) := by decide +kernel
theorem dX10_doCall_115 : decode cX10_doCall 115 = .ok (.getfield 225, 3) := by decide +kernel
theorem dX10_doCall_118 : decode cX10_doCall 118 = .ok (.aload 5, 2) := by decide +kernel
theorem dX10_doCall_120 : decode cX10_doCall 120 = .ok (.invokevirtual 234, 3) := by decide +kernel
theorem dX10_doCall_123 : decode cX10_doCall 123 = .ok (.aload_n 0, 1) := by decide +kernel
theorem dX10_doCall_124 : decode cX10_doCall 124 = .ok (.aload_n 2, 1) := by decide +kernel
theorem dX10_doCall_125 : decode cX10_doCall 125 = .ok (.iload 4, 2) := by decide +kernel
theorem dX10_doCall_127 : decode cX10_doCall 127 = .ok (.iload 7, 2) := by decide +kernel
theorem dX10_doCall_129 : decode cX10_doCall 129 = .ok (.invokevirtual 238, 3) := by decide +kernel
theorem dX10_doCall_132 : decode cX10_doCall 132 = .ok (.aload_n 2, 1) := by decide +kernel
theorem dX10_doCall_133 : decode cX10_doCall 133 = .ok (.getfield 78, 3) := by decide +kernel
theorem dX10_doCall_136 : decode cX10_doCall 136 = .ok (.ifCond .eq 4, 3) := by decide +kernel
theorem dX10_doCall_139 : decode cX10_doCall 139 = .ok (.return_, 1) := by decide +kernel
theorem dX10_doCall_140 : decode cX10_doCall 140 = .ok (.aload_n 0, 1) := by decide +kernel
theorem dX10_doCall_141 : decode cX10_doCall 141 = .ok (.getfield 18, 3) := by decide +kernel
theorem dX10_doCall_144 : decode cX10_doCall 144 = .ok (.aload_n 0, 1) := by decide +kernel
theorem dX10_doCall_145 : decode cX10_doCall 145 = .ok (.getfield 9, 3) := by decide +kernel
theorem dX10_doCall_148 : decode cX10_doCall 148 = .ok (.getfield 124, 3) := by decide +kernel
theorem dX10_doCall_151 : decode cX10_doCall 151 = .ok (.iload 7, 2) := by decide +kernel
theorem dX10_doCall_153 : decode cX10_doCall 153 = .ok (.aaload, 1) := by decide +kernel
theorem dX10_doCall_154 : decode cX10_doCall 154 = .ok (.invokevirtual 242, 3) := by decide +kernel
theorem dX10_doCall_157 : decode cX10_doCall 157 = .ok (.aload_n 0, 1) := by decide +kernel
theorem dX10_doCall_158 : decode cX10_doCall 158 = .ok (.getfield 18, 3) := by decide +kernel
theorem dX10_doCall_161 : decode cX10_doCall 161 = .ok (.invokevirtual 246, 3) := by decide +kernel
theorem dX10_doCall_164 : decode cX10_doCall 164 = .ok (.aload_n 0, 1) := by decide +kernel
theorem dX10_doCall_165 : decode cX10_doCall 165 = .ok (.aload_n 2, 1) := by decide +kernel
theorem dX10_doCall_166 : decode cX10_doCall 166 = .ok (.iload_n 3, 1) := by decide +kernel
theorem dX10_doCall_167 : decode cX10_doCall 167 = .ok (.invokevirtual 249, 3) := by decide +kernel
theorem dX10_doCall_170 : decode cX10_doCall 170 = .ok (.aload_n 0, 1) := by decide +kernel
theorem dX10_doCall_171 : decode cX10_doCall 171 = .ok (.getfield 18, 3) := by decide +kernel
theorem dX10_doCall_174 : decode cX10_doCall 174 = .ok (.aload_n 0, 1) := by decide +kernel
theorem dX10_doCall_175 : decode cX10_doCall 175 = .ok (.getfield 9, 3) := by decide +kernel
theorem dX10_doCall_178 : decode cX10_doCall 178 = .ok (.aload 6, 2) := by decide +kernel
theorem dX10_doCall_180 : decode cX10_doCall 180 = .ok (.aload_n 2, 1) := by decide +kernel
theorem dX10_doCall_181 : decode cX10_doCall 181 = .ok (.getfield 225, 3) := by decide +kernel
theorem dX10_doCall_184 : decode cX10_doCall 184 = .ok (.aload_n 2, 1) := by decide +kernel
theorem dX10_doCall_185 : decode cX10_doCall 185 = .ok (.getfield 225, 3) := by decide +kernel
theorem dX10_doCall_188 : decode cX10_doCall 188 = .ok (.aload 5, 2) := by decide +kernel
theorem dX10_doCall_190 : decode cX10_doCall 190 = .ok (.invokevirtual 234, 3) := by decide +kernel
theorem dX10_doCall_193 : decode cX10_doCall 193 = .ok (.aload_n 0, 1) := by decide +kernel
theorem dX10_doCall_194 : decode cX10_doCall 194 = .ok (.aload_n 2, 1) := by decide +kernel
theorem dX10_doCall_195 : decode cX10_doCall 195 = .ok (.iload 4, 2) := by decide +kernel
theorem dX10_doCall_197 : decode cX10_doCall 197 = .ok (.iload 7, 2) := by decide +kernel
theorem dX10_doCall_199 : decode cX10_doCall 199 = .ok (.invokevirtual 252, 3) := by decide +kernel
theorem dX10_doCall_202 : decode cX10_doCall 202 = .ok (.aload_n 0, 1) := by decide +kernel
theorem dX10_doCall_203 : decode cX10_doCall 203 = .ok (.aload_n 2, 1) := by decide +kernel
theorem dX10_doCall_204 : decode cX10_doCall 204 = .ok (.iload 4, 2) := by decide +kernel
theorem dX10_doCall_206 : decode cX10_doCall 206 = .ok (.iload 7, 2) := by decide +kernel
theorem dX10_doCall_208 : decode cX10_doCall 208 = .ok (.invokevirtual 255, 3) := by decide +kernel
theorem dX10_doCall_211 : decode cX10_doCall 211 = .ok (.aload_n 0, 1) := by decide +kernel
theorem dX10_doCall_212 : decode cX10_doCall 212 = .ok (.getfield 18, 3) := by decide +kernel
theorem dX10_doCall_215 : decode cX10_doCall 215 = .ok (.aload_n 0, 1) := by decide +kernel
theorem dX10_doCall_216 : decode cX10_doCall 216 = .ok (.getfield 9, 3) := by decide +kernel
theorem dX10_doCall_219 : decode cX10_doCall 219 = .ok (.aload 6, 2) := by decide +kernel
theorem dX10_doCall_221 : decode cX10_doCall 221 = .ok (.aload 8, 2) := by decide +kernel
theorem dX10_doCall_223 : decode cX10_doCall 223 = .ok (.aload_n 2, 1) := by decide +kernel
theorem dX10_doCall_224 : decode cX10_doCall 224 = .ok (.getfield 225, 3) := by decide +kernel
theorem dX10_doCall_227 : decode cX10_doCall 227 = .ok (.aload 5, 2) := by decide +kernel
theorem dX10_doCall_229 : decode cX10_doCall 229 = .ok (.invokevirtual 234, 3) := by decide +kernel
theorem dX10_doCall_232 : decode cX10_doCall 232 = .ok (.aload_n 0, 1) := by decide +kernel
theorem dX10_doCall_233 : decode cX10_doCall 233 = .ok (.aload_n 2, 1) := by decide +kernel
theorem dX10_doCall_234 : decode cX10_doCall 234 = .ok (.iload 4, 2) := by decide +kernel
theorem dX10_doCall_236 : decode cX10_doCall 236 = .ok (.iload 7, 2) := by decide +kernel
theorem dX10_doCall_238 : decode cX10_doCall 238 = .ok (.invokevirtual 258, 3) := by decide +kernel
theorem dX10_doCall_241 : decode cX10_doCall 241 = .ok (.iconst 0, 1) := by decide +kernel
theorem dX10_doCall_242 : decode cX10_doCall 242 = .ok (.istore 9, 2) := by decide +kernel
theorem dX10_doCall_244 : decode cX10_doCall 244 = .ok (.iload 9, 2) := by decide +kernel
theorem dX10_doCall_246 : decode cX10_doCall 246 = .ok (.aload_n 2, 1) := by decide +kernel
theorem dX10_doCall_247 : decode cX10_doCall 247 = .ok (.getfield 191, 3) := by decide +kernel
theorem dX10_doCall_250 : decode cX10_doCall 250 = .ok (.if_icmp .ge 16, 3) := by decide +kernel
theorem dX10_doCall_253 : decode cX10_doCall 253 = .ok (.aload_n 0, 1) := by decide +kernel
theorem dX10_doCall_254 : decode cX10_doCall 254 = .ok (.aload_n 2, 1) := by decide +kernel
theorem dX10_doCall_255 : decode cX10_doCall 255 = .ok (.iload 9, 2) := by decide +kernel
theorem dX10_doCall_257 : decode cX10_doCall 257 = .ok (.invokevirtual 218, 3) := by decide +kernel
theorem dX10_doCall_260 : decode cX10_doCall 260 = .ok (.iinc 9 1, 3) := by decide +kernel
theorem dX10_doCall_263 : decode cX10_doCall 263 = .ok (.goto (-19), 3) := by decide +kernel
theorem dX10_doCall_266 : decode cX10_doCall 266 = .ok (.aload_n 0, 1) := by decide +kernel
theorem dX10_doCall_267 : decode cX10_doCall 267 = .ok (.aload_n 2, 1) := by decide +kernel
theorem dX10_doCall_268 : decode cX10_doCall 268 = .ok (.iload 4, 2) := by decide +kernel
theorem dX10_doCall_270 : decode cX10_doCall 270 = .ok (.aload_n 0, 1) := by decide +kernel
theorem dX10_doCall_271 : decode cX10_doCall 271 = .ok (.getfield 9, 3) := by decide +kernel
theorem dX10_doCall_274 : decode cX10_doCall 274 = .ok (.getfield 124, 3) := by decide +kernel
theorem dX10_doCall_277 : decode cX10_doCall 277 = .ok (.iload 7, 2) := by decide +kernel
theorem dX10_doCall_279 : decode cX10_doCall 279 = .ok (.aaload, 1) := by decide +kernel
theorem dX10_doCall_280 : decode cX10_doCall 280 = .ok (.aload 5, 2) := by decide +kernel
theorem dX10_doCall_282 : decode cX10_doCall 282 = .ok (.invokevirtual 261, 3) := by decide +kernel
theorem dX10_doCall_285 : decode cX10_doCall 285 = .ok (.return_, 1) := by decide +kernel
theorem dX10_noteCall_0 : decode cX10_noteCall 0 = .ok (.aload_n 1, 1) := by decide +kernel
theorem dX10_noteCall_1 : decode cX10_noteCall 1 = .ok (.aload_n 0, 1) := by decide +kernel
theorem dX10_noteCall_2 : decode cX10_noteCall 2 = .ok (.getfield 18, 3) := by decide +kernel
theorem dX10_noteCall_5 : decode cX10_noteCall 5 = .ok (.getfield 265, 3) := by decide +kernel
theorem dX10_noteCall_8 : decode cX10_noteCall 8 = .ok (.putfield 268, 3) := by decide +kernel
theorem dX10_noteCall_11 : decode cX10_noteCall 11 = .ok (.aload_n 1, 1) := by decide +kernel
theorem dX10_noteCall_12 : decode cX10_noteCall 12 = .ok (.aload_n 0, 1) := by decide +kernel
theorem dX10_noteCall_13 : decode cX10_noteCall 13 = .ok (.getfield 18, 3) := by decide +kernel
theorem dX10_noteCall_16 : decode cX10_noteCall 16 = .ok (.getfield 269, 3) := by decide +kernel
theorem dX10_noteCall_19 : decode cX10_noteCall 19 = .ok (.putfield 272, 3) := by decide +kernel
theorem dX10_noteCall_22 : decode cX10_noteCall 22 = .ok (.aload_n 1, 1) := by decide +kernel
theorem dX10_noteCall_23 : decode cX10_noteCall 23 = .ok (.getfield 215, 3) := by decide +kernel
theorem dX10_noteCall_26 : decode cX10_noteCall 26 = .ok (.iload_n 2, 1) := by decide +kernel
theorem dX10_noteCall_27 : decode cX10_noteCall 27 = .ok (.aload_n 0, 1) := by decide +kernel
theorem dX10_noteCall_28 : decode cX10_noteCall 28 = .ok (.getfield 18, 3) := by decide +kernel
theorem dX10_noteCall_31 : decode cX10_noteCall 31 = .ok (.getfield 265, 3) := by decide +kernel
theorem dX10_noteCall_34 : decode cX10_noteCall 34 = .ok (.iconst 1, 1) := by decide +kernel
theorem dX10_noteCall_35 : decode cX10_noteCall 35 = .ok (.if_icmp .ne 7, 3) := by decide +kernel
theorem dX10_noteCall_38 : decode cX10_noteCall 38 = .ok (.iconst 1, 1) := by decide +kernel
theorem dX10_noteCall_39 : decode cX10_noteCall 39 = .ok (.goto 4, 3) := by decide +kernel
theorem dX10_noteCall_42 : decode cX10_noteCall 42 = .ok (.iconst 2, 1) := by decide +kernel
theorem dX10_noteCall_43 : decode cX10_noteCall 43 = .ok (.iastore, 1) := by decide +kernel
theorem dX10_noteCall_44 : decode cX10_noteCall 44 = .ok (.aload_n 1, 1) := by decide +kernel
theorem dX10_noteCall_45 : decode cX10_noteCall 45 = .ok (.getfield 273, 3) := by decide +kernel
theorem dX10_noteCall_48 : decode cX10_noteCall 48 = .ok (.iload_n 2, 1) := by decide +kernel
theorem dX10_noteCall_49 : decode cX10_noteCall 49 = .ok (.aload_n 0, 1) := by decide +kernel
theorem dX10_noteCall_50 : decode cX10_noteCall 50 = .ok (.getfield 18, 3) := by decide +kernel
theorem dX10_noteCall_53 : decode cX10_noteCall 53 = .ok (.getfield 269, 3) := by decide +kernel
theorem dX10_noteCall_56 : decode cX10_noteCall 56 = .ok (.iastore, 1) := by decide +kernel
theorem dX10_noteCall_57 : decode cX10_noteCall 57 = .ok (.aload_n 0, 1) := by decide +kernel
theorem dX10_noteCall_58 : decode cX10_noteCall 58 = .ok (.getfield 18, 3) := by decide +kernel
theorem dX10_noteCall_61 : decode cX10_noteCall 61 = .ok (.getfield 265, 3) := by decide +kernel
theorem dX10_noteCall_64 : decode cX10_noteCall 64 = .ok (.iconst 2, 1) := by decide +kernel
theorem dX10_noteCall_65 : decode cX10_noteCall 65 = .ok (.if_icmp .ne 17, 3) := by decide +kernel
theorem dX10_noteCall_68 : decode cX10_noteCall 68 = .ok (.aload_n 1, 1) := by decide +kernel
theorem dX10_noteCall_69 : decode cX10_noteCall 69 = .ok (.aload_n 0, 1) := by decide +kernel
theorem dX10_noteCall_70 : decode cX10_noteCall 70 = .ok (.getfield 18, 3) := by decide +kernel
theorem dX10_noteCall_73 : decode cX10_noteCall 73 = .ok (.getfield 276, 3) := by decide +kernel
theorem dX10_noteCall_76 : decode cX10_noteCall 76 = .ok (.putfield 280, 3) := by decide +kernel
theorem dX10_noteCall_79 : decode cX10_noteCall 79 = .ok (.goto 20, 3) := by decide +kernel
theorem dX10_noteCall_82 : decode cX10_noteCall 82 = .ok (.aload_n 0, 1) := by decide +kernel
theorem dX10_noteCall_83 : decode cX10_noteCall 83 = .ok (.getfield 18, 3) := by decide +kernel
theorem dX10_noteCall_86 : decode cX10_noteCall 86 = .ok (.getfield 265, 3) := by decide +kernel
theorem dX10_noteCall_89 : decode cX10_noteCall 89 = .ok (.iconst 1, 1) := by decide +kernel
theorem dX10_noteCall_90 : decode cX10_noteCall 90 = .ok (.if_icmp .eq 9, 3) := by decide +kernel
theorem dX10_noteCall_93 : decode cX10_noteCall 93 = .ok (.aload_n 1, 1) := by decide +kernel
theorem dX10_noteCall_94 : decode cX10_noteCall 94 = .ok (.bipush 8, 2) := by decide +kernel
theorem dX10_noteCall_96 : decode cX10_noteCall 96 = .ok (.putfield 78, 3) := by decide +kernel
theorem dX10_noteCall_99 : decode cX10_noteCall 99 = .ok (.return_, 1) := by decide +kernel
theorem dX10_holds_0 : decode cX10_holds 0 = .ok (.aload_n 0, 1) := by decide +kernel
theorem dX10_holds_1 : decode cX10_holds 1 = .ok (.getfield 18, 3) := by decide +kernel
theorem dX10_holds_4 : decode cX10_holds 4 = .ok (.aload_n 0, 1) := by decide +kernel
theorem dX10_holds_5 : decode cX10_holds 5 = .ok (.getfield 9, 3) := by decide +kernel
theorem dX10_holds_8 : decode cX10_holds 8 = .ok (.getfield 283, 3) := by decide +kernel
theorem dX10_holds_11 : decode cX10_holds 11 = .ok (.iload_n 2, 1) := by decide +kernel
theorem dX10_holds_12 : decode cX10_holds 12 = .ok (.iaload, 1) := by decide +kernel
theorem dX10_holds_13 : decode cX10_holds 13 = .ok (.aload_n 1, 1) := by decide +kernel
theorem dX10_holds_14 : decode cX10_holds 14 = .ok (.getfield 272, 3) := by decide +kernel
theorem dX10_holds_17 : decode cX10_holds 17 = .ok (.invokevirtual 286, 3) := by decide +kernel
theorem dX10_holds_20 : decode cX10_holds 20 = .ok (.aload_n 0, 1) := by decide +kernel
theorem dX10_holds_21 : decode cX10_holds 21 = .ok (.getfield 18, 3) := by decide +kernel
theorem dX10_holds_24 : decode cX10_holds 24 = .ok (.invokevirtual 246, 3) := by decide +kernel
theorem dX10_holds_27 : decode cX10_holds 27 = .ok (.aload_n 0, 1) := by decide +kernel
theorem dX10_holds_28 : decode cX10_holds 28 = .ok (.getfield 18, 3) := by decide +kernel
theorem dX10_holds_31 : decode cX10_holds 31 = .ok (.getfield 265, 3) := by decide +kernel
theorem dX10_holds_34 : decode cX10_holds 34 = .ok (.iconst 1, 1) := by decide +kernel
theorem dX10_holds_35 : decode cX10_holds 35 = .ok (.if_icmp .ne 19, 3) := by decide +kernel
theorem dX10_holds_38 : decode cX10_holds 38 = .ok (.aload_n 0, 1) := by decide +kernel
theorem dX10_holds_39 : decode cX10_holds 39 = .ok (.getfield 18, 3) := by decide +kernel
theorem dX10_holds_42 : decode cX10_holds 42 = .ok (.getfield 269, 3) := by decide +kernel
theorem dX10_holds_45 : decode cX10_holds 45 = .ok (.ifCond .eq 7, 3) := by decide +kernel
theorem dX10_holds_48 : decode cX10_holds 48 = .ok (.iconst 1, 1) := by decide +kernel
theorem dX10_holds_49 : decode cX10_holds 49 = .ok (.goto 4, 3) := by decide +kernel
theorem dX10_holds_52 : decode cX10_holds 52 = .ok (.iconst 0, 1) := by decide +kernel
theorem dX10_holds_53 : decode cX10_holds 53 = .ok (.ireturn, 1) := by decide +kernel
theorem dX10_holds_54 : decode cX10_holds 54 = .ok (.aload_n 0, 1) := by decide +kernel
theorem dX10_holds_55 : decode cX10_holds 55 = .ok (.getfield 18, 3) := by decide +kernel
theorem dX10_holds_58 : decode cX10_holds 58 = .ok (.getfield 265, 3) := by decide +kernel
theorem dX10_holds_61 : decode cX10_holds 61 = .ok (.iconst 2, 1) := by decide +kernel
theorem dX10_holds_62 : decode cX10_holds 62 = .ok (.if_icmp .ne 14, 3) := by decide +kernel
theorem dX10_holds_65 : decode cX10_holds 65 = .ok (.aload_n 1, 1) := by decide +kernel
theorem dX10_holds_66 : decode cX10_holds 66 = .ok (.aload_n 0, 1) := by decide +kernel
theorem dX10_holds_67 : decode cX10_holds 67 = .ok (.getfield 18, 3) := by decide +kernel
theorem dX10_holds_70 : decode cX10_holds 70 = .ok (.getfield 276, 3) := by decide +kernel
theorem dX10_holds_73 : decode cX10_holds 73 = .ok (.putfield 280, 3) := by decide +kernel
theorem dX10_holds_76 : decode cX10_holds 76 = .ok (.aload_n 1, 1) := by decide +kernel
theorem dX10_holds_77 : decode cX10_holds 77 = .ok (.aload_n 0, 1) := by decide +kernel
theorem dX10_holds_78 : decode cX10_holds 78 = .ok (.getfield 18, 3) := by decide +kernel
theorem dX10_holds_81 : decode cX10_holds 81 = .ok (.getfield 265, 3) := by decide +kernel
theorem dX10_holds_84 : decode cX10_holds 84 = .ok (.iconst 4, 1) := by decide +kernel
theorem dX10_holds_85 : decode cX10_holds 85 = .ok (.if_icmp .ne 7, 3) := by decide +kernel
theorem dX10_holds_88 : decode cX10_holds 88 = .ok (.iconst 5, 1) := by decide +kernel
theorem dX10_holds_89 : decode cX10_holds 89 = .ok (.goto 5, 3) := by decide +kernel
theorem dX10_holds_92 : decode cX10_holds 92 = .ok (.bipush 7, 2) := by decide +kernel
theorem dX10_holds_94 : decode cX10_holds 94 = .ok (.iload_n 2, 1) := by decide +kernel
theorem dX10_holds_95 : decode cX10_holds 95 = .ok (.iload_n 3, 1) := by decide +kernel
theorem dX10_holds_96 : decode cX10_holds 96 = .ok (.invokevirtual 289, 3) := by decide +kernel
theorem dX10_holds_99 : decode cX10_holds 99 = .ok (.iconst 0, 1) := by decide +kernel
theorem dX10_holds_100 : decode cX10_holds 100 = .ok (.ireturn, 1) := by decide +kernel
theorem dX10_upwards_0 : decode cX10_upwards 0 = .ok (.iload_n 1, 1) := by decide +kernel
theorem dX10_upwards_1 : decode cX10_upwards 1 = .ok (.ifCond .lt 29, 3) := by decide +kernel
theorem dX10_upwards_4 : decode cX10_upwards 4 = .ok (.iload_n 1, 1) := by decide +kernel
theorem dX10_upwards_5 : decode cX10_upwards 5 = .ok (.aload_n 0, 1) := by decide +kernel
theorem dX10_upwards_6 : decode cX10_upwards 6 = .ok (.getfield 9, 3) := by decide +kernel
theorem dX10_upwards_9 : decode cX10_upwards 9 = .ok (.getfield 293, 3) := by decide +kernel
theorem dX10_upwards_12 : decode cX10_upwards 12 = .ok (.if_icmp .ge 18, 3) := by decide +kernel
theorem dX10_upwards_15 : decode cX10_upwards 15 = .ok (.aload_n 0, 1) := by decide +kernel
theorem dX10_upwards_16 : decode cX10_upwards 16 = .ok (.getfield 9, 3) := by decide +kernel
theorem dX10_upwards_19 : decode cX10_upwards 19 = .ok (.getfield 124, 3) := by decide +kernel
theorem dX10_upwards_22 : decode cX10_upwards 22 = .ok (.iload_n 1, 1) := by decide +kernel
theorem dX10_upwards_23 : decode cX10_upwards 23 = .ok (.aaload, 1) := by decide +kernel
theorem dX10_upwards_24 : decode cX10_upwards 24 = .ok (.getfield 296, 3) := by decide +kernel
theorem dX10_upwards_27 : decode cX10_upwards 27 = .ok (.goto 4, 3) := by decide +kernel
theorem dX10_upwards_30 : decode cX10_upwards 30 = .ok (.iconst (-1), 1) := by decide +kernel
theorem dX10_upwards_31 : decode cX10_upwards 31 = .ok (.ireturn, 1) := by decide +kernel
theorem dX10_lastMark_0 : decode cX10_lastMark 0 = .ok (.aload_n 0, 1) := by decide +kernel
theorem dX10_lastMark_1 : decode cX10_lastMark 1 = .ok (.getfield 9, 3) := by decide +kernel
theorem dX10_lastMark_4 : decode cX10_lastMark 4 = .ok (.getfield 124, 3) := by decide +kernel
theorem dX10_lastMark_7 : decode cX10_lastMark 7 = .ok (.iload_n 1, 1) := by decide +kernel
theorem dX10_lastMark_8 : decode cX10_lastMark 8 = .ok (.aaload, 1) := by decide +kernel
theorem dX10_lastMark_9 : decode cX10_lastMark 9 = .ok (.getfield 299, 3) := by decide +kernel
theorem dX10_lastMark_12 : decode cX10_lastMark 12 = .ok (.aload_n 0, 1) := by decide +kernel
theorem dX10_lastMark_13 : decode cX10_lastMark 13 = .ok (.getfield 9, 3) := by decide +kernel
theorem dX10_lastMark_16 : decode cX10_lastMark 16 = .ok (.getfield 124, 3) := by decide +kernel
theorem dX10_lastMark_19 : decode cX10_lastMark 19 = .ok (.iload_n 1, 1) := by decide +kernel
theorem dX10_lastMark_20 : decode cX10_lastMark 20 = .ok (.aaload, 1) := by decide +kernel
theorem dX10_lastMark_21 : decode cX10_lastMark 21 = .ok (.getfield 302, 3) := by decide +kernel
theorem dX10_lastMark_24 : decode cX10_lastMark 24 = .ok (.iadd, 1) := by decide +kernel
theorem dX10_lastMark_25 : decode cX10_lastMark 25 = .ok (.aload_n 0, 1) := by decide +kernel
theorem dX10_lastMark_26 : decode cX10_lastMark 26 = .ok (.getfield 9, 3) := by decide +kernel
theorem dX10_lastMark_29 : decode cX10_lastMark 29 = .ok (.getfield 305, 3) := by decide +kernel
theorem dX10_lastMark_32 : decode cX10_lastMark 32 = .ok (.invokestatic 306, 3) := by decide +kernel
theorem dX10_lastMark_35 : decode cX10_lastMark 35 = .ok (.iconst 1, 1) := by decide +kernel
theorem dX10_lastMark_36 : decode cX10_lastMark 36 = .ok (.isub, 1) := by decide +kernel
theorem dX10_lastMark_37 : decode cX10_lastMark 37 = .ok (.ireturn, 1) := by decide +kernel
theorem dX10_askNeeds_0 : decode cX10_askNeeds 0 = .ok (.iload_n 3, 1) := by decide +kernel
theorem dX10_askNeeds_1 : decode cX10_askNeeds 1 = .ok (.istore 4, 2) := by decide +kernel
theorem dX10_askNeeds_3 : decode cX10_askNeeds 3 = .ok (.iconst 0, 1) := by decide +kernel
theorem dX10_askNeeds_4 : decode cX10_askNeeds 4 = .ok (.istore 5, 2) := by decide +kernel
theorem dX10_askNeeds_6 : decode cX10_askNeeds 6 = .ok (.iload 5, 2) := by decide +kernel
theorem dX10_askNeeds_8 : decode cX10_askNeeds 8 = .ok (.bipush 8, 2) := by decide +kernel
theorem dX10_askNeeds_10 : decode cX10_askNeeds 10 = .ok (.if_icmp .ge 112, 3) := by decide +kernel
theorem dX10_askNeeds_13 : decode cX10_askNeeds 13 = .ok (.iload 4, 2) := by decide +kernel
theorem dX10_askNeeds_15 : decode cX10_askNeeds 15 = .ok (.iconst (-1), 1) := by decide +kernel
theorem dX10_askNeeds_16 : decode cX10_askNeeds 16 = .ok (.if_icmp .eq 106, 3) := by decide +kernel
theorem dX10_askNeeds_19 : decode cX10_askNeeds 19 = .ok (.iconst 1, 1) := by decide +kernel
theorem dX10_askNeeds_20 : decode cX10_askNeeds 20 = .ok (.istore 6, 2) := by decide +kernel
theorem dX10_askNeeds_22 : decode cX10_askNeeds 22 = .ok (.aload_n 0, 1) := by decide +kernel
theorem dX10_askNeeds_23 : decode cX10_askNeeds 23 = .ok (.iload 4, 2) := by decide +kernel
theorem dX10_askNeeds_25 : decode cX10_askNeeds 25 = .ok (.invokevirtual 309, 3) := by decide +kernel
theorem dX10_askNeeds_28 : decode cX10_askNeeds 28 = .ok (.istore 7, 2) := by decide +kernel
theorem dX10_askNeeds_30 : decode cX10_askNeeds 30 = .ok (.aload_n 0, 1) := by decide +kernel
theorem dX10_askNeeds_31 : decode cX10_askNeeds 31 = .ok (.getfield 9, 3) := by decide +kernel
theorem dX10_askNeeds_34 : decode cX10_askNeeds 34 = .ok (.getfield 124, 3) := by decide +kernel
theorem dX10_askNeeds_37 : decode cX10_askNeeds 37 = .ok (.iload 4, 2) := by decide +kernel
theorem dX10_askNeeds_39 : decode cX10_askNeeds 39 = .ok (.aaload, 1) := by decide +kernel
theorem dX10_askNeeds_40 : decode cX10_askNeeds 40 = .ok (.getfield 299, 3) := by decide +kernel
theorem dX10_askNeeds_43 : decode cX10_askNeeds 43 = .ok (.istore 8, 2) := by decide +kernel
theorem dX10_askNeeds_45 : decode cX10_askNeeds 45 = .ok (.iload 8, 2) := by decide +kernel
theorem dX10_askNeeds_47 : decode cX10_askNeeds 47 = .ok (.iload 7, 2) := by decide +kernel
theorem dX10_askNeeds_49 : decode cX10_askNeeds 49 = .ok (.if_icmp .gt 46, 3) := by decide +kernel
theorem dX10_askNeeds_52 : decode cX10_askNeeds 52 = .ok (.iload 6, 2) := by decide +kernel
theorem dX10_askNeeds_54 : decode cX10_askNeeds 54 = .ok (.ifCond .eq 41, 3) := by decide +kernel
theorem dX10_askNeeds_57 : decode cX10_askNeeds 57 = .ok (.aload_n 0, 1) := by decide +kernel
theorem dX10_askNeeds_58 : decode cX10_askNeeds 58 = .ok (.getfield 9, 3) := by decide +kernel
theorem dX10_askNeeds_61 : decode cX10_askNeeds 61 = .ok (.getfield 312, 3) := by decide +kernel
theorem dX10_askNeeds_64 : decode cX10_askNeeds 64 = .ok (.iload 8, 2) := by decide +kernel
theorem dX10_askNeeds_66 : decode cX10_askNeeds 66 = .ok (.iaload, 1) := by decide +kernel
theorem dX10_askNeeds_67 : decode cX10_askNeeds 67 = .ok (.iconst 1, 1) := by decide +kernel
theorem dX10_askNeeds_68 : decode cX10_askNeeds 68 = .ok (.if_icmp .ne 14, 3) := by decide +kernel
theorem dX10_askNeeds_71 : decode cX10_askNeeds 71 = .ok (.aload_n 0, 1) := by decide +kernel
theorem dX10_askNeeds_72 : decode cX10_askNeeds 72 = .ok (.aload_n 1, 1) := by decide +kernel
theorem dX10_askNeeds_73 : decode cX10_askNeeds 73 = .ok (.iload 8, 2) := by decide +kernel
theorem dX10_askNeeds_75 : decode cX10_askNeeds 75 = .ok (.iload_n 2, 1) := by decide +kernel
theorem dX10_askNeeds_76 : decode cX10_askNeeds 76 = .ok (.invokevirtual 315, 3) := by decide +kernel
theorem dX10_askNeeds_79 : decode cX10_askNeeds 79 = .ok (.ifCond .eq 7, 3) := by decide +kernel
theorem dX10_askNeeds_82 : decode cX10_askNeeds 82 = .ok (.iconst 1, 1) := by decide +kernel
theorem dX10_askNeeds_83 : decode cX10_askNeeds 83 = .ok (.goto 4, 3) := by decide +kernel
theorem dX10_askNeeds_86 : decode cX10_askNeeds 86 = .ok (.iconst 0, 1) := by decide +kernel
theorem dX10_askNeeds_87 : decode cX10_askNeeds 87 = .ok (.istore 6, 2) := by decide +kernel
theorem dX10_askNeeds_89 : decode cX10_askNeeds 89 = .ok (.iinc 8 1, 3) := by decide +kernel
theorem dX10_askNeeds_92 : decode cX10_askNeeds 92 = .ok (.goto (-47), 3) := by decide +kernel
theorem dX10_askNeeds_95 : decode cX10_askNeeds 95 = .ok (.iload 6, 2) := by decide +kernel
theorem dX10_askNeeds_97 : decode cX10_askNeeds 97 = .ok (.ifCond .ne 10, 3) := by decide +kernel
theorem dX10_askNeeds_100 : decode cX10_askNeeds 100 = .ok (.aload_n 1, 1) := by decide +kernel
theorem dX10_askNeeds_101 : decode cX10_askNeeds 101 = .ok (.getfield 78, 3) := by decide +kernel
theorem dX10_askNeeds_104 : decode cX10_askNeeds 104 = .ok (.ifCond .eq 4, 3) := by decide +kernel
theorem dX10_askNeeds_107 : decode cX10_askNeeds 107 = .ok (.return_, 1) := by decide +kernel
theorem dX10_askNeeds_108 : decode cX10_askNeeds 108 = .ok (.aload_n 0, 1) := by decide +kernel
theorem dX10_askNeeds_109 : decode cX10_askNeeds 109 = .ok (.iload 4, 2) := by decide +kernel
theorem dX10_askNeeds_111 : decode cX10_askNeeds 111 = .ok (.invokevirtual 319, 3) := by decide +kernel
theorem dX10_askNeeds_114 : decode cX10_askNeeds 114 = .ok (.istore 4, 2) := by decide +kernel
theorem dX10_askNeeds_116 : decode cX10_askNeeds 116 = .ok (.iinc 5 1, 3) := by decide +kernel
theorem dX10_askNeeds_119 : decode cX10_askNeeds 119 = .ok (.goto (-113), 3) := by decide +kernel
theorem dX10_askNeeds_122 : decode cX10_askNeeds 122 = .ok (.aload_n 1, 1) := by decide +kernel
theorem dX10_askNeeds_123 : decode cX10_askNeeds 123 = .ok (.iconst (-1), 1) := by decide +kernel
theorem dX10_askNeeds_124 : decode cX10_askNeeds 124 = .ok (.putfield 78, 3) := by decide +kernel
theorem dX10_askNeeds_127 : decode cX10_askNeeds 127 = .ok (.return_, 1) := by decide +kernel
theorem dX10_askThrows_0 : decode cX10_askThrows 0 = .ok (.aload_n 1, 1) := by decide +kernel
theorem dX10_askThrows_1 : decode cX10_askThrows 1 = .ok (.getfield 78, 3) := by decide +kernel
theorem dX10_askThrows_4 : decode cX10_askThrows 4 = .ok (.ifCond .ne 11, 3) := by decide +kernel
theorem dX10_askThrows_7 : decode cX10_askThrows 7 = .ok (.aload_n 1, 1) := by decide +kernel
theorem dX10_askThrows_8 : decode cX10_askThrows 8 = .ok (.getfield 268, 3) := by decide +kernel
theorem dX10_askThrows_11 : decode cX10_askThrows 11 = .ok (.iconst 2, 1) := by decide +kernel
theorem dX10_askThrows_12 : decode cX10_askThrows 12 = .ok (.if_icmp .eq 4, 3) := by decide +kernel
theorem dX10_askThrows_15 : decode cX10_askThrows 15 = .ok (.return_, 1) := by decide +kernel
theorem dX10_askThrows_16 : decode cX10_askThrows 16 = .ok (.aload_n 1, 1) := by decide +kernel
theorem dX10_askThrows_17 : decode cX10_askThrows 17 = .ok (.getfield 280, 3) := by decide +kernel
theorem dX10_askThrows_20 : decode cX10_askThrows 20 = .ok (.lstore 4, 2) := by decide +kernel
theorem dX10_askThrows_22 : decode cX10_askThrows 22 = .ok (.iload_n 3, 1) := by decide +kernel
theorem dX10_askThrows_23 : decode cX10_askThrows 23 = .ok (.istore 6, 2) := by decide +kernel
theorem dX10_askThrows_25 : decode cX10_askThrows 25 = .ok (.iconst 0, 1) := by decide +kernel
theorem dX10_askThrows_26 : decode cX10_askThrows 26 = .ok (.istore 7, 2) := by decide +kernel
theorem dX10_askThrows_28 : decode cX10_askThrows 28 = .ok (.iload 7, 2) := by decide +kernel
theorem dX10_askThrows_30 : decode cX10_askThrows 30 = .ok (.bipush 8, 2) := by decide +kernel
theorem dX10_askThrows_32 : decode cX10_askThrows 32 = .ok (.if_icmp .ge 134, 3) := by decide +kernel
theorem dX10_askThrows_35 : decode cX10_askThrows 35 = .ok (.iload 6, 2) := by decide +kernel
theorem dX10_askThrows_37 : decode cX10_askThrows 37 = .ok (.iconst (-1), 1) := by decide +kernel
theorem dX10_askThrows_38 : decode cX10_askThrows 38 = .ok (.if_icmp .eq 128, 3) := by decide +kernel
theorem dX10_askThrows_41 : decode cX10_askThrows 41 = .ok (.aload_n 0, 1) := by decide +kernel
theorem dX10_askThrows_42 : decode cX10_askThrows 42 = .ok (.iload 6, 2) := by decide +kernel
theorem dX10_askThrows_44 : decode cX10_askThrows 44 = .ok (.invokevirtual 309, 3) := by decide +kernel
theorem dX10_askThrows_47 : decode cX10_askThrows 47 = .ok (.istore 8, 2) := by decide +kernel
theorem dX10_askThrows_49 : decode cX10_askThrows 49 = .ok (.aload_n 0, 1) := by decide +kernel
theorem dX10_askThrows_50 : decode cX10_askThrows 50 = .ok (.getfield 9, 3) := by decide +kernel
theorem dX10_askThrows_53 : decode cX10_askThrows 53 = .ok (.getfield 124, 3) := by decide +kernel
theorem dX10_askThrows_56 : decode cX10_askThrows 56 = .ok (.iload 6, 2) := by decide +kernel
theorem dX10_askThrows_58 : decode cX10_askThrows 58 = .ok (.aaload, 1) := by decide +kernel
theorem dX10_askThrows_59 : decode cX10_askThrows 59 = .ok (.getfield 299, 3) := by decide +kernel
theorem dX10_askThrows_62 : decode cX10_askThrows 62 = .ok (.istore 9, 2) := by decide +kernel
theorem dX10_askThrows_64 : decode cX10_askThrows 64 = .ok (.iload 9, 2) := by decide +kernel
theorem dX10_askThrows_66 : decode cX10_askThrows 66 = .ok (.iload 8, 2) := by decide +kernel
theorem dX10_askThrows_68 : decode cX10_askThrows 68 = .ok (.if_icmp .gt 84, 3) := by decide +kernel
theorem dX10_askThrows_71 : decode cX10_askThrows 71 = .ok (.aload_n 0, 1) := by decide +kernel
theorem dX10_askThrows_72 : decode cX10_askThrows 72 = .ok (.getfield 9, 3) := by decide +kernel
theorem dX10_askThrows_75 : decode cX10_askThrows 75 = .ok (.getfield 312, 3) := by decide +kernel
theorem dX10_askThrows_78 : decode cX10_askThrows 78 = .ok (.iload 9, 2) := by decide +kernel
theorem dX10_askThrows_80 : decode cX10_askThrows 80 = .ok (.iaload, 1) := by decide +kernel
theorem dX10_askThrows_81 : decode cX10_askThrows 81 = .ok (.iconst 4, 1) := by decide +kernel
theorem dX10_askThrows_82 : decode cX10_askThrows 82 = .ok (.if_icmp .ne 23, 3) := by decide +kernel
theorem dX10_askThrows_85 : decode cX10_askThrows 85 = .ok (.aload_n 0, 1) := by decide +kernel
theorem dX10_askThrows_86 : decode cX10_askThrows 86 = .ok (.getfield 9, 3) := by decide +kernel
theorem dX10_askThrows_89 : decode cX10_askThrows 89 = .ok (.getfield 322, 3) := by decide +kernel
theorem dX10_askThrows_92 : decode cX10_askThrows 92 = .ok (.iload 9, 2) := by decide +kernel
theorem dX10_askThrows_94 : decode cX10_askThrows 94 = .ok (.laload, 1) := by decide +kernel
theorem dX10_askThrows_95 : decode cX10_askThrows 95 = .ok (.lload 4, 2) := by decide +kernel
theorem dX10_askThrows_97 : decode cX10_askThrows 97 = .ok (.lcmp, 1) := by decide +kernel
theorem dX10_askThrows_98 : decode cX10_askThrows 98 = .ok (.ifCond .ne 7, 3) := by decide +kernel
theorem dX10_askThrows_101 : decode cX10_askThrows 101 = .ok (.iconst 1, 1) := by decide +kernel
theorem dX10_askThrows_102 : decode cX10_askThrows 102 = .ok (.goto 4, 3) := by decide +kernel
theorem dX10_askThrows_105 : decode cX10_askThrows 105 = .ok (.iconst 0, 1) := by decide +kernel
theorem dX10_askThrows_106 : decode cX10_askThrows 106 = .ok (.istore 10, 2) := by decide +kernel
theorem dX10_askThrows_108 : decode cX10_askThrows 108 = .ok (.iload 10, 2) := by decide +kernel
theorem dX10_askThrows_110 : decode cX10_askThrows 110 = .ok (.ifCond .eq 36, 3) := by decide +kernel
theorem dX10_askThrows_113 : decode cX10_askThrows 113 = .ok (.aload_n 0, 1) := by decide +kernel
theorem dX10_askThrows_114 : decode cX10_askThrows 114 = .ok (.getfield 9, 3) := by decide +kernel
theorem dX10_askThrows_117 : decode cX10_askThrows 117 = .ok (.getfield 283, 3) := by decide +kernel
theorem dX10_askThrows_120 : decode cX10_askThrows 120 = .ok (.iload 9, 2) := by decide +kernel
theorem dX10_askThrows_122 : decode cX10_askThrows 122 = .ok (.iaload, 1) := by decide +kernel
theorem dX10_askThrows_123 : decode cX10_askThrows 123 = .ok (.iconst (-1), 1) := by decide +kernel
theorem dX10_askThrows_124 : decode cX10_askThrows 124 = .ok (.if_icmp .eq 21, 3) := by decide +kernel
theorem dX10_askThrows_127 : decode cX10_askThrows 127 = .ok (.aload_n 0, 1) := by decide +kernel
theorem dX10_askThrows_128 : decode cX10_askThrows 128 = .ok (.aload_n 1, 1) := by decide +kernel
theorem dX10_askThrows_129 : decode cX10_askThrows 129 = .ok (.iload 9, 2) := by decide +kernel
theorem dX10_askThrows_131 : decode cX10_askThrows 131 = .ok (.iload_n 2, 1) := by decide +kernel
theorem dX10_askThrows_132 : decode cX10_askThrows 132 = .ok (.invokevirtual 315, 3) := by decide +kernel
theorem dX10_askThrows_135 : decode cX10_askThrows 135 = .ok (.ifCond .ne 10, 3) := by decide +kernel
theorem dX10_askThrows_138 : decode cX10_askThrows 138 = .ok (.aload_n 1, 1) := by decide +kernel
theorem dX10_askThrows_139 : decode cX10_askThrows 139 = .ok (.getfield 78, 3) := by decide +kernel
theorem dX10_askThrows_142 : decode cX10_askThrows 142 = .ok (.ifCond .eq 4, 3) := by decide +kernel
theorem dX10_askThrows_145 : decode cX10_askThrows 145 = .ok (.return_, 1) := by decide +kernel
theorem dX10_askThrows_146 : decode cX10_askThrows 146 = .ok (.iinc 9 1, 3) := by decide +kernel
theorem dX10_askThrows_149 : decode cX10_askThrows 149 = .ok (.goto (-85), 3) := by decide +kernel
theorem dX10_askThrows_152 : decode cX10_askThrows 152 = .ok (.aload_n 0, 1) := by decide +kernel
theorem dX10_askThrows_153 : decode cX10_askThrows 153 = .ok (.iload 6, 2) := by decide +kernel
theorem dX10_askThrows_155 : decode cX10_askThrows 155 = .ok (.invokevirtual 319, 3) := by decide +kernel
theorem dX10_askThrows_158 : decode cX10_askThrows 158 = .ok (.istore 6, 2) := by decide +kernel
theorem dX10_askThrows_160 : decode cX10_askThrows 160 = .ok (.iinc 7 1, 3) := by decide +kernel
theorem dX10_askThrows_163 : decode cX10_askThrows 163 = .ok (.goto (-135), 3) := by decide +kernel
theorem dX10_askThrows_166 : decode cX10_askThrows 166 = .ok (.aload_n 1, 1) := by decide +kernel
theorem dX10_askThrows_167 : decode cX10_askThrows 167 = .ok (.iconst 3, 1) := by decide +kernel
theorem dX10_askThrows_168 : decode cX10_askThrows 168 = .ok (.putfield 78, 3) := by decide +kernel
theorem dX10_askThrows_171 : decode cX10_askThrows 171 = .ok (.return_, 1) := by decide +kernel
theorem dX10_findChanges_0 : decode cX10_findChanges 0 = .ok (.aload_n 1, 1) := by decide +kernel
theorem dX10_findChanges_1 : decode cX10_findChanges 1 = .ok (.getfield 78, 3) := by decide +kernel
theorem dX10_findChanges_4 : decode cX10_findChanges 4 = .ok (.ifCond .eq 4, 3) := by decide +kernel
theorem dX10_findChanges_7 : decode cX10_findChanges 7 = .ok (.return_, 1) := by decide +kernel
theorem dX10_findChanges_8 : decode cX10_findChanges 8 = .ok (.aload_n 0, 1) := by decide +kernel
theorem dX10_findChanges_9 : decode cX10_findChanges 9 = .ok (.getfield 9, 3) := by decide +kernel
theorem dX10_findChanges_12 : decode cX10_findChanges 12 = .ok (.getfield 105, 3) := by decide +kernel
theorem dX10_findChanges_15 : decode cX10_findChanges 15 = .ok (.aload_n 1, 1) := by decide +kernel
theorem dX10_findChanges_16 : decode cX10_findChanges 16 = .ok (.getfield 199, 3) := by decide +kernel
theorem dX10_findChanges_19 : decode cX10_findChanges 19 = .ok (.iload_n 2, 1) := by decide +kernel
theorem dX10_findChanges_20 : decode cX10_findChanges 20 = .ok (.iaload, 1) := by decide +kernel
theorem dX10_findChanges_21 : decode cX10_findChanges 21 = .ok (.aaload, 1) := by decide +kernel
theorem dX10_findChanges_22 : decode cX10_findChanges 22 = .ok (.astore 4, 2) := by decide +kernel
theorem dX10_findChanges_24 : decode cX10_findChanges 24 = .ok (.aload_n 1, 1) := by decide +kernel
theorem dX10_findChanges_25 : decode cX10_findChanges 25 = .ok (.getfield 205, 3) := by decide +kernel
theorem dX10_findChanges_28 : decode cX10_findChanges 28 = .ok (.iload_n 2, 1) := by decide +kernel
theorem dX10_findChanges_29 : decode cX10_findChanges 29 = .ok (.aaload, 1) := by decide +kernel
theorem dX10_findChanges_30 : decode cX10_findChanges 30 = .ok (.astore 5, 2) := by decide +kernel
theorem dX10_findChanges_32 : decode cX10_findChanges 32 = .ok (.aload 4, 2) := by decide +kernel
theorem dX10_findChanges_34 : decode cX10_findChanges 34 = .ok (.aload_n 1, 1) := by decide +kernel
theorem dX10_findChanges_35 : decode cX10_findChanges 35 = .ok (.getfield 225, 3) := by decide +kernel
theorem dX10_findChanges_38 : decode cX10_findChanges 38 = .ok (.aload 5, 2) := by decide +kernel
theorem dX10_findChanges_40 : decode cX10_findChanges 40 = .ok (.iconst 0, 1) := by decide +kernel
theorem dX10_findChanges_41 : decode cX10_findChanges 41 = .ok (.invokevirtual 326, 3) := by decide +kernel
theorem dX10_findChanges_44 : decode cX10_findChanges 44 = .ok (.istore 6, 2) := by decide +kernel
theorem dX10_findChanges_46 : decode cX10_findChanges 46 = .ok (.iload 6, 2) := by decide +kernel
theorem dX10_findChanges_48 : decode cX10_findChanges 48 = .ok (.iconst (-1), 1) := by decide +kernel
theorem dX10_findChanges_49 : decode cX10_findChanges 49 = .ok (.if_icmp .ne 4, 3) := by decide +kernel
theorem dX10_findChanges_52 : decode cX10_findChanges 52 = .ok (.return_, 1) := by decide +kernel
theorem dX10_findChanges_53 : decode cX10_findChanges 53 = .ok (.aload_n 0, 1) := by decide +kernel
theorem dX10_findChanges_54 : decode cX10_findChanges 54 = .ok (.getfield 9, 3) := by decide +kernel
theorem dX10_findChanges_57 : decode cX10_findChanges 57 = .ok (.getfield 124, 3) := by decide +kernel
theorem dX10_findChanges_60 : decode cX10_findChanges 60 = .ok (.iload_n 3, 1) := by decide +kernel
theorem dX10_findChanges_61 : decode cX10_findChanges 61 = .ok (.aaload, 1) := by decide +kernel
theorem dX10_findChanges_62 : decode cX10_findChanges 62 = .ok (.getfield 330, 3) := by decide +kernel
theorem dX10_findChanges_65 : decode cX10_findChanges 65 = .ok (.ifCond .eq 12, 3) := by decide +kernel
theorem dX10_findChanges_68 : decode cX10_findChanges 68 = .ok (.aload_n 1, 1) := by decide +kernel
theorem dX10_findChanges_69 : decode cX10_findChanges 69 = .ok (.iconst 5, 1) := by decide +kernel
theorem dX10_findChanges_70 : decode cX10_findChanges 70 = .ok (.iload_n 2, 1) := by decide +kernel
theorem dX10_findChanges_71 : decode cX10_findChanges 71 = .ok (.iload 6, 2) := by decide +kernel
theorem dX10_findChanges_73 : decode cX10_findChanges 73 = .ok (.invokevirtual 333, 3) := by decide +kernel
theorem dX10_findChanges_76 : decode cX10_findChanges 76 = .ok (.return_, 1) := by decide +kernel
theorem dX10_findChanges_77 : decode cX10_findChanges 77 = .ok (.aload 4, 2) := by decide +kernel
theorem dX10_findChanges_79 : decode cX10_findChanges 79 = .ok (.aload_n 1, 1) := by decide +kernel
theorem dX10_findChanges_80 : decode cX10_findChanges 80 = .ok (.getfield 225, 3) := by decide +kernel
theorem dX10_findChanges_83 : decode cX10_findChanges 83 = .ok (.aload 5, 2) := by decide +kernel
theorem dX10_findChanges_85 : decode cX10_findChanges 85 = .ok (.aload_n 0, 1) := by decide +kernel
theorem dX10_findChanges_86 : decode cX10_findChanges 86 = .ok (.iload_n 3, 1) := by decide +kernel
theorem dX10_findChanges_87 : decode cX10_findChanges 87 = .ok (.invokevirtual 336, 3) := by decide +kernel
theorem dX10_findChanges_90 : decode cX10_findChanges 90 = .ok (.invokevirtual 326, 3) := by decide +kernel
theorem dX10_findChanges_93 : decode cX10_findChanges 93 = .ok (.istore 6, 2) := by decide +kernel
theorem dX10_findChanges_95 : decode cX10_findChanges 95 = .ok (.iload 6, 2) := by decide +kernel
theorem dX10_findChanges_97 : decode cX10_findChanges 97 = .ok (.iconst (-1), 1) := by decide +kernel
theorem dX10_findChanges_98 : decode cX10_findChanges 98 = .ok (.if_icmp .eq 11, 3) := by decide +kernel
theorem dX10_findChanges_101 : decode cX10_findChanges 101 = .ok (.aload_n 1, 1) := by decide +kernel
theorem dX10_findChanges_102 : decode cX10_findChanges 102 = .ok (.iconst 4, 1) := by decide +kernel
theorem dX10_findChanges_103 : decode cX10_findChanges 103 = .ok (.iload_n 2, 1) := by decide +kernel
theorem dX10_findChanges_104 : decode cX10_findChanges 104 = .ok (.iload 6, 2) := by decide +kernel
theorem dX10_findChanges_106 : decode cX10_findChanges 106 = .ok (.invokevirtual 333, 3) := by decide +kernel
theorem dX10_findChanges_109 : decode cX10_findChanges 109 = .ok (.return_, 1) := by decide +kernel
theorem dX10_fieldsThatMayChange_0 : decode cX10_fieldsThatMayChange 0 = .ok (.iconst (-1), 1) := by decide +kernel
theorem dX10_fieldsThatMayChange_1 : decode cX10_fieldsThatMayChange 1 = .ok (.istore_n 2, 1) := by decide +kernel
theorem dX10_fieldsThatMayChange_2 : decode cX10_fieldsThatMayChange 2 = .ok (.iload_n 1, 1) := by decide +kernel
theorem dX10_fieldsThatMayChange_3 : decode cX10_fieldsThatMayChange 3 = .ok (.istore_n 3, 1) := by decide +kernel
theorem dX10_fieldsThatMayChange_4 : decode cX10_fieldsThatMayChange 4 = .ok (.iconst 0, 1) := by decide +kernel
theorem dX10_fieldsThatMayChange_5 : decode cX10_fieldsThatMayChange 5 = .ok (.istore 4, 2) := by decide +kernel
theorem dX10_fieldsThatMayChange_7 : decode cX10_fieldsThatMayChange 7 = .ok (.iload 4, 2) := by decide +kernel
theorem dX10_fieldsThatMayChange_9 : decode cX10_fieldsThatMayChange 9 = .ok (.bipush 8, 2) := by decide +kernel
theorem dX10_fieldsThatMayChange_11 : decode cX10_fieldsThatMayChange 11 = .ok (.if_icmp .ge 85, 3) := by decide +kernel
theorem dX10_fieldsThatMayChange_14 : decode cX10_fieldsThatMayChange 14 = .ok (.iload_n 3, 1) := by decide +kernel
theorem dX10_fieldsThatMayChange_15 : decode cX10_fieldsThatMayChange 15 = .ok (.iconst (-1), 1) := by decide +kernel
theorem dX10_fieldsThatMayChange_16 : decode cX10_fieldsThatMayChange 16 = .ok (.if_icmp .eq 80, 3) := by decide +kernel
theorem dX10_fieldsThatMayChange_19 : decode cX10_fieldsThatMayChange 19 = .ok (.aload_n 0, 1) := by decide +kernel
theorem dX10_fieldsThatMayChange_20 : decode cX10_fieldsThatMayChange 20 = .ok (.iload_n 3, 1) := by decide +kernel
theorem dX10_fieldsThatMayChange_21 : decode cX10_fieldsThatMayChange 21 = .ok (.invokevirtual 309, 3) := by decide +kernel
theorem dX10_fieldsThatMayChange_24 : decode cX10_fieldsThatMayChange 24 = .ok (.istore 5, 2) := by decide +kernel
theorem dX10_fieldsThatMayChange_26 : decode cX10_fieldsThatMayChange 26 = .ok (.aload_n 0, 1) := by decide +kernel
theorem dX10_fieldsThatMayChange_27 : decode cX10_fieldsThatMayChange 27 = .ok (.getfield 9, 3) := by decide +kernel
theorem dX10_fieldsThatMayChange_30 : decode cX10_fieldsThatMayChange 30 = .ok (.getfield 124, 3) := by decide +kernel
theorem dX10_fieldsThatMayChange_33 : decode cX10_fieldsThatMayChange 33 = .ok (.iload_n 3, 1) := by decide +kernel
theorem dX10_fieldsThatMayChange_34 : decode cX10_fieldsThatMayChange 34 = .ok (.aaload, 1) := by decide +kernel
theorem dX10_fieldsThatMayChange_35 : decode cX10_fieldsThatMayChange 35 = .ok (.getfield 299, 3) := by decide +kernel
theorem dX10_fieldsThatMayChange_38 : decode cX10_fieldsThatMayChange 38 = .ok (.istore 6, 2) := by decide +kernel
theorem dX10_fieldsThatMayChange_40 : decode cX10_fieldsThatMayChange 40 = .ok (.iload 6, 2) := by decide +kernel
theorem dX10_fieldsThatMayChange_42 : decode cX10_fieldsThatMayChange 42 = .ok (.iload 5, 2) := by decide +kernel
theorem dX10_fieldsThatMayChange_44 : decode cX10_fieldsThatMayChange 44 = .ok (.if_icmp .gt 40, 3) := by decide +kernel
theorem dX10_fieldsThatMayChange_47 : decode cX10_fieldsThatMayChange 47 = .ok (.iload_n 2, 1) := by decide +kernel
theorem dX10_fieldsThatMayChange_48 : decode cX10_fieldsThatMayChange 48 = .ok (.aload_n 0, 1) := by decide +kernel
theorem dX10_fieldsThatMayChange_49 : decode cX10_fieldsThatMayChange 49 = .ok (.getfield 9, 3) := by decide +kernel
theorem dX10_fieldsThatMayChange_52 : decode cX10_fieldsThatMayChange 52 = .ok (.getfield 312, 3) := by decide +kernel
theorem dX10_fieldsThatMayChange_55 : decode cX10_fieldsThatMayChange 55 = .ok (.iload 6, 2) := by decide +kernel
theorem dX10_fieldsThatMayChange_57 : decode cX10_fieldsThatMayChange 57 = .ok (.iaload, 1) := by decide +kernel
theorem dX10_fieldsThatMayChange_58 : decode cX10_fieldsThatMayChange 58 = .ok (.iconst 5, 1) := by decide +kernel
theorem dX10_fieldsThatMayChange_59 : decode cX10_fieldsThatMayChange 59 = .ok (.if_icmp .ne 16, 3) := by decide +kernel
theorem dX10_fieldsThatMayChange_62 : decode cX10_fieldsThatMayChange 62 = .ok (.aload_n 0, 1) := by decide +kernel
theorem dX10_fieldsThatMayChange_63 : decode cX10_fieldsThatMayChange 63 = .ok (.getfield 9, 3) := by decide +kernel
theorem dX10_fieldsThatMayChange_66 : decode cX10_fieldsThatMayChange 66 = .ok (.getfield 339, 3) := by decide +kernel
theorem dX10_fieldsThatMayChange_69 : decode cX10_fieldsThatMayChange 69 = .ok (.iload 6, 2) := by decide +kernel
theorem dX10_fieldsThatMayChange_71 : decode cX10_fieldsThatMayChange 71 = .ok (.iaload, 1) := by decide +kernel
theorem dX10_fieldsThatMayChange_72 : decode cX10_fieldsThatMayChange 72 = .ok (.goto 4, 3) := by decide +kernel
theorem dX10_fieldsThatMayChange_75 : decode cX10_fieldsThatMayChange 75 = .ok (.iconst (-1), 1) := by decide +kernel
theorem dX10_fieldsThatMayChange_76 : decode cX10_fieldsThatMayChange 76 = .ok (.iand, 1) := by decide +kernel
theorem dX10_fieldsThatMayChange_77 : decode cX10_fieldsThatMayChange 77 = .ok (.istore_n 2, 1) := by decide +kernel
theorem dX10_fieldsThatMayChange_78 : decode cX10_fieldsThatMayChange 78 = .ok (.iinc 6 1, 3) := by decide +kernel
theorem dX10_fieldsThatMayChange_81 : decode cX10_fieldsThatMayChange 81 = .ok (.goto (-41), 3) := by decide +kernel
theorem dX10_fieldsThatMayChange_84 : decode cX10_fieldsThatMayChange 84 = .ok (.aload_n 0, 1) := by decide +kernel
theorem dX10_fieldsThatMayChange_85 : decode cX10_fieldsThatMayChange 85 = .ok (.iload_n 3, 1) := by decide +kernel
theorem dX10_fieldsThatMayChange_86 : decode cX10_fieldsThatMayChange 86 = .ok (.invokevirtual 319, 3) := by decide +kernel
theorem dX10_fieldsThatMayChange_89 : decode cX10_fieldsThatMayChange 89 = .ok (.istore_n 3, 1) := by decide +kernel
theorem dX10_fieldsThatMayChange_90 : decode cX10_fieldsThatMayChange 90 = .ok (.iinc 4 1, 3) := by decide +kernel
theorem dX10_fieldsThatMayChange_93 : decode cX10_fieldsThatMayChange 93 = .ok (.goto (-86), 3) := by decide +kernel
theorem dX10_fieldsThatMayChange_96 : decode cX10_fieldsThatMayChange 96 = .ok (.iload_n 2, 1) := by decide +kernel
theorem dX10_fieldsThatMayChange_97 : decode cX10_fieldsThatMayChange 97 = .ok (.ireturn, 1) := by decide +kernel
theorem dX10_askGives_0 : decode cX10_askGives 0 = .ok (.aload_n 1, 1) := by decide +kernel
theorem dX10_askGives_1 : decode cX10_askGives 1 = .ok (.getfield 78, 3) := by decide +kernel
theorem dX10_askGives_4 : decode cX10_askGives 4 = .ok (.ifCond .ne 11, 3) := by decide +kernel
theorem dX10_askGives_7 : decode cX10_askGives 7 = .ok (.aload_n 1, 1) := by decide +kernel
theorem dX10_askGives_8 : decode cX10_askGives 8 = .ok (.getfield 268, 3) := by decide +kernel
theorem dX10_askGives_11 : decode cX10_askGives 11 = .ok (.iconst 1, 1) := by decide +kernel
theorem dX10_askGives_12 : decode cX10_askGives 12 = .ok (.if_icmp .eq 4, 3) := by decide +kernel
theorem dX10_askGives_15 : decode cX10_askGives 15 = .ok (.return_, 1) := by decide +kernel
theorem dX10_askGives_16 : decode cX10_askGives 16 = .ok (.iload_n 3, 1) := by decide +kernel
theorem dX10_askGives_17 : decode cX10_askGives 17 = .ok (.istore 4, 2) := by decide +kernel
theorem dX10_askGives_19 : decode cX10_askGives 19 = .ok (.iconst 0, 1) := by decide +kernel
theorem dX10_askGives_20 : decode cX10_askGives 20 = .ok (.istore 5, 2) := by decide +kernel
theorem dX10_askGives_22 : decode cX10_askGives 22 = .ok (.iload 5, 2) := by decide +kernel
theorem dX10_askGives_24 : decode cX10_askGives 24 = .ok (.bipush 8, 2) := by decide +kernel
theorem dX10_askGives_26 : decode cX10_askGives 26 = .ok (.if_icmp .ge 107, 3) := by decide +kernel
theorem dX10_askGives_29 : decode cX10_askGives 29 = .ok (.iload 4, 2) := by decide +kernel
theorem dX10_askGives_31 : decode cX10_askGives 31 = .ok (.iconst (-1), 1) := by decide +kernel
theorem dX10_askGives_32 : decode cX10_askGives 32 = .ok (.if_icmp .eq 101, 3) := by decide +kernel
theorem dX10_askGives_35 : decode cX10_askGives 35 = .ok (.aload_n 0, 1) := by decide +kernel
theorem dX10_askGives_36 : decode cX10_askGives 36 = .ok (.iload 4, 2) := by decide +kernel
theorem dX10_askGives_38 : decode cX10_askGives 38 = .ok (.invokevirtual 309, 3) := by decide +kernel
theorem dX10_askGives_41 : decode cX10_askGives 41 = .ok (.istore 6, 2) := by decide +kernel
theorem dX10_askGives_43 : decode cX10_askGives 43 = .ok (.aload_n 0, 1) := by decide +kernel
theorem dX10_askGives_44 : decode cX10_askGives 44 = .ok (.getfield 9, 3) := by decide +kernel
theorem dX10_askGives_47 : decode cX10_askGives 47 = .ok (.getfield 124, 3) := by decide +kernel
theorem dX10_askGives_50 : decode cX10_askGives 50 = .ok (.iload 4, 2) := by decide +kernel
theorem dX10_askGives_52 : decode cX10_askGives 52 = .ok (.aaload, 1) := by decide +kernel
theorem dX10_askGives_53 : decode cX10_askGives 53 = .ok (.getfield 299, 3) := by decide +kernel
theorem dX10_askGives_56 : decode cX10_askGives 56 = .ok (.istore 7, 2) := by decide +kernel
theorem dX10_askGives_58 : decode cX10_askGives 58 = .ok (.iload 7, 2) := by decide +kernel
theorem dX10_askGives_60 : decode cX10_askGives 60 = .ok (.iload 6, 2) := by decide +kernel
theorem dX10_askGives_62 : decode cX10_askGives 62 = .ok (.if_icmp .gt 57, 3) := by decide +kernel
theorem dX10_askGives_65 : decode cX10_askGives 65 = .ok (.aload_n 0, 1) := by decide +kernel
theorem dX10_askGives_66 : decode cX10_askGives 66 = .ok (.getfield 9, 3) := by decide +kernel
theorem dX10_askGives_69 : decode cX10_askGives 69 = .ok (.getfield 312, 3) := by decide +kernel
theorem dX10_askGives_72 : decode cX10_askGives 72 = .ok (.iload 7, 2) := by decide +kernel
theorem dX10_askGives_74 : decode cX10_askGives 74 = .ok (.iaload, 1) := by decide +kernel
theorem dX10_askGives_75 : decode cX10_askGives 75 = .ok (.iconst 2, 1) := by decide +kernel
theorem dX10_askGives_76 : decode cX10_askGives 76 = .ok (.if_icmp .ne 37, 3) := by decide +kernel
theorem dX10_askGives_79 : decode cX10_askGives 79 = .ok (.aload_n 0, 1) := by decide +kernel
theorem dX10_askGives_80 : decode cX10_askGives 80 = .ok (.aload_n 1, 1) := by decide +kernel
theorem dX10_askGives_81 : decode cX10_askGives 81 = .ok (.iload 7, 2) := by decide +kernel
theorem dX10_askGives_83 : decode cX10_askGives 83 = .ok (.iload_n 2, 1) := by decide +kernel
theorem dX10_askGives_84 : decode cX10_askGives 84 = .ok (.invokevirtual 315, 3) := by decide +kernel
theorem dX10_askGives_87 : decode cX10_askGives 87 = .ok (.ifCond .ne 26, 3) := by decide +kernel
theorem dX10_askGives_90 : decode cX10_askGives 90 = .ok (.aload_n 1, 1) := by decide +kernel
theorem dX10_askGives_91 : decode cX10_askGives 91 = .ok (.aload_n 1, 1) := by decide +kernel
theorem dX10_askGives_92 : decode cX10_askGives 92 = .ok (.getfield 78, 3) := by decide +kernel
theorem dX10_askGives_95 : decode cX10_askGives 95 = .ok (.ifCond .ne 7, 3) := by decide +kernel
theorem dX10_askGives_98 : decode cX10_askGives 98 = .ok (.iconst 1, 1) := by decide +kernel
theorem dX10_askGives_99 : decode cX10_askGives 99 = .ok (.goto 7, 3) := by decide +kernel
theorem dX10_askGives_102 : decode cX10_askGives 102 = .ok (.aload_n 1, 1) := by decide +kernel
theorem dX10_askGives_103 : decode cX10_askGives 103 = .ok (.getfield 78, 3) := by decide +kernel
theorem dX10_askGives_106 : decode cX10_askGives 106 = .ok (.iload 7, 2) := by decide +kernel
theorem dX10_askGives_108 : decode cX10_askGives 108 = .ok (.iload_n 2, 1) := by decide +kernel
theorem dX10_askGives_109 : decode cX10_askGives 109 = .ok (.invokevirtual 289, 3) := by decide +kernel
theorem dX10_askGives_112 : decode cX10_askGives 112 = .ok (.return_, 1) := by decide +kernel
theorem dX10_askGives_113 : decode cX10_askGives 113 = .ok (.iinc 7 1, 3) := by decide +kernel
theorem dX10_askGives_116 : decode cX10_askGives 116 = .ok (.goto (-58), 3) := by decide +kernel
theorem dX10_askGives_119 : decode cX10_askGives 119 = .ok (.aload_n 0, 1) := by decide +kernel
theorem dX10_askGives_120 : decode cX10_askGives 120 = .ok (.iload 4, 2) := by decide +kernel
theorem dX10_askGives_122 : decode cX10_askGives 122 = .ok (.invokevirtual 319, 3) := by decide +kernel
theorem dX10_askGives_125 : decode cX10_askGives 125 = .ok (.istore 4, 2) := by decide +kernel
theorem dX10_askGives_127 : decode cX10_askGives 127 = .ok (.iinc 5 1, 3) := by decide +kernel
theorem dX10_askGives_130 : decode cX10_askGives 130 = .ok (.goto (-108), 3) := by decide +kernel
theorem dX10_askGives_133 : decode cX10_askGives 133 = .ok (.return_, 1) := by decide +kernel
theorem dX10_askKept_0 : decode cX10_askKept 0 = .ok (.aload_n 1, 1) := by decide +kernel
theorem dX10_askKept_1 : decode cX10_askKept 1 = .ok (.getfield 78, 3) := by decide +kernel
theorem dX10_askKept_4 : decode cX10_askKept 4 = .ok (.ifCond .eq 4, 3) := by decide +kernel
theorem dX10_askKept_7 : decode cX10_askKept 7 = .ok (.return_, 1) := by decide +kernel
theorem dX10_askKept_8 : decode cX10_askKept 8 = .ok (.aload_n 1, 1) := by decide +kernel
theorem dX10_askKept_9 : decode cX10_askKept 9 = .ok (.getfield 199, 3) := by decide +kernel
theorem dX10_askKept_12 : decode cX10_askKept 12 = .ok (.iload_n 2, 1) := by decide +kernel
theorem dX10_askKept_13 : decode cX10_askKept 13 = .ok (.iaload, 1) := by decide +kernel
theorem dX10_askKept_14 : decode cX10_askKept 14 = .ok (.istore_n 3, 1) := by decide +kernel
theorem dX10_askKept_15 : decode cX10_askKept 15 = .ok (.aload_n 1, 1) := by decide +kernel
theorem dX10_askKept_16 : decode cX10_askKept 16 = .ok (.getfield 205, 3) := by decide +kernel
theorem dX10_askKept_19 : decode cX10_askKept 19 = .ok (.iload_n 2, 1) := by decide +kernel
theorem dX10_askKept_20 : decode cX10_askKept 20 = .ok (.aaload, 1) := by decide +kernel
theorem dX10_askKept_21 : decode cX10_askKept 21 = .ok (.astore 4, 2) := by decide +kernel
theorem dX10_askKept_23 : decode cX10_askKept 23 = .ok (.aload_n 0, 1) := by decide +kernel
theorem dX10_askKept_24 : decode cX10_askKept 24 = .ok (.getfield 18, 3) := by decide +kernel
theorem dX10_askKept_27 : decode cX10_askKept 27 = .ok (.aload_n 0, 1) := by decide +kernel
theorem dX10_askKept_28 : decode cX10_askKept 28 = .ok (.getfield 9, 3) := by decide +kernel
theorem dX10_askKept_31 : decode cX10_askKept 31 = .ok (.aload_n 0, 1) := by decide +kernel
theorem dX10_askKept_32 : decode cX10_askKept 32 = .ok (.getfield 9, 3) := by decide +kernel
theorem dX10_askKept_35 : decode cX10_askKept 35 = .ok (.getfield 105, 3) := by decide +kernel
theorem dX10_askKept_38 : decode cX10_askKept 38 = .ok (.iload_n 3, 1) := by decide +kernel
theorem dX10_askKept_39 : decode cX10_askKept 39 = .ok (.aaload, 1) := by decide +kernel
theorem dX10_askKept_40 : decode cX10_askKept 40 = .ok (.aload 4, 2) := by decide +kernel
theorem dX10_askKept_42 : decode cX10_askKept 42 = .ok (.aload 4, 2) := by decide +kernel
theorem dX10_askKept_44 : decode cX10_askKept 44 = .ok (.aload 4, 2) := by decide +kernel
theorem dX10_askKept_46 : decode cX10_askKept 46 = .ok (.invokevirtual 234, 3) := by decide +kernel
theorem dX10_askKept_49 : decode cX10_askKept 49 = .ok (.iconst 0, 1) := by decide +kernel
theorem dX10_askKept_50 : decode cX10_askKept 50 = .ok (.istore 5, 2) := by decide +kernel
theorem dX10_askKept_52 : decode cX10_askKept 52 = .ok (.iload 5, 2) := by decide +kernel
theorem dX10_askKept_54 : decode cX10_askKept 54 = .ok (.bipush 8, 2) := by decide +kernel
theorem dX10_askKept_56 : decode cX10_askKept 56 = .ok (.if_icmp .ge 112, 3) := by decide +kernel
theorem dX10_askKept_59 : decode cX10_askKept 59 = .ok (.aload_n 0, 1) := by decide +kernel
theorem dX10_askKept_60 : decode cX10_askKept 60 = .ok (.getfield 9, 3) := by decide +kernel
theorem dX10_askKept_63 : decode cX10_askKept 63 = .ok (.iload_n 3, 1) := by decide +kernel
theorem dX10_askKept_64 : decode cX10_askKept 64 = .ok (.invokevirtual 192, 3) := by decide +kernel
theorem dX10_askKept_67 : decode cX10_askKept 67 = .ok (.ifCond .eq 101, 3) := by decide +kernel
theorem dX10_askKept_70 : decode cX10_askKept 70 = .ok (.aload_n 0, 1) := by decide +kernel
theorem dX10_askKept_71 : decode cX10_askKept 71 = .ok (.getfield 9, 3) := by decide +kernel
theorem dX10_askKept_74 : decode cX10_askKept 74 = .ok (.getfield 105, 3) := by decide +kernel
theorem dX10_askKept_77 : decode cX10_askKept 77 = .ok (.iload_n 3, 1) := by decide +kernel
theorem dX10_askKept_78 : decode cX10_askKept 78 = .ok (.aaload, 1) := by decide +kernel
theorem dX10_askKept_79 : decode cX10_askKept 79 = .ok (.astore 6, 2) := by decide +kernel
theorem dX10_askKept_81 : decode cX10_askKept 81 = .ok (.aload 6, 2) := by decide +kernel
theorem dX10_askKept_83 : decode cX10_askKept 83 = .ok (.getfield 342, 3) := by decide +kernel
theorem dX10_askKept_86 : decode cX10_askKept 86 = .ok (.istore 7, 2) := by decide +kernel
theorem dX10_askKept_88 : decode cX10_askKept 88 = .ok (.iload 7, 2) := by decide +kernel
theorem dX10_askKept_90 : decode cX10_askKept 90 = .ok (.aload 6, 2) := by decide +kernel
theorem dX10_askKept_92 : decode cX10_askKept 92 = .ok (.getfield 342, 3) := by decide +kernel
theorem dX10_askKept_95 : decode cX10_askKept 95 = .ok (.aload 6, 2) := by decide +kernel
theorem dX10_askKept_97 : decode cX10_askKept 97 = .ok (.getfield 345, 3) := by decide +kernel
theorem dX10_askKept_100 : decode cX10_askKept 100 = .ok (.iadd, 1) := by decide +kernel
theorem dX10_askKept_101 : decode cX10_askKept 101 = .ok (.if_icmp .ge 55, 3) := by decide +kernel
theorem dX10_askKept_104 : decode cX10_askKept 104 = .ok (.iload 7, 2) := by decide +kernel
theorem dX10_askKept_106 : decode cX10_askKept 106 = .ok (.aload_n 0, 1) := by decide +kernel
theorem dX10_askKept_107 : decode cX10_askKept 107 = .ok (.getfield 9, 3) := by decide +kernel
theorem dX10_askKept_110 : decode cX10_askKept 110 = .ok (.getfield 305, 3) := by decide +kernel
theorem dX10_askKept_113 : decode cX10_askKept 113 = .ok (.if_icmp .ge 43, 3) := by decide +kernel
theorem dX10_askKept_116 : decode cX10_askKept 116 = .ok (.aload_n 0, 1) := by decide +kernel
theorem dX10_askKept_117 : decode cX10_askKept 117 = .ok (.aload_n 1, 1) := by decide +kernel
theorem dX10_askKept_118 : decode cX10_askKept 118 = .ok (.iload 7, 2) := by decide +kernel
theorem dX10_askKept_120 : decode cX10_askKept 120 = .ok (.iload_n 2, 1) := by decide +kernel
theorem dX10_askKept_121 : decode cX10_askKept 121 = .ok (.invokevirtual 315, 3) := by decide +kernel
theorem dX10_askKept_124 : decode cX10_askKept 124 = .ok (.ifCond .ne 26, 3) := by decide +kernel
theorem dX10_askKept_127 : decode cX10_askKept 127 = .ok (.aload_n 1, 1) := by decide +kernel
theorem dX10_askKept_128 : decode cX10_askKept 128 = .ok (.aload_n 1, 1) := by decide +kernel
theorem dX10_askKept_129 : decode cX10_askKept 129 = .ok (.getfield 78, 3) := by decide +kernel
theorem dX10_askKept_132 : decode cX10_askKept 132 = .ok (.ifCond .ne 7, 3) := by decide +kernel
theorem dX10_askKept_135 : decode cX10_askKept 135 = .ok (.iconst 2, 1) := by decide +kernel
theorem dX10_askKept_136 : decode cX10_askKept 136 = .ok (.goto 7, 3) := by decide +kernel
theorem dX10_askKept_139 : decode cX10_askKept 139 = .ok (.aload_n 1, 1) := by decide +kernel
theorem dX10_askKept_140 : decode cX10_askKept 140 = .ok (.getfield 78, 3) := by decide +kernel
theorem dX10_askKept_143 : decode cX10_askKept 143 = .ok (.iload 7, 2) := by decide +kernel
theorem dX10_askKept_145 : decode cX10_askKept 145 = .ok (.iload_n 2, 1) := by decide +kernel
theorem dX10_askKept_146 : decode cX10_askKept 146 = .ok (.invokevirtual 289, 3) := by decide +kernel
theorem dX10_askKept_149 : decode cX10_askKept 149 = .ok (.return_, 1) := by decide +kernel
theorem dX10_askKept_150 : decode cX10_askKept 150 = .ok (.iinc 7 1, 3) := by decide +kernel
theorem dX10_askKept_153 : decode cX10_askKept 153 = .ok (.goto (-65), 3) := by decide +kernel
theorem dX10_askKept_156 : decode cX10_askKept 156 = .ok (.aload 6, 2) := by decide +kernel
theorem dX10_askKept_158 : decode cX10_askKept 158 = .ok (.getfield 348, 3) := by decide +kernel
theorem dX10_askKept_161 : decode cX10_askKept 161 = .ok (.istore_n 3, 1) := by decide +kernel
theorem dX10_askKept_162 : decode cX10_askKept 162 = .ok (.iinc 5 1, 3) := by decide +kernel
theorem dX10_askKept_165 : decode cX10_askKept 165 = .ok (.goto (-113), 3) := by decide +kernel
theorem dX10_askKept_168 : decode cX10_askKept 168 = .ok (.return_, 1) := by decide +kernel
theorem dX10_askModel_0 : decode cX10_askModel 0 = .ok (.aload_n 1, 1) := by decide +kernel
theorem dX10_askModel_1 : decode cX10_askModel 1 = .ok (.getfield 202, 3) := by decide +kernel
theorem dX10_askModel_4 : decode cX10_askModel 4 = .ok (.iload_n 2, 1) := by decide +kernel
theorem dX10_askModel_5 : decode cX10_askModel 5 = .ok (.iaload, 1) := by decide +kernel
theorem dX10_askModel_6 : decode cX10_askModel 6 = .ok (.istore 5, 2) := by decide +kernel
theorem dX10_askModel_8 : decode cX10_askModel 8 = .ok (.aload_n 1, 1) := by decide +kernel
theorem dX10_askModel_9 : decode cX10_askModel 9 = .ok (.getfield 78, 3) := by decide +kernel
theorem dX10_askModel_12 : decode cX10_askModel 12 = .ok (.ifCond .ne 15, 3) := by decide +kernel
theorem dX10_askModel_15 : decode cX10_askModel 15 = .ok (.aload_n 0, 1) := by decide +kernel
theorem dX10_askModel_16 : decode cX10_askModel 16 = .ok (.getfield 9, 3) := by decide +kernel
theorem dX10_askModel_19 : decode cX10_askModel 19 = .ok (.iload 5, 2) := by decide +kernel
theorem dX10_askModel_21 : decode cX10_askModel 21 = .ok (.invokevirtual 192, 3) := by decide +kernel
theorem dX10_askModel_24 : decode cX10_askModel 24 = .ok (.ifCond .ne 4, 3) := by decide +kernel
theorem dX10_askModel_27 : decode cX10_askModel 27 = .ok (.return_, 1) := by decide +kernel
theorem dX10_askModel_28 : decode cX10_askModel 28 = .ok (.aload_n 0, 1) := by decide +kernel
theorem dX10_askModel_29 : decode cX10_askModel 29 = .ok (.getfield 9, 3) := by decide +kernel
theorem dX10_askModel_32 : decode cX10_askModel 32 = .ok (.getfield 105, 3) := by decide +kernel
theorem dX10_askModel_35 : decode cX10_askModel 35 = .ok (.iload 5, 2) := by decide +kernel
theorem dX10_askModel_37 : decode cX10_askModel 37 = .ok (.aaload, 1) := by decide +kernel
theorem dX10_askModel_38 : decode cX10_askModel 38 = .ok (.astore 6, 2) := by decide +kernel
theorem dX10_askModel_40 : decode cX10_askModel 40 = .ok (.aload_n 0, 1) := by decide +kernel
theorem dX10_askModel_41 : decode cX10_askModel 41 = .ok (.getfield 9, 3) := by decide +kernel
theorem dX10_askModel_44 : decode cX10_askModel 44 = .ok (.aload 6, 2) := by decide +kernel
theorem dX10_askModel_46 : decode cX10_askModel 46 = .ok (.aload_n 3, 1) := by decide +kernel
theorem dX10_askModel_47 : decode cX10_askModel 47 = .ok (.getfield 351, 3) := by decide +kernel
theorem dX10_askModel_50 : decode cX10_askModel 50 = .ok (.invokevirtual 354, 3) := by decide +kernel
theorem dX10_askModel_53 : decode cX10_askModel 53 = .ok (.istore 7, 2) := by decide +kernel
theorem dX10_askModel_55 : decode cX10_askModel 55 = .ok (.iload 7, 2) := by decide +kernel
theorem dX10_askModel_57 : decode cX10_askModel 57 = .ok (.iconst (-1), 1) := by decide +kernel
theorem dX10_askModel_58 : decode cX10_askModel 58 = .ok (.if_icmp .eq 29, 3) := by decide +kernel
theorem dX10_askModel_61 : decode cX10_askModel 61 = .ok (.aload_n 0, 1) := by decide +kernel
theorem dX10_askModel_62 : decode cX10_askModel 62 = .ok (.getfield 9, 3) := by decide +kernel
theorem dX10_askModel_65 : decode cX10_askModel 65 = .ok (.getfield 124, 3) := by decide +kernel
theorem dX10_askModel_68 : decode cX10_askModel 68 = .ok (.aload 6, 2) := by decide +kernel
theorem dX10_askModel_70 : decode cX10_askModel 70 = .ok (.getfield 128, 3) := by decide +kernel
theorem dX10_askModel_73 : decode cX10_askModel 73 = .ok (.iload 7, 2) := by decide +kernel
theorem dX10_askModel_75 : decode cX10_askModel 75 = .ok (.iaload, 1) := by decide +kernel
theorem dX10_askModel_76 : decode cX10_askModel 76 = .ok (.aaload, 1) := by decide +kernel
theorem dX10_askModel_77 : decode cX10_askModel 77 = .ok (.getfield 136, 3) := by decide +kernel
theorem dX10_askModel_80 : decode cX10_askModel 80 = .ok (.aload_n 3, 1) := by decide +kernel
theorem dX10_askModel_81 : decode cX10_askModel 81 = .ok (.getfield 136, 3) := by decide +kernel
theorem dX10_askModel_84 : decode cX10_askModel 84 = .ok (.if_icmp .eq 4, 3) := by decide +kernel
theorem dX10_askModel_87 : decode cX10_askModel 87 = .ok (.return_, 1) := by decide +kernel
theorem dX10_askModel_88 : decode cX10_askModel 88 = .ok (.aload_n 1, 1) := by decide +kernel
theorem dX10_askModel_89 : decode cX10_askModel 89 = .ok (.getfield 280, 3) := by decide +kernel
theorem dX10_askModel_92 : decode cX10_askModel 92 = .ok (.lstore 8, 2) := by decide +kernel
theorem dX10_askModel_94 : decode cX10_askModel 94 = .ok (.aload_n 0, 1) := by decide +kernel
theorem dX10_askModel_95 : decode cX10_askModel 95 = .ok (.getfield 18, 3) := by decide +kernel
theorem dX10_askModel_98 : decode cX10_askModel 98 = .ok (.aload_n 0, 1) := by decide +kernel
theorem dX10_askModel_99 : decode cX10_askModel 99 = .ok (.getfield 9, 3) := by decide +kernel
theorem dX10_askModel_102 : decode cX10_askModel 102 = .ok (.aload 6, 2) := by decide +kernel
theorem dX10_askModel_104 : decode cX10_askModel 104 = .ok (.aload_n 1, 1) := by decide +kernel
theorem dX10_askModel_105 : decode cX10_askModel 105 = .ok (.getfield 212, 3) := by decide +kernel
theorem dX10_askModel_108 : decode cX10_askModel 108 = .ok (.iload_n 2, 1) := by decide +kernel
theorem dX10_askModel_109 : decode cX10_askModel 109 = .ok (.aaload, 1) := by decide +kernel
theorem dX10_askModel_110 : decode cX10_askModel 110 = .ok (.aload_n 1, 1) := by decide +kernel
theorem dX10_askModel_111 : decode cX10_askModel 111 = .ok (.getfield 212, 3) := by decide +kernel
theorem dX10_askModel_114 : decode cX10_askModel 114 = .ok (.iload_n 2, 1) := by decide +kernel
theorem dX10_askModel_115 : decode cX10_askModel 115 = .ok (.aaload, 1) := by decide +kernel
theorem dX10_askModel_116 : decode cX10_askModel 116 = .ok (.aload 4, 2) := by decide +kernel
theorem dX10_askModel_118 : decode cX10_askModel 118 = .ok (.invokevirtual 234, 3) := by decide +kernel
theorem dX10_askModel_121 : decode cX10_askModel 121 = .ok (.aload_n 0, 1) := by decide +kernel
theorem dX10_askModel_122 : decode cX10_askModel 122 = .ok (.getfield 18, 3) := by decide +kernel
theorem dX10_askModel_125 : decode cX10_askModel 125 = .ok (.aload_n 0, 1) := by decide +kernel
theorem dX10_askModel_126 : decode cX10_askModel 126 = .ok (.getfield 9, 3) := by decide +kernel
theorem dX10_askModel_129 : decode cX10_askModel 129 = .ok (.getfield 124, 3) := by decide +kernel
theorem dX10_askModel_132 : decode cX10_askModel 132 = .ok (.aload 6, 2) := by decide +kernel
theorem dX10_askModel_134 : decode cX10_askModel 134 = .ok (.getfield 128, 3) := by decide +kernel
theorem dX10_askModel_137 : decode cX10_askModel 137 = .ok (.iload 7, 2) := by decide +kernel
theorem dX10_askModel_139 : decode cX10_askModel 139 = .ok (.iaload, 1) := by decide +kernel
theorem dX10_askModel_140 : decode cX10_askModel 140 = .ok (.aaload, 1) := by decide +kernel
theorem dX10_askModel_141 : decode cX10_askModel 141 = .ok (.invokevirtual 242, 3) := by decide +kernel
theorem dX10_askModel_144 : decode cX10_askModel 144 = .ok (.aload_n 0, 1) := by decide +kernel
theorem dX10_askModel_145 : decode cX10_askModel 145 = .ok (.getfield 18, 3) := by decide +kernel
theorem dX10_askModel_148 : decode cX10_askModel 148 = .ok (.invokevirtual 246, 3) := by decide +kernel
theorem dX10_askModel_151 : decode cX10_askModel 151 = .ok (.aload_n 0, 1) := by decide +kernel
theorem dX10_askModel_152 : decode cX10_askModel 152 = .ok (.getfield 18, 3) := by decide +kernel
theorem dX10_askModel_155 : decode cX10_askModel 155 = .ok (.getfield 265, 3) := by decide +kernel
theorem dX10_askModel_158 : decode cX10_askModel 158 = .ok (.aload_n 1, 1) := by decide +kernel
theorem dX10_askModel_159 : decode cX10_askModel 159 = .ok (.getfield 268, 3) := by decide +kernel
theorem dX10_askModel_162 : decode cX10_askModel 162 = .ok (.if_icmp .ne 7, 3) := by decide +kernel
theorem dX10_askModel_165 : decode cX10_askModel 165 = .ok (.iconst 1, 1) := by decide +kernel
theorem dX10_askModel_166 : decode cX10_askModel 166 = .ok (.goto 4, 3) := by decide +kernel
theorem dX10_askModel_169 : decode cX10_askModel 169 = .ok (.iconst 0, 1) := by decide +kernel
theorem dX10_askModel_170 : decode cX10_askModel 170 = .ok (.istore 10, 2) := by decide +kernel
theorem dX10_askModel_172 : decode cX10_askModel 172 = .ok (.aload_n 0, 1) := by decide +kernel
theorem dX10_askModel_173 : decode cX10_askModel 173 = .ok (.getfield 18, 3) := by decide +kernel
theorem dX10_askModel_176 : decode cX10_askModel 176 = .ok (.getfield 265, 3) := by decide +kernel
theorem dX10_askModel_179 : decode cX10_askModel 179 = .ok (.iconst 2, 1) := by decide +kernel
theorem dX10_askModel_180 : decode cX10_askModel 180 = .ok (.if_icmp .ne 42, 3) := by decide +kernel
theorem dX10_askModel_183 : decode cX10_askModel 183 = .ok (.aload_n 1, 1) := by decide +kernel
theorem dX10_askModel_184 : decode cX10_askModel 184 = .ok (.aload_n 0, 1) := by decide +kernel
theorem dX10_askModel_185 : decode cX10_askModel 185 = .ok (.getfield 18, 3) := by decide +kernel
theorem dX10_askModel_188 : decode cX10_askModel 188 = .ok (.getfield 276, 3) := by decide +kernel
theorem dX10_askModel_191 : decode cX10_askModel 191 = .ok (.putfield 280, 3) := by decide +kernel
theorem dX10_askModel_194 : decode cX10_askModel 194 = .ok (.iload 10, 2) := by decide +kernel
theorem dX10_askModel_196 : decode cX10_askModel 196 = .ok (.ifCond .eq 20, 3) := by decide +kernel
theorem dX10_askModel_199 : decode cX10_askModel 199 = .ok (.aload_n 0, 1) := by decide +kernel
theorem dX10_askModel_200 : decode cX10_askModel 200 = .ok (.getfield 18, 3) := by decide +kernel
theorem dX10_askModel_203 : decode cX10_askModel 203 = .ok (.getfield 276, 3) := by decide +kernel
theorem dX10_askModel_206 : decode cX10_askModel 206 = .ok (.lload 8, 2) := by decide +kernel
theorem dX10_askModel_208 : decode cX10_askModel 208 = .ok (.lcmp, 1) := by decide +kernel
theorem dX10_askModel_209 : decode cX10_askModel 209 = .ok (.ifCond .ne 7, 3) := by decide +kernel
theorem dX10_askModel_212 : decode cX10_askModel 212 = .ok (.iconst 1, 1) := by decide +kernel
theorem dX10_askModel_213 : decode cX10_askModel 213 = .ok (.goto 4, 3) := by decide +kernel
theorem dX10_askModel_216 : decode cX10_askModel 216 = .ok (.iconst 0, 1) := by decide +kernel
theorem dX10_askModel_217 : decode cX10_askModel 217 = .ok (.istore 10, 2) := by decide +kernel
theorem dX10_askModel_219 : decode cX10_askModel 219 = .ok (.goto 29, 3) := by decide +kernel
theorem dX10_askModel_222 : decode cX10_askModel 222 = .ok (.iload 10, 2) := by decide +kernel
theorem dX10_askModel_224 : decode cX10_askModel 224 = .ok (.ifCond .eq 21, 3) := by decide +kernel
theorem dX10_askModel_227 : decode cX10_askModel 227 = .ok (.aload_n 0, 1) := by decide +kernel
theorem dX10_askModel_228 : decode cX10_askModel 228 = .ok (.getfield 18, 3) := by decide +kernel
theorem dX10_askModel_231 : decode cX10_askModel 231 = .ok (.getfield 269, 3) := by decide +kernel
theorem dX10_askModel_234 : decode cX10_askModel 234 = .ok (.aload_n 1, 1) := by decide +kernel
theorem dX10_askModel_235 : decode cX10_askModel 235 = .ok (.getfield 272, 3) := by decide +kernel
theorem dX10_askModel_238 : decode cX10_askModel 238 = .ok (.if_icmp .ne 7, 3) := by decide +kernel
theorem dX10_askModel_241 : decode cX10_askModel 241 = .ok (.iconst 1, 1) := by decide +kernel
theorem dX10_askModel_242 : decode cX10_askModel 242 = .ok (.goto 4, 3) := by decide +kernel
theorem dX10_askModel_245 : decode cX10_askModel 245 = .ok (.iconst 0, 1) := by decide +kernel
theorem dX10_askModel_246 : decode cX10_askModel 246 = .ok (.istore 10, 2) := by decide +kernel
theorem dX10_askModel_248 : decode cX10_askModel 248 = .ok (.aload_n 1, 1) := by decide +kernel
theorem dX10_askModel_249 : decode cX10_askModel 249 = .ok (.iload 10, 2) := by decide +kernel
theorem dX10_askModel_251 : decode cX10_askModel 251 = .ok (.ifCond .eq 7, 3) := by decide +kernel
theorem dX10_askModel_254 : decode cX10_askModel 254 = .ok (.iconst 0, 1) := by decide +kernel
theorem dX10_askModel_255 : decode cX10_askModel 255 = .ok (.goto 5, 3) := by decide +kernel
theorem dX10_askModel_258 : decode cX10_askModel 258 = .ok (.bipush 6, 2) := by decide +kernel
theorem dX10_askModel_260 : decode cX10_askModel 260 = .ok (.putfield 78, 3) := by decide +kernel
theorem dX10_askModel_263 : decode cX10_askModel 263 = .ok (.return_, 1) := by decide +kernel
theorem dX11_feed_0 : decode cX11_feed 0 = .ok (.aload_n 0, 1) := by decide +kernel
theorem dX11_feed_1 : decode cX11_feed 1 = .ok (.getfield 13, 3) := by decide +kernel
theorem dX11_feed_4 : decode cX11_feed 4 = .ok (.bipush 20, 2) := by decide +kernel
theorem dX11_feed_6 : decode cX11_feed 6 = .ok (.iadd, 1) := by decide +kernel
theorem dX11_feed_7 : decode cX11_feed 7 = .ok (.sipush 4000, 3) := by decide +kernel
theorem dX11_feed_10 : decode cX11_feed 10 = .ok (.if_icmp .le 6, 3) := by decide +kernel
theorem dX11_feed_13 : decode cX11_feed 13 = .ok (.bipush (-3), 2) := by decide +kernel
theorem dX11_feed_15 : decode cX11_feed 15 = .ok (.ireturn, 1) := by decide +kernel
theorem dX11_feed_16 : decode cX11_feed 16 = .ok (.aload_n 0, 1) := by decide +kernel
theorem dX11_feed_17 : decode cX11_feed 17 = .ok (.iload_n 1, 1) := by decide +kernel
theorem dX11_feed_18 : decode cX11_feed 18 = .ok (.invokevirtual 49, 3) := by decide +kernel
theorem dX11_feed_21 : decode cX11_feed 21 = .ok (.aload_n 0, 1) := by decide +kernel
theorem dX11_feed_22 : decode cX11_feed 22 = .ok (.iload_n 2, 1) := by decide +kernel
theorem dX11_feed_23 : decode cX11_feed 23 = .ok (.invokevirtual 49, 3) := by decide +kernel
theorem dX11_feed_26 : decode cX11_feed 26 = .ok (.aload_n 0, 1) := by decide +kernel
theorem dX11_feed_27 : decode cX11_feed 27 = .ok (.iload_n 3, 1) := by decide +kernel
theorem dX11_feed_28 : decode cX11_feed 28 = .ok (.invokevirtual 49, 3) := by decide +kernel
theorem dX11_feed_31 : decode cX11_feed 31 = .ok (.aload_n 0, 1) := by decide +kernel
theorem dX11_feed_32 : decode cX11_feed 32 = .ok (.iload 4, 2) := by decide +kernel
theorem dX11_feed_34 : decode cX11_feed 34 = .ok (.invokevirtual 49, 3) := by decide +kernel
theorem dX11_feed_37 : decode cX11_feed 37 = .ok (.aload_n 0, 1) := by decide +kernel
theorem dX11_feed_38 : decode cX11_feed 38 = .ok (.iload 5, 2) := by decide +kernel
theorem dX11_feed_40 : decode cX11_feed 40 = .ok (.invokevirtual 49, 3) := by decide +kernel
theorem dX11_feed_43 : decode cX11_feed 43 = .ok (.aload_n 0, 1) := by decide +kernel
theorem dX11_feed_44 : decode cX11_feed 44 = .ok (.getfield 13, 3) := by decide +kernel
theorem dX11_feed_47 : decode cX11_feed 47 = .ok (.ireturn, 1) := by decide +kernel
theorem dX11_putBytes_0 : decode cX11_putBytes 0 = .ok (.bipush 24, 2) := by decide +kernel
theorem dX11_putBytes_2 : decode cX11_putBytes 2 = .ok (.istore_n 2, 1) := by decide +kernel
theorem dX11_putBytes_3 : decode cX11_putBytes 3 = .ok (.iload_n 2, 1) := by decide +kernel
theorem dX11_putBytes_4 : decode cX11_putBytes 4 = .ok (.ifCond .lt 42, 3) := by decide +kernel
theorem dX11_putBytes_7 : decode cX11_putBytes 7 = .ok (.aload_n 0, 1) := by decide +kernel
theorem dX11_putBytes_8 : decode cX11_putBytes 8 = .ok (.getfield 13, 3) := by decide +kernel
theorem dX11_putBytes_11 : decode cX11_putBytes 11 = .ok (.sipush 4000, 3) := by decide +kernel
theorem dX11_putBytes_14 : decode cX11_putBytes 14 = .ok (.if_icmp .ge 32, 3) := by decide +kernel
theorem dX11_putBytes_17 : decode cX11_putBytes 17 = .ok (.aload_n 0, 1) := by decide +kernel
theorem dX11_putBytes_18 : decode cX11_putBytes 18 = .ok (.getfield 9, 3) := by decide +kernel
theorem dX11_putBytes_21 : decode cX11_putBytes 21 = .ok (.aload_n 0, 1) := by decide +kernel
theorem dX11_putBytes_22 : decode cX11_putBytes 22 = .ok (.getfield 13, 3) := by decide +kernel
theorem dX11_putBytes_25 : decode cX11_putBytes 25 = .ok (.iload_n 1, 1) := by decide +kernel
theorem dX11_putBytes_26 : decode cX11_putBytes 26 = .ok (.iload_n 2, 1) := by decide +kernel
theorem dX11_putBytes_27 : decode cX11_putBytes 27 = .ok (.iushr, 1) := by decide +kernel
theorem dX11_putBytes_28 : decode cX11_putBytes 28 = .ok (.i2b, 1) := by decide +kernel
theorem dX11_putBytes_29 : decode cX11_putBytes 29 = .ok (.bastore, 1) := by decide +kernel
theorem dX11_putBytes_30 : decode cX11_putBytes 30 = .ok (.aload_n 0, 1) := by decide +kernel
theorem dX11_putBytes_31 : decode cX11_putBytes 31 = .ok (.dup, 1) := by decide +kernel
theorem dX11_putBytes_32 : decode cX11_putBytes 32 = .ok (.getfield 13, 3) := by decide +kernel
theorem dX11_putBytes_35 : decode cX11_putBytes 35 = .ok (.iconst 1, 1) := by decide +kernel
theorem dX11_putBytes_36 : decode cX11_putBytes 36 = .ok (.iadd, 1) := by decide +kernel
theorem dX11_putBytes_37 : decode cX11_putBytes 37 = .ok (.putfield 13, 3) := by decide +kernel
theorem dX11_putBytes_40 : decode cX11_putBytes 40 = .ok (.iinc 2 (-8), 3) := by decide +kernel
theorem dX11_putBytes_43 : decode cX11_putBytes 43 = .ok (.goto (-40), 3) := by decide +kernel
theorem dX11_putBytes_46 : decode cX11_putBytes 46 = .ok (.return_, 1) := by decide +kernel
theorem dX11_end_0 : decode cX11_end 0 = .ok (.iload_n 1, 1) := by decide +kernel
theorem dX11_end_1 : decode cX11_end 1 = .ok (.ifCond .lt 11, 3) := by decide +kernel
theorem dX11_end_4 : decode cX11_end 4 = .ok (.iload_n 1, 1) := by decide +kernel
theorem dX11_end_5 : decode cX11_end 5 = .ok (.aload_n 0, 1) := by decide +kernel
theorem dX11_end_6 : decode cX11_end 6 = .ok (.getfield 13, 3) := by decide +kernel
theorem dX11_end_9 : decode cX11_end 9 = .ok (.if_icmp .le 5, 3) := by decide +kernel
theorem dX11_end_12 : decode cX11_end 12 = .ok (.iconst (-1), 1) := by decide +kernel
theorem dX11_end_13 : decode cX11_end 13 = .ok (.ireturn, 1) := by decide +kernel
theorem dX11_end_14 : decode cX11_end 14 = .ok (.aload_n 0, 1) := by decide +kernel
theorem dX11_end_15 : decode cX11_end 15 = .ok (.iload_n 1, 1) := by decide +kernel
theorem dX11_end_16 : decode cX11_end 16 = .ok (.putfield 13, 3) := by decide +kernel
theorem dX11_end_19 : decode cX11_end 19 = .ok (.iload_n 1, 1) := by decide +kernel
theorem dX11_end_20 : decode cX11_end 20 = .ok (.ireturn, 1) := by decide +kernel
theorem dX11_fault_0 : decode cX11_fault 0 = .ok (.iload_n 1, 1) := by decide +kernel
theorem dX11_fault_1 : decode cX11_fault 1 = .ok (.ifCond .ne 8, 3) := by decide +kernel
theorem dX11_fault_4 : decode cX11_fault 4 = .ok (.aload_n 0, 1) := by decide +kernel
theorem dX11_fault_5 : decode cX11_fault 5 = .ok (.getfield 43, 3) := by decide +kernel
theorem dX11_fault_8 : decode cX11_fault 8 = .ok (.ireturn, 1) := by decide +kernel
theorem dX11_fault_9 : decode cX11_fault 9 = .ok (.iload_n 1, 1) := by decide +kernel
theorem dX11_fault_10 : decode cX11_fault 10 = .ok (.iconst 1, 1) := by decide +kernel
theorem dX11_fault_11 : decode cX11_fault 11 = .ok (.if_icmp .ne 10, 3) := by decide +kernel
theorem dX11_fault_14 : decode cX11_fault 14 = .ok (.aload_n 0, 1) := by decide +kernel
theorem dX11_fault_15 : decode cX11_fault 15 = .ok (.getfield 46, 3) := by decide +kernel
theorem dX11_fault_18 : decode cX11_fault 18 = .ok (.goto 4, 3) := by decide +kernel
theorem dX11_fault_21 : decode cX11_fault 21 = .ok (.iconst (-1), 1) := by decide +kernel
theorem dX11_fault_22 : decode cX11_fault 22 = .ok (.ireturn, 1) := by decide +kernel
theorem dX11_about_0 : decode cX11_about 0 = .ok (.aload_n 0, 1) := by decide +kernel
theorem dX11_about_1 : decode cX11_about 1 = .ok (.getfield 27, 3) := by decide +kernel
theorem dX11_about_4 : decode cX11_about 4 = .ok (.iload_n 1, 1) := by decide +kernel
theorem dX11_about_5 : decode cX11_about 5 = .ok (.invokevirtual 78, 3) := by decide +kernel
theorem dX11_about_8 : decode cX11_about 8 = .ok (.ifCond .ne 5, 3) := by decide +kernel
theorem dX11_about_11 : decode cX11_about 11 = .ok (.iconst (-1), 1) := by decide +kernel
theorem dX11_about_12 : decode cX11_about 12 = .ok (.ireturn, 1) := by decide +kernel
theorem dX11_about_13 : decode cX11_about 13 = .ok (.aload_n 0, 1) := by decide +kernel
theorem dX11_about_14 : decode cX11_about 14 = .ok (.getfield 27, 3) := by decide +kernel
theorem dX11_about_17 : decode cX11_about 17 = .ok (.getfield 82, 3) := by decide +kernel
theorem dX11_about_20 : decode cX11_about 20 = .ok (.iload_n 1, 1) := by decide +kernel
theorem dX11_about_21 : decode cX11_about 21 = .ok (.aaload, 1) := by decide +kernel
theorem dX11_about_22 : decode cX11_about 22 = .ok (.astore_n 3, 1) := by decide +kernel
theorem dX11_about_23 : decode cX11_about 23 = .ok (.iload_n 2, 1) := by decide +kernel
theorem dX11_about_24 : decode cX11_about 24 = .ok (.tableswitch 70 0 5 #[40, 45, 50, 55, 60, 65], 40) := by decide +kernel
theorem dX11_about_64 : decode cX11_about 64 = .ok (.aload_n 3, 1) := by decide +kernel
theorem dX11_about_65 : decode cX11_about 65 = .ok (.getfield 86, 3) := by decide +kernel
theorem dX11_about_68 : decode cX11_about 68 = .ok (.ireturn, 1) := by decide +kernel
theorem dX11_about_69 : decode cX11_about 69 = .ok (.aload_n 3, 1) := by decide +kernel
theorem dX11_about_70 : decode cX11_about 70 = .ok (.getfield 91, 3) := by decide +kernel
theorem dX11_about_73 : decode cX11_about 73 = .ok (.ireturn, 1) := by decide +kernel
theorem dX11_about_74 : decode cX11_about 74 = .ok (.aload_n 3, 1) := by decide +kernel
theorem dX11_about_75 : decode cX11_about 75 = .ok (.getfield 94, 3) := by decide +kernel
theorem dX11_about_78 : decode cX11_about 78 = .ok (.ireturn, 1) := by decide +kernel
theorem dX11_about_79 : decode cX11_about 79 = .ok (.aload_n 3, 1) := by decide +kernel
theorem dX11_about_80 : decode cX11_about 80 = .ok (.getfield 97, 3) := by decide +kernel
theorem dX11_about_83 : decode cX11_about 83 = .ok (.ireturn, 1) := by decide +kernel
theorem dX11_about_84 : decode cX11_about 84 = .ok (.aload_n 3, 1) := by decide +kernel
theorem dX11_about_85 : decode cX11_about 85 = .ok (.getfield 100, 3) := by decide +kernel
theorem dX11_about_88 : decode cX11_about 88 = .ok (.ireturn, 1) := by decide +kernel
theorem dX11_about_89 : decode cX11_about 89 = .ok (.aload_n 3, 1) := by decide +kernel
theorem dX11_about_90 : decode cX11_about 90 = .ok (.getfield 103, 3) := by decide +kernel
theorem dX11_about_93 : decode cX11_about 93 = .ok (.ireturn, 1) := by decide +kernel
theorem dX11_about_94 : decode cX11_about 94 = .ok (.iconst (-1), 1) := by decide +kernel
theorem dX11_about_95 : decode cX11_about 95 = .ok (.ireturn, 1) := by decide +kernel
theorem dX11_member_0 : decode cX11_member 0 = .ok (.aload_n 0, 1) := by decide +kernel
theorem dX11_member_1 : decode cX11_member 1 = .ok (.getfield 27, 3) := by decide +kernel
theorem dX11_member_4 : decode cX11_member 4 = .ok (.iload_n 1, 1) := by decide +kernel
theorem dX11_member_5 : decode cX11_member 5 = .ok (.iload_n 2, 1) := by decide +kernel
theorem dX11_member_6 : decode cX11_member 6 = .ok (.invokevirtual 106, 3) := by decide +kernel
theorem dX11_member_9 : decode cX11_member 9 = .ok (.ifCond .ne 5, 3) := by decide +kernel
theorem dX11_member_12 : decode cX11_member 12 = .ok (.iconst (-1), 1) := by decide +kernel
theorem dX11_member_13 : decode cX11_member 13 = .ok (.ireturn, 1) := by decide +kernel
theorem dX11_member_14 : decode cX11_member 14 = .ok (.aload_n 0, 1) := by decide +kernel
theorem dX11_member_15 : decode cX11_member 15 = .ok (.getfield 27, 3) := by decide +kernel
theorem dX11_member_18 : decode cX11_member 18 = .ok (.getfield 110, 3) := by decide +kernel
theorem dX11_member_21 : decode cX11_member 21 = .ok (.aload_n 0, 1) := by decide +kernel
theorem dX11_member_22 : decode cX11_member 22 = .ok (.getfield 27, 3) := by decide +kernel
theorem dX11_member_25 : decode cX11_member 25 = .ok (.getfield 82, 3) := by decide +kernel
theorem dX11_member_28 : decode cX11_member 28 = .ok (.iload_n 1, 1) := by decide +kernel
theorem dX11_member_29 : decode cX11_member 29 = .ok (.aaload, 1) := by decide +kernel
theorem dX11_member_30 : decode cX11_member 30 = .ok (.getfield 114, 3) := by decide +kernel
theorem dX11_member_33 : decode cX11_member 33 = .ok (.iload_n 2, 1) := by decide +kernel
theorem dX11_member_34 : decode cX11_member 34 = .ok (.iaload, 1) := by decide +kernel
theorem dX11_member_35 : decode cX11_member 35 = .ok (.aaload, 1) := by decide +kernel
theorem dX11_member_36 : decode cX11_member 36 = .ok (.astore 4, 2) := by decide +kernel
theorem dX11_member_38 : decode cX11_member 38 = .ok (.iload_n 3, 1) := by decide +kernel
theorem dX11_member_39 : decode cX11_member 39 = .ok (.tableswitch 85 0 5 #[37, 43, 49, 55, 65, 79], 37) := by decide +kernel
theorem dX11_member_76 : decode cX11_member 76 = .ok (.aload 4, 2) := by decide +kernel
theorem dX11_member_78 : decode cX11_member 78 = .ok (.getfield 118, 3) := by decide +kernel
theorem dX11_member_81 : decode cX11_member 81 = .ok (.ireturn, 1) := by decide +kernel
theorem dX11_member_82 : decode cX11_member 82 = .ok (.aload 4, 2) := by decide +kernel
theorem dX11_member_84 : decode cX11_member 84 = .ok (.getfield 123, 3) := by decide +kernel
theorem dX11_member_87 : decode cX11_member 87 = .ok (.ireturn, 1) := by decide +kernel
theorem dX11_member_88 : decode cX11_member 88 = .ok (.aload 4, 2) := by decide +kernel
theorem dX11_member_90 : decode cX11_member 90 = .ok (.getfield 126, 3) := by decide +kernel
theorem dX11_member_93 : decode cX11_member 93 = .ok (.ireturn, 1) := by decide +kernel
theorem dX11_member_94 : decode cX11_member 94 = .ok (.aload_n 0, 1) := by decide +kernel
theorem dX11_member_95 : decode cX11_member 95 = .ok (.getfield 27, 3) := by decide +kernel
theorem dX11_member_98 : decode cX11_member 98 = .ok (.aload 4, 2) := by decide +kernel
theorem dX11_member_100 : decode cX11_member 100 = .ok (.invokevirtual 129, 3) := by decide +kernel
theorem dX11_member_103 : decode cX11_member 103 = .ok (.ireturn, 1) := by decide +kernel
theorem dX11_member_104 : decode cX11_member 104 = .ok (.aload 4, 2) := by decide +kernel
theorem dX11_member_106 : decode cX11_member 106 = .ok (.getfield 133, 3) := by decide +kernel
theorem dX11_member_109 : decode cX11_member 109 = .ok (.ifCond .eq 7, 3) := by decide +kernel
theorem dX11_member_112 : decode cX11_member 112 = .ok (.iconst 1, 1) := by decide +kernel
theorem dX11_member_113 : decode cX11_member 113 = .ok (.goto 4, 3) := by decide +kernel
theorem dX11_member_116 : decode cX11_member 116 = .ok (.iconst 0, 1) := by decide +kernel
theorem dX11_member_117 : decode cX11_member 117 = .ok (.ireturn, 1) := by decide +kernel
theorem dX11_member_118 : decode cX11_member 118 = .ok (.aload 4, 2) := by decide +kernel
theorem dX11_member_120 : decode cX11_member 120 = .ok (.getfield 137, 3) := by decide +kernel
theorem dX11_member_123 : decode cX11_member 123 = .ok (.ireturn, 1) := by decide +kernel
theorem dX11_member_124 : decode cX11_member 124 = .ok (.iconst (-1), 1) := by decide +kernel
theorem dX11_member_125 : decode cX11_member 125 = .ok (.ireturn, 1) := by decide +kernel
theorem dX11_model_0 : decode cX11_model 0 = .ok (.aload_n 0, 1) := by decide +kernel
theorem dX11_model_1 : decode cX11_model 1 = .ok (.getfield 27, 3) := by decide +kernel
theorem dX11_model_4 : decode cX11_model 4 = .ok (.iload_n 1, 1) := by decide +kernel
theorem dX11_model_5 : decode cX11_model 5 = .ok (.invokevirtual 78, 3) := by decide +kernel
theorem dX11_model_8 : decode cX11_model 8 = .ok (.ifCond .eq 19, 3) := by decide +kernel
theorem dX11_model_11 : decode cX11_model 11 = .ok (.iload_n 2, 1) := by decide +kernel
theorem dX11_model_12 : decode cX11_model 12 = .ok (.iconst (-1), 1) := by decide +kernel
theorem dX11_model_13 : decode cX11_model 13 = .ok (.if_icmp .eq 17, 3) := by decide +kernel
theorem dX11_model_16 : decode cX11_model 16 = .ok (.aload_n 0, 1) := by decide +kernel
theorem dX11_model_17 : decode cX11_model 17 = .ok (.getfield 27, 3) := by decide +kernel
theorem dX11_model_20 : decode cX11_model 20 = .ok (.iload_n 2, 1) := by decide +kernel
theorem dX11_model_21 : decode cX11_model 21 = .ok (.invokevirtual 78, 3) := by decide +kernel
theorem dX11_model_24 : decode cX11_model 24 = .ok (.ifCond .ne 6, 3) := by decide +kernel
theorem dX11_model_27 : decode cX11_model 27 = .ok (.bipush (-2), 2) := by decide +kernel
theorem dX11_model_29 : decode cX11_model 29 = .ok (.ireturn, 1) := by decide +kernel
theorem dX11_model_30 : decode cX11_model 30 = .ok (.aload_n 0, 1) := by decide +kernel
theorem dX11_model_31 : decode cX11_model 31 = .ok (.getfield 27, 3) := by decide +kernel
theorem dX11_model_34 : decode cX11_model 34 = .ok (.getfield 82, 3) := by decide +kernel
theorem dX11_model_37 : decode cX11_model 37 = .ok (.iload_n 1, 1) := by decide +kernel
theorem dX11_model_38 : decode cX11_model 38 = .ok (.aaload, 1) := by decide +kernel
theorem dX11_model_39 : decode cX11_model 39 = .ok (.iload_n 2, 1) := by decide +kernel
theorem dX11_model_40 : decode cX11_model 40 = .ok (.putfield 103, 3) := by decide +kernel
theorem dX11_model_43 : decode cX11_model 43 = .ok (.iconst 1, 1) := by decide +kernel
theorem dX11_model_44 : decode cX11_model 44 = .ok (.ireturn, 1) := by decide +kernel
theorem dX11_clear_0 : decode cX11_clear 0 = .ok (.aload_n 0, 1) := by decide +kernel
theorem dX11_clear_1 : decode cX11_clear 1 = .ok (.getfield 39, 3) := by decide +kernel
theorem dX11_clear_4 : decode cX11_clear 4 = .ok (.getfield 140, 3) := by decide +kernel
theorem dX11_clear_7 : decode cX11_clear 7 = .ok (.getfield 144, 3) := by decide +kernel
theorem dX11_clear_10 : decode cX11_clear 10 = .ok (.istore_n 1, 1) := by decide +kernel
theorem dX11_clear_11 : decode cX11_clear 11 = .ok (.aload_n 0, 1) := by decide +kernel
theorem dX11_clear_12 : decode cX11_clear 12 = .ok (.getfield 39, 3) := by decide +kernel
theorem dX11_clear_15 : decode cX11_clear 15 = .ok (.invokevirtual 149, 3) := by decide +kernel
theorem dX11_clear_18 : decode cX11_clear 18 = .ok (.iload_n 1, 1) := by decide +kernel
theorem dX11_clear_19 : decode cX11_clear 19 = .ok (.ireturn, 1) := by decide +kernel
theorem dX11_make_0 : decode cX11_make 0 = .ok (.aload_n 0, 1) := by decide +kernel
theorem dX11_make_1 : decode cX11_make 1 = .ok (.getfield 27, 3) := by decide +kernel
theorem dX11_make_4 : decode cX11_make 4 = .ok (.iload_n 1, 1) := by decide +kernel
theorem dX11_make_5 : decode cX11_make 5 = .ok (.invokevirtual 78, 3) := by decide +kernel
theorem dX11_make_8 : decode cX11_make 8 = .ok (.ifCond .ne 6, 3) := by decide +kernel
theorem dX11_make_11 : decode cX11_make 11 = .ok (.bipush (-2), 2) := by decide +kernel
theorem dX11_make_13 : decode cX11_make 13 = .ok (.ireturn, 1) := by decide +kernel
theorem dX11_make_14 : decode cX11_make 14 = .ok (.aload_n 0, 1) := by decide +kernel
theorem dX11_make_15 : decode cX11_make 15 = .ok (.getfield 39, 3) := by decide +kernel
theorem dX11_make_18 : decode cX11_make 18 = .ok (.getfield 140, 3) := by decide +kernel
theorem dX11_make_21 : decode cX11_make 21 = .ok (.invokevirtual 152, 3) := by decide +kernel
theorem dX11_make_24 : decode cX11_make 24 = .ok (.ifCond .ne 6, 3) := by decide +kernel
theorem dX11_make_27 : decode cX11_make 27 = .ok (.bipush (-3), 2) := by decide +kernel
theorem dX11_make_29 : decode cX11_make 29 = .ok (.ireturn, 1) := by decide +kernel
theorem dX11_make_30 : decode cX11_make 30 = .ok (.aload_n 0, 1) := by decide +kernel
theorem dX11_make_31 : decode cX11_make 31 = .ok (.getfield 39, 3) := by decide +kernel
theorem dX11_make_34 : decode cX11_make 34 = .ok (.iload_n 1, 1) := by decide +kernel
theorem dX11_make_35 : decode cX11_make 35 = .ok (.invokevirtual 155, 3) := by decide +kernel
theorem dX11_make_38 : decode cX11_make 38 = .ok (.ireturn, 1) := by decide +kernel
theorem dX11_call_0 : decode cX11_call 0 = .ok (.aload_n 0, 1) := by decide +kernel
theorem dX11_call_1 : decode cX11_call 1 = .ok (.getfield 39, 3) := by decide +kernel
theorem dX11_call_4 : decode cX11_call 4 = .ok (.getfield 140, 3) := by decide +kernel
theorem dX11_call_7 : decode cX11_call 7 = .ok (.aload_n 0, 1) := by decide +kernel
theorem dX11_call_8 : decode cX11_call 8 = .ok (.getfield 27, 3) := by decide +kernel
theorem dX11_call_11 : decode cX11_call 11 = .ok (.iload_n 1, 1) := by decide +kernel
theorem dX11_call_12 : decode cX11_call 12 = .ok (.iload_n 2, 1) := by decide +kernel
theorem dX11_call_13 : decode cX11_call 13 = .ok (.iload_n 3, 1) := by decide +kernel
theorem dX11_call_14 : decode cX11_call 14 = .ok (.iload 4, 2) := by decide +kernel
theorem dX11_call_16 : decode cX11_call 16 = .ok (.iload 5, 2) := by decide +kernel
theorem dX11_call_18 : decode cX11_call 18 = .ok (.invokevirtual 159, 3) := by decide +kernel
theorem dX11_call_21 : decode cX11_call 21 = .ok (.ifCond .ne 6, 3) := by decide +kernel
theorem dX11_call_24 : decode cX11_call 24 = .ok (.bipush (-2), 2) := by decide +kernel
theorem dX11_call_26 : decode cX11_call 26 = .ok (.ireturn, 1) := by decide +kernel
theorem dX11_call_27 : decode cX11_call 27 = .ok (.aload_n 0, 1) := by decide +kernel
theorem dX11_call_28 : decode cX11_call 28 = .ok (.getfield 39, 3) := by decide +kernel
theorem dX11_call_31 : decode cX11_call 31 = .ok (.getfield 140, 3) := by decide +kernel
theorem dX11_call_34 : decode cX11_call 34 = .ok (.invokevirtual 163, 3) := by decide +kernel
theorem dX11_call_37 : decode cX11_call 37 = .ok (.ifCond .ne 6, 3) := by decide +kernel
theorem dX11_call_40 : decode cX11_call 40 = .ok (.bipush (-3), 2) := by decide +kernel
theorem dX11_call_42 : decode cX11_call 42 = .ok (.ireturn, 1) := by decide +kernel
theorem dX11_call_43 : decode cX11_call 43 = .ok (.aload_n 0, 1) := by decide +kernel
theorem dX11_call_44 : decode cX11_call 44 = .ok (.getfield 39, 3) := by decide +kernel
theorem dX11_call_47 : decode cX11_call 47 = .ok (.iload_n 1, 1) := by decide +kernel
theorem dX11_call_48 : decode cX11_call 48 = .ok (.iload_n 2, 1) := by decide +kernel
theorem dX11_call_49 : decode cX11_call 49 = .ok (.iload_n 3, 1) := by decide +kernel
theorem dX11_call_50 : decode cX11_call 50 = .ok (.iload 4, 2) := by decide +kernel
theorem dX11_call_52 : decode cX11_call 52 = .ok (.iload 5, 2) := by decide +kernel
theorem dX11_call_54 : decode cX11_call 54 = .ok (.invokevirtual 166, 3) := by decide +kernel
theorem dX11_call_57 : decode cX11_call 57 = .ok (.ireturn, 1) := by decide +kernel
theorem dX11_run_0 : decode cX11_run 0 = .ok (.aload_n 0, 1) := by decide +kernel
theorem dX11_run_1 : decode cX11_run 1 = .ok (.getfield 39, 3) := by decide +kernel
theorem dX11_run_4 : decode cX11_run 4 = .ok (.getfield 140, 3) := by decide +kernel
theorem dX11_run_7 : decode cX11_run 7 = .ok (.getfield 144, 3) := by decide +kernel
theorem dX11_run_10 : decode cX11_run 10 = .ok (.ifCond .ne 6, 3) := by decide +kernel
theorem dX11_run_13 : decode cX11_run 13 = .ok (.bipush (-2), 2) := by decide +kernel
theorem dX11_run_15 : decode cX11_run 15 = .ok (.ireturn, 1) := by decide +kernel
theorem dX11_run_16 : decode cX11_run 16 = .ok (.aload_n 0, 1) := by decide +kernel
theorem dX11_run_17 : decode cX11_run 17 = .ok (.getfield 39, 3) := by decide +kernel
theorem dX11_run_20 : decode cX11_run 20 = .ok (.invokevirtual 170, 3) := by decide +kernel
theorem dX11_run_23 : decode cX11_run 23 = .ok (.aload_n 0, 1) := by decide +kernel
theorem dX11_run_24 : decode cX11_run 24 = .ok (.getfield 39, 3) := by decide +kernel
theorem dX11_run_27 : decode cX11_run 27 = .ok (.getfield 173, 3) := by decide +kernel
theorem dX11_run_30 : decode cX11_run 30 = .ok (.getfield 177, 3) := by decide +kernel
theorem dX11_run_33 : decode cX11_run 33 = .ok (.ireturn, 1) := by decide +kernel
theorem dX11_draw_0 : decode cX11_draw 0 = .ok (.aload_n 0, 1) := by decide +kernel
theorem dX11_draw_1 : decode cX11_draw 1 = .ok (.getfield 27, 3) := by decide +kernel
theorem dX11_draw_4 : decode cX11_draw 4 = .ok (.iload_n 1, 1) := by decide +kernel
theorem dX11_draw_5 : decode cX11_draw 5 = .ok (.invokevirtual 78, 3) := by decide +kernel
theorem dX11_draw_8 : decode cX11_draw 8 = .ok (.ifCond .eq 14, 3) := by decide +kernel
theorem dX11_draw_11 : decode cX11_draw 11 = .ok (.iload_n 3, 1) := by decide +kernel
theorem dX11_draw_12 : decode cX11_draw 12 = .ok (.iconst 1, 1) := by decide +kernel
theorem dX11_draw_13 : decode cX11_draw 13 = .ok (.if_icmp .lt 9, 3) := by decide +kernel
theorem dX11_draw_16 : decode cX11_draw 16 = .ok (.iload_n 3, 1) := by decide +kernel
theorem dX11_draw_17 : decode cX11_draw 17 = .ok (.bipush 100, 2) := by decide +kernel
theorem dX11_draw_19 : decode cX11_draw 19 = .ok (.if_icmp .le 6, 3) := by decide +kernel
theorem dX11_draw_22 : decode cX11_draw 22 = .ok (.bipush (-2), 2) := by decide +kernel
theorem dX11_draw_24 : decode cX11_draw 24 = .ok (.ireturn, 1) := by decide +kernel
theorem dX11_draw_25 : decode cX11_draw 25 = .ok (.aload_n 0, 1) := by decide +kernel
theorem dX11_draw_26 : decode cX11_draw 26 = .ok (.getfield 39, 3) := by decide +kernel
theorem dX11_draw_29 : decode cX11_draw 29 = .ok (.iload_n 1, 1) := by decide +kernel
theorem dX11_draw_30 : decode cX11_draw 30 = .ok (.iload_n 2, 1) := by decide +kernel
theorem dX11_draw_31 : decode cX11_draw 31 = .ok (.iload_n 3, 1) := by decide +kernel
theorem dX11_draw_32 : decode cX11_draw 32 = .ok (.invokevirtual 182, 3) := by decide +kernel
theorem dX11_draw_35 : decode cX11_draw 35 = .ok (.ireturn, 1) := by decide +kernel
theorem dX11_all_0 : decode cX11_all 0 = .ok (.aload_n 0, 1) := by decide +kernel
theorem dX11_all_1 : decode cX11_all 1 = .ok (.getfield 27, 3) := by decide +kernel
theorem dX11_all_4 : decode cX11_all 4 = .ok (.iload_n 1, 1) := by decide +kernel
theorem dX11_all_5 : decode cX11_all 5 = .ok (.invokevirtual 78, 3) := by decide +kernel
theorem dX11_all_8 : decode cX11_all 8 = .ok (.ifCond .eq 13, 3) := by decide +kernel
theorem dX11_all_11 : decode cX11_all 11 = .ok (.iload_n 2, 1) := by decide +kernel
theorem dX11_all_12 : decode cX11_all 12 = .ok (.iconst 1, 1) := by decide +kernel
theorem dX11_all_13 : decode cX11_all 13 = .ok (.if_icmp .lt 8, 3) := by decide +kernel
theorem dX11_all_16 : decode cX11_all 16 = .ok (.iload_n 2, 1) := by decide +kernel
theorem dX11_all_17 : decode cX11_all 17 = .ok (.iconst 4, 1) := by decide +kernel
theorem dX11_all_18 : decode cX11_all 18 = .ok (.if_icmp .le 6, 3) := by decide +kernel
theorem dX11_all_21 : decode cX11_all 21 = .ok (.bipush (-2), 2) := by decide +kernel
theorem dX11_all_23 : decode cX11_all 23 = .ok (.ireturn, 1) := by decide +kernel
theorem dX11_all_24 : decode cX11_all 24 = .ok (.aload_n 0, 1) := by decide +kernel
theorem dX11_all_25 : decode cX11_all 25 = .ok (.getfield 39, 3) := by decide +kernel
theorem dX11_all_28 : decode cX11_all 28 = .ok (.iload_n 1, 1) := by decide +kernel
theorem dX11_all_29 : decode cX11_all 29 = .ok (.iload_n 2, 1) := by decide +kernel
theorem dX11_all_30 : decode cX11_all 30 = .ok (.invokevirtual 186, 3) := by decide +kernel
theorem dX11_all_33 : decode cX11_all 33 = .ok (.ireturn, 1) := by decide +kernel
theorem dX11_tried_0 : decode cX11_tried 0 = .ok (.aload_n 0, 1) := by decide +kernel
theorem dX11_tried_1 : decode cX11_tried 1 = .ok (.getfield 39, 3) := by decide +kernel
theorem dX11_tried_4 : decode cX11_tried 4 = .ok (.getfield 190, 3) := by decide +kernel
theorem dX11_tried_7 : decode cX11_tried 7 = .ok (.ireturn, 1) := by decide +kernel
theorem dX11_cut_0 : decode cX11_cut 0 = .ok (.aload_n 0, 1) := by decide +kernel
theorem dX11_cut_1 : decode cX11_cut 1 = .ok (.getfield 39, 3) := by decide +kernel
theorem dX11_cut_4 : decode cX11_cut 4 = .ok (.getfield 193, 3) := by decide +kernel
theorem dX11_cut_7 : decode cX11_cut 7 = .ok (.ireturn, 1) := by decide +kernel
theorem dX11_shrink_0 : decode cX11_shrink 0 = .ok (.aload_n 0, 1) := by decide +kernel
theorem dX11_shrink_1 : decode cX11_shrink 1 = .ok (.getfield 39, 3) := by decide +kernel
theorem dX11_shrink_4 : decode cX11_shrink 4 = .ok (.getfield 196, 3) := by decide +kernel
theorem dX11_shrink_7 : decode cX11_shrink 7 = .ok (.ifCond .eq 16, 3) := by decide +kernel
theorem dX11_shrink_10 : decode cX11_shrink 10 = .ok (.aload_n 0, 1) := by decide +kernel
theorem dX11_shrink_11 : decode cX11_shrink 11 = .ok (.getfield 39, 3) := by decide +kernel
theorem dX11_shrink_14 : decode cX11_shrink 14 = .ok (.getfield 173, 3) := by decide +kernel
theorem dX11_shrink_17 : decode cX11_shrink 17 = .ok (.getfield 177, 3) := by decide +kernel
theorem dX11_shrink_20 : decode cX11_shrink 20 = .ok (.ifCond .gt 6, 3) := by decide +kernel
theorem dX11_shrink_23 : decode cX11_shrink 23 = .ok (.bipush (-2), 2) := by decide +kernel
theorem dX11_shrink_25 : decode cX11_shrink 25 = .ok (.ireturn, 1) := by decide +kernel
theorem dX11_shrink_26 : decode cX11_shrink 26 = .ok (.aload_n 0, 1) := by decide +kernel
theorem dX11_shrink_27 : decode cX11_shrink 27 = .ok (.getfield 39, 3) := by decide +kernel
theorem dX11_shrink_30 : decode cX11_shrink 30 = .ok (.invokevirtual 199, 3) := by decide +kernel
theorem dX11_shrink_33 : decode cX11_shrink 33 = .ok (.ireturn, 1) := by decide +kernel
theorem dX11_verdict_0 : decode cX11_verdict 0 = .ok (.aload_n 0, 1) := by decide +kernel
theorem dX11_verdict_1 : decode cX11_verdict 1 = .ok (.getfield 39, 3) := by decide +kernel
theorem dX11_verdict_4 : decode cX11_verdict 4 = .ok (.getfield 173, 3) := by decide +kernel
theorem dX11_verdict_7 : decode cX11_verdict 7 = .ok (.getfield 177, 3) := by decide +kernel
theorem dX11_verdict_10 : decode cX11_verdict 10 = .ok (.ireturn, 1) := by decide +kernel
theorem dX11_condition_0 : decode cX11_condition 0 = .ok (.aload_n 0, 1) := by decide +kernel
theorem dX11_condition_1 : decode cX11_condition 1 = .ok (.getfield 39, 3) := by decide +kernel
theorem dX11_condition_4 : decode cX11_condition 4 = .ok (.getfield 173, 3) := by decide +kernel
theorem dX11_condition_7 : decode cX11_condition 7 = .ok (.astore_n 2, 1) := by decide +kernel
theorem dX11_condition_8 : decode cX11_condition 8 = .ok (.aload_n 2, 1) := by decide +kernel
theorem dX11_condition_9 : decode cX11_condition 9 = .ok (.getfield 202, 3) := by decide +kernel
theorem dX11_condition_12 : decode cX11_condition 12 = .ok (.istore_n 3, 1) := by decide +kernel
theorem dX11_condition_13 : decode cX11_condition 13 = .ok (.iload_n 3, 1) := by decide +kernel
theorem dX11_condition_14 : decode cX11_condition 14 = .ok (.ifCond .lt 14, 3) := by decide +kernel
theorem dX11_condition_17 : decode cX11_condition 17 = .ok (.iload_n 3, 1) := by decide +kernel
theorem dX11_condition_18 : decode cX11_condition 18 = .ok (.aload_n 0, 1) := by decide +kernel
theorem dX11_condition_19 : decode cX11_condition 19 = .ok (.getfield 27, 3) := by decide +kernel
theorem dX11_condition_22 : decode cX11_condition 22 = .ok (.getfield 205, 3) := by decide +kernel
theorem dX11_condition_25 : decode cX11_condition 25 = .ok (.if_icmp .lt 5, 3) := by decide +kernel
theorem dX11_condition_28 : decode cX11_condition 28 = .ok (.iconst (-1), 1) := by decide +kernel
theorem dX11_condition_29 : decode cX11_condition 29 = .ok (.ireturn, 1) := by decide +kernel
theorem dX11_condition_30 : decode cX11_condition 30 = .ok (.iload_n 1, 1) := by decide +kernel
theorem dX11_condition_31 : decode cX11_condition 31 = .ok (.tableswitch 64 0 3 #[29, 39, 44, 54], 29) := by decide +kernel
theorem dX11_condition_60 : decode cX11_condition 60 = .ok (.aload_n 0, 1) := by decide +kernel
theorem dX11_condition_61 : decode cX11_condition 61 = .ok (.getfield 27, 3) := by decide +kernel
theorem dX11_condition_64 : decode cX11_condition 64 = .ok (.getfield 208, 3) := by decide +kernel
theorem dX11_condition_67 : decode cX11_condition 67 = .ok (.iload_n 3, 1) := by decide +kernel
theorem dX11_condition_68 : decode cX11_condition 68 = .ok (.iaload, 1) := by decide +kernel
theorem dX11_condition_69 : decode cX11_condition 69 = .ok (.ireturn, 1) := by decide +kernel
theorem dX11_condition_70 : decode cX11_condition 70 = .ok (.aload_n 2, 1) := by decide +kernel
theorem dX11_condition_71 : decode cX11_condition 71 = .ok (.getfield 211, 3) := by decide +kernel
theorem dX11_condition_74 : decode cX11_condition 74 = .ok (.ireturn, 1) := by decide +kernel
theorem dX11_condition_75 : decode cX11_condition 75 = .ok (.aload_n 0, 1) := by decide +kernel
theorem dX11_condition_76 : decode cX11_condition 76 = .ok (.getfield 27, 3) := by decide +kernel
theorem dX11_condition_79 : decode cX11_condition 79 = .ok (.getfield 214, 3) := by decide +kernel
theorem dX11_condition_82 : decode cX11_condition 82 = .ok (.iload_n 3, 1) := by decide +kernel
theorem dX11_condition_83 : decode cX11_condition 83 = .ok (.iaload, 1) := by decide +kernel
theorem dX11_condition_84 : decode cX11_condition 84 = .ok (.ireturn, 1) := by decide +kernel
theorem dX11_condition_85 : decode cX11_condition 85 = .ok (.aload_n 0, 1) := by decide +kernel
theorem dX11_condition_86 : decode cX11_condition 86 = .ok (.getfield 27, 3) := by decide +kernel
theorem dX11_condition_89 : decode cX11_condition 89 = .ok (.getfield 217, 3) := by decide +kernel
theorem dX11_condition_92 : decode cX11_condition 92 = .ok (.iload_n 3, 1) := by decide +kernel
theorem dX11_condition_93 : decode cX11_condition 93 = .ok (.iaload, 1) := by decide +kernel
theorem dX11_condition_94 : decode cX11_condition 94 = .ok (.ireturn, 1) := by decide +kernel
theorem dX11_condition_95 : decode cX11_condition 95 = .ok (.iconst (-1), 1) := by decide +kernel
theorem dX11_condition_96 : decode cX11_condition 96 = .ok (.ireturn, 1) := by decide +kernel
theorem dX11_changed_0 : decode cX11_changed 0 = .ok (.iload_n 1, 1) := by decide +kernel
theorem dX11_changed_1 : decode cX11_changed 1 = .ok (.ifCond .ne 14, 3) := by decide +kernel
theorem dX11_changed_4 : decode cX11_changed 4 = .ok (.aload_n 0, 1) := by decide +kernel
theorem dX11_changed_5 : decode cX11_changed 5 = .ok (.getfield 39, 3) := by decide +kernel
theorem dX11_changed_8 : decode cX11_changed 8 = .ok (.getfield 173, 3) := by decide +kernel
theorem dX11_changed_11 : decode cX11_changed 11 = .ok (.getfield 220, 3) := by decide +kernel
theorem dX11_changed_14 : decode cX11_changed 14 = .ok (.ireturn, 1) := by decide +kernel
theorem dX11_changed_15 : decode cX11_changed 15 = .ok (.iload_n 1, 1) := by decide +kernel
theorem dX11_changed_16 : decode cX11_changed 16 = .ok (.iconst 1, 1) := by decide +kernel
theorem dX11_changed_17 : decode cX11_changed 17 = .ok (.if_icmp .ne 16, 3) := by decide +kernel
theorem dX11_changed_20 : decode cX11_changed 20 = .ok (.aload_n 0, 1) := by decide +kernel
theorem dX11_changed_21 : decode cX11_changed 21 = .ok (.getfield 39, 3) := by decide +kernel
theorem dX11_changed_24 : decode cX11_changed 24 = .ok (.getfield 173, 3) := by decide +kernel
theorem dX11_changed_27 : decode cX11_changed 27 = .ok (.getfield 223, 3) := by decide +kernel
theorem dX11_changed_30 : decode cX11_changed 30 = .ok (.goto 4, 3) := by decide +kernel
theorem dX11_changed_33 : decode cX11_changed 33 = .ok (.iconst (-1), 1) := by decide +kernel
theorem dX11_changed_34 : decode cX11_changed 34 = .ok (.ireturn, 1) := by decide +kernel
theorem dX11_thrown_0 : decode cX11_thrown 0 = .ok (.aload_n 0, 1) := by decide +kernel
theorem dX11_thrown_1 : decode cX11_thrown 1 = .ok (.getfield 39, 3) := by decide +kernel
theorem dX11_thrown_4 : decode cX11_thrown 4 = .ok (.getfield 173, 3) := by decide +kernel
theorem dX11_thrown_7 : decode cX11_thrown 7 = .ok (.getfield 226, 3) := by decide +kernel
theorem dX11_thrown_10 : decode cX11_thrown 10 = .ok (.iload_n 1, 1) := by decide +kernel
theorem dX11_thrown_11 : decode cX11_thrown 11 = .ok (.invokestatic 230, 3) := by decide +kernel
theorem dX11_thrown_14 : decode cX11_thrown 14 = .ok (.ireturn, 1) := by decide +kernel
theorem dX11_row_0 : decode cX11_row 0 = .ok (.aload_n 0, 1) := by decide +kernel
theorem dX11_row_1 : decode cX11_row 1 = .ok (.getfield 39, 3) := by decide +kernel
theorem dX11_row_4 : decode cX11_row 4 = .ok (.getfield 140, 3) := by decide +kernel
theorem dX11_row_7 : decode cX11_row 7 = .ok (.getfield 144, 3) := by decide +kernel
theorem dX11_row_10 : decode cX11_row 10 = .ok (.ireturn, 1) := by decide +kernel
theorem dX11_told_0 : decode cX11_told 0 = .ok (.aload_n 0, 1) := by decide +kernel
theorem dX11_told_1 : decode cX11_told 1 = .ok (.getfield 39, 3) := by decide +kernel
theorem dX11_told_4 : decode cX11_told 4 = .ok (.getfield 140, 3) := by decide +kernel
theorem dX11_told_7 : decode cX11_told 7 = .ok (.astore_n 3, 1) := by decide +kernel
theorem dX11_told_8 : decode cX11_told 8 = .ok (.iload_n 1, 1) := by decide +kernel
theorem dX11_told_9 : decode cX11_told 9 = .ok (.ifCond .lt 11, 3) := by decide +kernel
theorem dX11_told_12 : decode cX11_told 12 = .ok (.iload_n 1, 1) := by decide +kernel
theorem dX11_told_13 : decode cX11_told 13 = .ok (.aload_n 3, 1) := by decide +kernel
theorem dX11_told_14 : decode cX11_told 14 = .ok (.getfield 144, 3) := by decide +kernel
theorem dX11_told_17 : decode cX11_told 17 = .ok (.if_icmp .lt 5, 3) := by decide +kernel
theorem dX11_told_20 : decode cX11_told 20 = .ok (.iconst (-1), 1) := by decide +kernel
theorem dX11_told_21 : decode cX11_told 21 = .ok (.ireturn, 1) := by decide +kernel
theorem dX11_told_22 : decode cX11_told 22 = .ok (.iload_n 2, 1) := by decide +kernel
theorem dX11_told_23 : decode cX11_told 23 = .ok (.tableswitch 108 0 6 #[41, 48, 55, 64, 73, 82, 95], 41) := by decide +kernel
theorem dX11_told_64 : decode cX11_told 64 = .ok (.aload_n 3, 1) := by decide +kernel
theorem dX11_told_65 : decode cX11_told 65 = .ok (.getfield 236, 3) := by decide +kernel
theorem dX11_told_68 : decode cX11_told 68 = .ok (.iload_n 1, 1) := by decide +kernel
theorem dX11_told_69 : decode cX11_told 69 = .ok (.iaload, 1) := by decide +kernel
theorem dX11_told_70 : decode cX11_told 70 = .ok (.ireturn, 1) := by decide +kernel
theorem dX11_told_71 : decode cX11_told 71 = .ok (.aload_n 3, 1) := by decide +kernel
theorem dX11_told_72 : decode cX11_told 72 = .ok (.getfield 239, 3) := by decide +kernel
theorem dX11_told_75 : decode cX11_told 75 = .ok (.iload_n 1, 1) := by decide +kernel
theorem dX11_told_76 : decode cX11_told 76 = .ok (.iaload, 1) := by decide +kernel
theorem dX11_told_77 : decode cX11_told 77 = .ok (.ireturn, 1) := by decide +kernel
theorem dX11_told_78 : decode cX11_told 78 = .ok (.aload_n 3, 1) := by decide +kernel
theorem dX11_told_79 : decode cX11_told 79 = .ok (.getfield 242, 3) := by decide +kernel
theorem dX11_told_82 : decode cX11_told 82 = .ok (.iload_n 1, 1) := by decide +kernel
theorem dX11_told_83 : decode cX11_told 83 = .ok (.aaload, 1) := by decide +kernel
theorem dX11_told_84 : decode cX11_told 84 = .ok (.iconst 0, 1) := by decide +kernel
theorem dX11_told_85 : decode cX11_told 85 = .ok (.iaload, 1) := by decide +kernel
theorem dX11_told_86 : decode cX11_told 86 = .ok (.ireturn, 1) := by decide +kernel
theorem dX11_told_87 : decode cX11_told 87 = .ok (.aload_n 3, 1) := by decide +kernel
theorem dX11_told_88 : decode cX11_told 88 = .ok (.getfield 242, 3) := by decide +kernel
theorem dX11_told_91 : decode cX11_told 91 = .ok (.iload_n 1, 1) := by decide +kernel
theorem dX11_told_92 : decode cX11_told 92 = .ok (.aaload, 1) := by decide +kernel
theorem dX11_told_93 : decode cX11_told 93 = .ok (.iconst 1, 1) := by decide +kernel
theorem dX11_told_94 : decode cX11_told 94 = .ok (.iaload, 1) := by decide +kernel
theorem dX11_told_95 : decode cX11_told 95 = .ok (.ireturn, 1) := by decide +kernel
theorem dX11_told_96 : decode cX11_told 96 = .ok (.aload_n 3, 1) := by decide +kernel
theorem dX11_told_97 : decode cX11_told 97 = .ok (.getfield 242, 3) := by decide +kernel
theorem dX11_told_100 : decode cX11_told 100 = .ok (.iload_n 1, 1) := by decide +kernel
theorem dX11_told_101 : decode cX11_told 101 = .ok (.aaload, 1) := by decide +kernel
theorem dX11_told_102 : decode cX11_told 102 = .ok (.iconst 2, 1) := by decide +kernel
theorem dX11_told_103 : decode cX11_told 103 = .ok (.iaload, 1) := by decide +kernel
theorem dX11_told_104 : decode cX11_told 104 = .ok (.ireturn, 1) := by decide +kernel
theorem dX11_told_105 : decode cX11_told 105 = .ok (.aload_n 0, 1) := by decide +kernel
theorem dX11_told_106 : decode cX11_told 106 = .ok (.getfield 39, 3) := by decide +kernel
theorem dX11_told_109 : decode cX11_told 109 = .ok (.getfield 173, 3) := by decide +kernel
theorem dX11_told_112 : decode cX11_told 112 = .ok (.getfield 246, 3) := by decide +kernel
theorem dX11_told_115 : decode cX11_told 115 = .ok (.iload_n 1, 1) := by decide +kernel
theorem dX11_told_116 : decode cX11_told 116 = .ok (.iaload, 1) := by decide +kernel
theorem dX11_told_117 : decode cX11_told 117 = .ok (.ireturn, 1) := by decide +kernel
theorem dX11_told_118 : decode cX11_told 118 = .ok (.aload_n 0, 1) := by decide +kernel
theorem dX11_told_119 : decode cX11_told 119 = .ok (.getfield 39, 3) := by decide +kernel
theorem dX11_told_122 : decode cX11_told 122 = .ok (.getfield 173, 3) := by decide +kernel
theorem dX11_told_125 : decode cX11_told 125 = .ok (.getfield 249, 3) := by decide +kernel
theorem dX11_told_128 : decode cX11_told 128 = .ok (.iload_n 1, 1) := by decide +kernel
theorem dX11_told_129 : decode cX11_told 129 = .ok (.iaload, 1) := by decide +kernel
theorem dX11_told_130 : decode cX11_told 130 = .ok (.ireturn, 1) := by decide +kernel
theorem dX11_told_131 : decode cX11_told 131 = .ok (.iconst (-1), 1) := by decide +kernel
theorem dX11_told_132 : decode cX11_told 132 = .ok (.ireturn, 1) := by decide +kernel
theorem dX11_cell_0 : decode cX11_cell 0 = .ok (.aload_n 0, 1) := by decide +kernel
theorem dX11_cell_1 : decode cX11_cell 1 = .ok (.getfield 39, 3) := by decide +kernel
theorem dX11_cell_4 : decode cX11_cell 4 = .ok (.getfield 173, 3) := by decide +kernel
theorem dX11_cell_7 : decode cX11_cell 7 = .ok (.astore_n 3, 1) := by decide +kernel
theorem dX11_cell_8 : decode cX11_cell 8 = .ok (.iload_n 1, 1) := by decide +kernel
theorem dX11_cell_9 : decode cX11_cell 9 = .ok (.ifCond .lt 32, 3) := by decide +kernel
theorem dX11_cell_12 : decode cX11_cell 12 = .ok (.iload_n 1, 1) := by decide +kernel
theorem dX11_cell_13 : decode cX11_cell 13 = .ok (.aload_n 3, 1) := by decide +kernel
theorem dX11_cell_14 : decode cX11_cell 14 = .ok (.getfield 252, 3) := by decide +kernel
theorem dX11_cell_17 : decode cX11_cell 17 = .ok (.if_icmp .ge 24, 3) := by decide +kernel
theorem dX11_cell_20 : decode cX11_cell 20 = .ok (.iload_n 2, 1) := by decide +kernel
theorem dX11_cell_21 : decode cX11_cell 21 = .ok (.ifCond .lt 20, 3) := by decide +kernel
theorem dX11_cell_24 : decode cX11_cell 24 = .ok (.iload_n 2, 1) := by decide +kernel
theorem dX11_cell_25 : decode cX11_cell 25 = .ok (.aload_n 0, 1) := by decide +kernel
theorem dX11_cell_26 : decode cX11_cell 26 = .ok (.getfield 27, 3) := by decide +kernel
theorem dX11_cell_29 : decode cX11_cell 29 = .ok (.aload_n 3, 1) := by decide +kernel
theorem dX11_cell_30 : decode cX11_cell 30 = .ok (.getfield 255, 3) := by decide +kernel
theorem dX11_cell_33 : decode cX11_cell 33 = .ok (.iload_n 1, 1) := by decide +kernel
theorem dX11_cell_34 : decode cX11_cell 34 = .ok (.iaload, 1) := by decide +kernel
theorem dX11_cell_35 : decode cX11_cell 35 = .ok (.invokevirtual 258, 3) := by decide +kernel
theorem dX11_cell_38 : decode cX11_cell 38 = .ok (.if_icmp .lt 7, 3) := by decide +kernel
theorem dX11_cell_41 : decode cX11_cell 41 = .ok (.ldc2_w 263, 3) := by decide +kernel
theorem dX11_cell_44 : decode cX11_cell 44 = .ok (.lreturn, 1) := by decide +kernel
theorem dX11_cell_45 : decode cX11_cell 45 = .ok (.aload_n 3, 1) := by decide +kernel
theorem dX11_cell_46 : decode cX11_cell 46 = .ok (.getfield 265, 3) := by decide +kernel
theorem dX11_cell_49 : decode cX11_cell 49 = .ok (.iload_n 1, 1) := by decide +kernel
theorem dX11_cell_50 : decode cX11_cell 50 = .ok (.aaload, 1) := by decide +kernel
theorem dX11_cell_51 : decode cX11_cell 51 = .ok (.iload_n 2, 1) := by decide +kernel
theorem dX11_cell_52 : decode cX11_cell 52 = .ok (.iaload, 1) := by decide +kernel
theorem dX11_cell_53 : decode cX11_cell 53 = .ok (.i2l, 1) := by decide +kernel
theorem dX11_cell_54 : decode cX11_cell 54 = .ok (.lreturn, 1) := by decide +kernel
theorem dX11_beside_0 : decode cX11_beside 0 = .ok (.aload_n 0, 1) := by decide +kernel
theorem dX11_beside_1 : decode cX11_beside 1 = .ok (.getfield 39, 3) := by decide +kernel
theorem dX11_beside_4 : decode cX11_beside 4 = .ok (.getfield 173, 3) := by decide +kernel
theorem dX11_beside_7 : decode cX11_beside 7 = .ok (.astore_n 3, 1) := by decide +kernel
theorem dX11_beside_8 : decode cX11_beside 8 = .ok (.iload_n 1, 1) := by decide +kernel
theorem dX11_beside_9 : decode cX11_beside 9 = .ok (.ifCond .lt 32, 3) := by decide +kernel
theorem dX11_beside_12 : decode cX11_beside 12 = .ok (.iload_n 1, 1) := by decide +kernel
theorem dX11_beside_13 : decode cX11_beside 13 = .ok (.aload_n 3, 1) := by decide +kernel
theorem dX11_beside_14 : decode cX11_beside 14 = .ok (.getfield 252, 3) := by decide +kernel
theorem dX11_beside_17 : decode cX11_beside 17 = .ok (.if_icmp .ge 24, 3) := by decide +kernel
theorem dX11_beside_20 : decode cX11_beside 20 = .ok (.iload_n 2, 1) := by decide +kernel
theorem dX11_beside_21 : decode cX11_beside 21 = .ok (.ifCond .lt 20, 3) := by decide +kernel
theorem dX11_beside_24 : decode cX11_beside 24 = .ok (.iload_n 2, 1) := by decide +kernel
theorem dX11_beside_25 : decode cX11_beside 25 = .ok (.aload_n 0, 1) := by decide +kernel
theorem dX11_beside_26 : decode cX11_beside 26 = .ok (.getfield 27, 3) := by decide +kernel
theorem dX11_beside_29 : decode cX11_beside 29 = .ok (.aload_n 3, 1) := by decide +kernel
theorem dX11_beside_30 : decode cX11_beside 30 = .ok (.getfield 267, 3) := by decide +kernel
theorem dX11_beside_33 : decode cX11_beside 33 = .ok (.iload_n 1, 1) := by decide +kernel
theorem dX11_beside_34 : decode cX11_beside 34 = .ok (.iaload, 1) := by decide +kernel
theorem dX11_beside_35 : decode cX11_beside 35 = .ok (.invokevirtual 258, 3) := by decide +kernel
theorem dX11_beside_38 : decode cX11_beside 38 = .ok (.if_icmp .lt 7, 3) := by decide +kernel
theorem dX11_beside_41 : decode cX11_beside 41 = .ok (.ldc2_w 263, 3) := by decide +kernel
theorem dX11_beside_44 : decode cX11_beside 44 = .ok (.lreturn, 1) := by decide +kernel
theorem dX11_beside_45 : decode cX11_beside 45 = .ok (.aload_n 3, 1) := by decide +kernel
theorem dX11_beside_46 : decode cX11_beside 46 = .ok (.getfield 270, 3) := by decide +kernel
theorem dX11_beside_49 : decode cX11_beside 49 = .ok (.iload_n 1, 1) := by decide +kernel
theorem dX11_beside_50 : decode cX11_beside 50 = .ok (.aaload, 1) := by decide +kernel
theorem dX11_beside_51 : decode cX11_beside 51 = .ok (.iload_n 2, 1) := by decide +kernel
theorem dX11_beside_52 : decode cX11_beside 52 = .ok (.iaload, 1) := by decide +kernel
theorem dX11_beside_53 : decode cX11_beside 53 = .ok (.i2l, 1) := by decide +kernel
theorem dX11_beside_54 : decode cX11_beside 54 = .ok (.lreturn, 1) := by decide +kernel
theorem dX11_count_0 : decode cX11_count 0 = .ok (.iload_n 1, 1) := by decide +kernel
theorem dX11_count_1 : decode cX11_count 1 = .ok (.tableswitch 63 0 3 #[31, 39, 44, 52], 31) := by decide +kernel
theorem dX11_count_32 : decode cX11_count 32 = .ok (.aload_n 0, 1) := by decide +kernel
theorem dX11_count_33 : decode cX11_count 33 = .ok (.getfield 27, 3) := by decide +kernel
theorem dX11_count_36 : decode cX11_count 36 = .ok (.getfield 75, 3) := by decide +kernel
theorem dX11_count_39 : decode cX11_count 39 = .ok (.ireturn, 1) := by decide +kernel
theorem dX11_count_40 : decode cX11_count 40 = .ok (.aload_n 0, 1) := by decide +kernel
theorem dX11_count_41 : decode cX11_count 41 = .ok (.getfield 13, 3) := by decide +kernel
theorem dX11_count_44 : decode cX11_count 44 = .ok (.ireturn, 1) := by decide +kernel
theorem dX11_count_45 : decode cX11_count 45 = .ok (.aload_n 0, 1) := by decide +kernel
theorem dX11_count_46 : decode cX11_count 46 = .ok (.getfield 27, 3) := by decide +kernel
theorem dX11_count_49 : decode cX11_count 49 = .ok (.getfield 273, 3) := by decide +kernel
theorem dX11_count_52 : decode cX11_count 52 = .ok (.ireturn, 1) := by decide +kernel
theorem dX11_count_53 : decode cX11_count 53 = .ok (.aload_n 0, 1) := by decide +kernel
theorem dX11_count_54 : decode cX11_count 54 = .ok (.getfield 39, 3) := by decide +kernel
theorem dX11_count_57 : decode cX11_count 57 = .ok (.getfield 173, 3) := by decide +kernel
theorem dX11_count_60 : decode cX11_count 60 = .ok (.getfield 252, 3) := by decide +kernel
theorem dX11_count_63 : decode cX11_count 63 = .ok (.ireturn, 1) := by decide +kernel
theorem dX11_count_64 : decode cX11_count 64 = .ok (.iconst (-1), 1) := by decide +kernel
theorem dX11_count_65 : decode cX11_count 65 = .ok (.ireturn, 1) := by decide +kernel
