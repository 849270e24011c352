theorem dX14_readField_0 : decode cX14_readField 0 = .ok (.aload_n 0, 1) := by decide +kernel
theorem dX14_readField_1 : decode cX14_readField 1 = .ok (.invokevirtual 185, 3) := by decide +kernel
theorem dX14_readField_4 : decode cX14_readField 4 = .ok (.aload_n 0, 1) := by decide +kernel
theorem dX14_readField_5 : decode cX14_readField 5 = .ok (.aload_n 0, 1) := by decide +kernel
theorem dX14_readField_6 : decode cX14_readField 6 = .ok (.getfield 131, 3) := by decide +kernel
theorem dX14_readField_9 : decode cX14_readField 9 = .ok (.iconst 1, 1) := by decide +kernel
theorem dX14_readField_10 : decode cX14_readField 10 = .ok (.if_icmp .ne 7, 3) := by decide +kernel
theorem dX14_readField_13 : decode cX14_readField 13 = .ok (.iconst 1, 1) := by decide +kernel
theorem dX14_readField_14 : decode cX14_readField 14 = .ok (.goto 4, 3) := by decide +kernel
theorem dX14_readField_17 : decode cX14_readField 17 = .ok (.iconst 0, 1) := by decide +kernel
theorem dX14_readField_18 : decode cX14_readField 18 = .ok (.iconst 1, 1) := by decide +kernel
theorem dX14_readField_19 : decode cX14_readField 19 = .ok (.aload_n 0, 1) := by decide +kernel
theorem dX14_readField_20 : decode cX14_readField 20 = .ok (.getfield 128, 3) := by decide +kernel
theorem dX14_readField_23 : decode cX14_readField 23 = .ok (.invokevirtual 172, 3) := by decide +kernel
theorem dX14_readField_26 : decode cX14_readField 26 = .ok (.aload_n 0, 1) := by decide +kernel
theorem dX14_readField_27 : decode cX14_readField 27 = .ok (.aload_n 0, 1) := by decide +kernel
theorem dX14_readField_28 : decode cX14_readField 28 = .ok (.getfield 23, 3) := by decide +kernel
theorem dX14_readField_31 : decode cX14_readField 31 = .ok (.aload_n 0, 1) := by decide +kernel
theorem dX14_readField_32 : decode cX14_readField 32 = .ok (.getfield 201, 3) := by decide +kernel
theorem dX14_readField_35 : decode cX14_readField 35 = .ok (.aload_n 0, 1) := by decide +kernel
theorem dX14_readField_36 : decode cX14_readField 36 = .ok (.getfield 155, 3) := by decide +kernel
theorem dX14_readField_39 : decode cX14_readField 39 = .ok (.aload_n 0, 1) := by decide +kernel
theorem dX14_readField_40 : decode cX14_readField 40 = .ok (.getfield 159, 3) := by decide +kernel
theorem dX14_readField_43 : decode cX14_readField 43 = .ok (.invokevirtual 204, 3) := by decide +kernel
theorem dX14_readField_46 : decode cX14_readField 46 = .ok (.iconst (-1), 1) := by decide +kernel
theorem dX14_readField_47 : decode cX14_readField 47 = .ok (.if_icmp .ne 7, 3) := by decide +kernel
theorem dX14_readField_50 : decode cX14_readField 50 = .ok (.iconst 1, 1) := by decide +kernel
theorem dX14_readField_51 : decode cX14_readField 51 = .ok (.goto 4, 3) := by decide +kernel
theorem dX14_readField_54 : decode cX14_readField 54 = .ok (.iconst 0, 1) := by decide +kernel
theorem dX14_readField_55 : decode cX14_readField 55 = .ok (.iconst 2, 1) := by decide +kernel
theorem dX14_readField_56 : decode cX14_readField 56 = .ok (.aload_n 0, 1) := by decide +kernel
theorem dX14_readField_57 : decode cX14_readField 57 = .ok (.getfield 128, 3) := by decide +kernel
theorem dX14_readField_60 : decode cX14_readField 60 = .ok (.invokevirtual 172, 3) := by decide +kernel
theorem dX14_readField_63 : decode cX14_readField 63 = .ok (.aload_n 0, 1) := by decide +kernel
theorem dX14_readField_64 : decode cX14_readField 64 = .ok (.aload_n 0, 1) := by decide +kernel
theorem dX14_readField_65 : decode cX14_readField 65 = .ok (.getfield 23, 3) := by decide +kernel
theorem dX14_readField_68 : decode cX14_readField 68 = .ok (.getfield 390, 3) := by decide +kernel
theorem dX14_readField_71 : decode cX14_readField 71 = .ok (.aload_n 0, 1) := by decide +kernel
theorem dX14_readField_72 : decode cX14_readField 72 = .ok (.getfield 201, 3) := by decide +kernel
theorem dX14_readField_75 : decode cX14_readField 75 = .ok (.iaload, 1) := by decide +kernel
theorem dX14_readField_76 : decode cX14_readField 76 = .ok (.bipush 10, 2) := by decide +kernel
theorem dX14_readField_78 : decode cX14_readField 78 = .ok (.if_icmp .ge 7, 3) := by decide +kernel
theorem dX14_readField_81 : decode cX14_readField 81 = .ok (.iconst 1, 1) := by decide +kernel
theorem dX14_readField_82 : decode cX14_readField 82 = .ok (.goto 4, 3) := by decide +kernel
theorem dX14_readField_85 : decode cX14_readField 85 = .ok (.iconst 0, 1) := by decide +kernel
theorem dX14_readField_86 : decode cX14_readField 86 = .ok (.iconst 4, 1) := by decide +kernel
theorem dX14_readField_87 : decode cX14_readField 87 = .ok (.aload_n 0, 1) := by decide +kernel
theorem dX14_readField_88 : decode cX14_readField 88 = .ok (.getfield 128, 3) := by decide +kernel
theorem dX14_readField_91 : decode cX14_readField 91 = .ok (.invokevirtual 172, 3) := by decide +kernel
theorem dX14_readField_94 : decode cX14_readField 94 = .ok (.bipush 10, 2) := by decide +kernel
theorem dX14_readField_96 : decode cX14_readField 96 = .ok (.aload_n 0, 1) := by decide +kernel
theorem dX14_readField_97 : decode cX14_readField 97 = .ok (.getfield 201, 3) := by decide +kernel
theorem dX14_readField_100 : decode cX14_readField 100 = .ok (.imul, 1) := by decide +kernel
theorem dX14_readField_101 : decode cX14_readField 101 = .ok (.aload_n 0, 1) := by decide +kernel
theorem dX14_readField_102 : decode cX14_readField 102 = .ok (.getfield 23, 3) := by decide +kernel
theorem dX14_readField_105 : decode cX14_readField 105 = .ok (.getfield 390, 3) := by decide +kernel
theorem dX14_readField_108 : decode cX14_readField 108 = .ok (.aload_n 0, 1) := by decide +kernel
theorem dX14_readField_109 : decode cX14_readField 109 = .ok (.getfield 201, 3) := by decide +kernel
theorem dX14_readField_112 : decode cX14_readField 112 = .ok (.iaload, 1) := by decide +kernel
theorem dX14_readField_113 : decode cX14_readField 113 = .ok (.iadd, 1) := by decide +kernel
theorem dX14_readField_114 : decode cX14_readField 114 = .ok (.istore_n 1, 1) := by decide +kernel
theorem dX14_readField_115 : decode cX14_readField 115 = .ok (.aload_n 0, 1) := by decide +kernel
theorem dX14_readField_116 : decode cX14_readField 116 = .ok (.getfield 128, 3) := by decide +kernel
theorem dX14_readField_119 : decode cX14_readField 119 = .ok (.istore_n 2, 1) := by decide +kernel
theorem dX14_readField_120 : decode cX14_readField 120 = .ok (.aload_n 0, 1) := by decide +kernel
theorem dX14_readField_121 : decode cX14_readField 121 = .ok (.getfield 155, 3) := by decide +kernel
theorem dX14_readField_124 : decode cX14_readField 124 = .ok (.lstore_n 3, 1) := by decide +kernel
theorem dX14_readField_125 : decode cX14_readField 125 = .ok (.aload_n 0, 1) := by decide +kernel
theorem dX14_readField_126 : decode cX14_readField 126 = .ok (.getfield 159, 3) := by decide +kernel
theorem dX14_readField_129 : decode cX14_readField 129 = .ok (.lstore 5, 2) := by decide +kernel
theorem dX14_readField_131 : decode cX14_readField 131 = .ok (.aload_n 0, 1) := by decide +kernel
theorem dX14_readField_132 : decode cX14_readField 132 = .ok (.invokevirtual 185, 3) := by decide +kernel
theorem dX14_readField_135 : decode cX14_readField 135 = .ok (.iconst 1, 1) := by decide +kernel
theorem dX14_readField_136 : decode cX14_readField 136 = .ok (.istore 7, 2) := by decide +kernel
theorem dX14_readField_138 : decode cX14_readField 138 = .ok (.aload_n 0, 1) := by decide +kernel
theorem dX14_readField_139 : decode cX14_readField 139 = .ok (.getfield 23, 3) := by decide +kernel
theorem dX14_readField_142 : decode cX14_readField 142 = .ok (.getfield 290, 3) := by decide +kernel
theorem dX14_readField_145 : decode cX14_readField 145 = .ok (.iload_n 1, 1) := by decide +kernel
theorem dX14_readField_146 : decode cX14_readField 146 = .ok (.iconst 0, 1) := by decide +kernel
theorem dX14_readField_147 : decode cX14_readField 147 = .ok (.iastore, 1) := by decide +kernel
theorem dX14_readField_148 : decode cX14_readField 148 = .ok (.aload_n 0, 1) := by decide +kernel
theorem dX14_readField_149 : decode cX14_readField 149 = .ok (.bipush 91, 2) := by decide +kernel
theorem dX14_readField_151 : decode cX14_readField 151 = .ok (.invokevirtual 182, 3) := by decide +kernel
theorem dX14_readField_154 : decode cX14_readField 154 = .ok (.ifCond .eq 119, 3) := by decide +kernel
theorem dX14_readField_157 : decode cX14_readField 157 = .ok (.aload_n 0, 1) := by decide +kernel
theorem dX14_readField_158 : decode cX14_readField 158 = .ok (.invokevirtual 185, 3) := by decide +kernel
theorem dX14_readField_161 : decode cX14_readField 161 = .ok (.aload_n 0, 1) := by decide +kernel
theorem dX14_readField_162 : decode cX14_readField 162 = .ok (.aload_n 0, 1) := by decide +kernel
theorem dX14_readField_163 : decode cX14_readField 163 = .ok (.getfield 131, 3) := by decide +kernel
theorem dX14_readField_166 : decode cX14_readField 166 = .ok (.iconst 3, 1) := by decide +kernel
theorem dX14_readField_167 : decode cX14_readField 167 = .ok (.if_icmp .ne 7, 3) := by decide +kernel
theorem dX14_readField_170 : decode cX14_readField 170 = .ok (.iconst 1, 1) := by decide +kernel
theorem dX14_readField_171 : decode cX14_readField 171 = .ok (.goto 4, 3) := by decide +kernel
theorem dX14_readField_174 : decode cX14_readField 174 = .ok (.iconst 0, 1) := by decide +kernel
theorem dX14_readField_175 : decode cX14_readField 175 = .ok (.iconst 1, 1) := by decide +kernel
theorem dX14_readField_176 : decode cX14_readField 176 = .ok (.aload_n 0, 1) := by decide +kernel
theorem dX14_readField_177 : decode cX14_readField 177 = .ok (.getfield 128, 3) := by decide +kernel
theorem dX14_readField_180 : decode cX14_readField 180 = .ok (.invokevirtual 172, 3) := by decide +kernel
theorem dX14_readField_183 : decode cX14_readField 183 = .ok (.aload_n 0, 1) := by decide +kernel
theorem dX14_readField_184 : decode cX14_readField 184 = .ok (.aload_n 0, 1) := by decide +kernel
theorem dX14_readField_185 : decode cX14_readField 185 = .ok (.getfield 162, 3) := by decide +kernel
theorem dX14_readField_188 : decode cX14_readField 188 = .ok (.lconst 1, 1) := by decide +kernel
theorem dX14_readField_189 : decode cX14_readField 189 = .ok (.ldc2_w 393, 3) := by decide +kernel
theorem dX14_readField_192 : decode cX14_readField 192 = .ok (.invokestatic 395, 3) := by decide +kernel
theorem dX14_readField_195 : decode cX14_readField 195 = .ok (.iconst 3, 1) := by decide +kernel
theorem dX14_readField_196 : decode cX14_readField 196 = .ok (.aload_n 0, 1) := by decide +kernel
theorem dX14_readField_197 : decode cX14_readField 197 = .ok (.getfield 128, 3) := by decide +kernel
theorem dX14_readField_200 : decode cX14_readField 200 = .ok (.invokevirtual 172, 3) := by decide +kernel
theorem dX14_readField_203 : decode cX14_readField 203 = .ok (.aload_n 0, 1) := by decide +kernel
theorem dX14_readField_204 : decode cX14_readField 204 = .ok (.aload_n 0, 1) := by decide +kernel
theorem dX14_readField_205 : decode cX14_readField 205 = .ok (.getfield 23, 3) := by decide +kernel
theorem dX14_readField_208 : decode cX14_readField 208 = .ok (.getfield 399, 3) := by decide +kernel
theorem dX14_readField_211 : decode cX14_readField 211 = .ok (.aload_n 0, 1) := by decide +kernel
theorem dX14_readField_212 : decode cX14_readField 212 = .ok (.getfield 201, 3) := by decide +kernel
theorem dX14_readField_215 : decode cX14_readField 215 = .ok (.iaload, 1) := by decide +kernel
theorem dX14_readField_216 : decode cX14_readField 216 = .ok (.i2l, 1) := by decide +kernel
theorem dX14_readField_217 : decode cX14_readField 217 = .ok (.aload_n 0, 1) := by decide +kernel
theorem dX14_readField_218 : decode cX14_readField 218 = .ok (.getfield 162, 3) := by decide +kernel
theorem dX14_readField_221 : decode cX14_readField 221 = .ok (.ladd, 1) := by decide +kernel
theorem dX14_readField_222 : decode cX14_readField 222 = .ok (.ldc2_w 402, 3) := by decide +kernel
theorem dX14_readField_225 : decode cX14_readField 225 = .ok (.lcmp, 1) := by decide +kernel
theorem dX14_readField_226 : decode cX14_readField 226 = .ok (.ifCond .gt 7, 3) := by decide +kernel
theorem dX14_readField_229 : decode cX14_readField 229 = .ok (.iconst 1, 1) := by decide +kernel
theorem dX14_readField_230 : decode cX14_readField 230 = .ok (.goto 4, 3) := by decide +kernel
theorem dX14_readField_233 : decode cX14_readField 233 = .ok (.iconst 0, 1) := by decide +kernel
theorem dX14_readField_234 : decode cX14_readField 234 = .ok (.iconst 4, 1) := by decide +kernel
theorem dX14_readField_235 : decode cX14_readField 235 = .ok (.aload_n 0, 1) := by decide +kernel
theorem dX14_readField_236 : decode cX14_readField 236 = .ok (.getfield 128, 3) := by decide +kernel
theorem dX14_readField_239 : decode cX14_readField 239 = .ok (.invokevirtual 172, 3) := by decide +kernel
theorem dX14_readField_242 : decode cX14_readField 242 = .ok (.aload_n 0, 1) := by decide +kernel
theorem dX14_readField_243 : decode cX14_readField 243 = .ok (.getfield 162, 3) := by decide +kernel
theorem dX14_readField_246 : decode cX14_readField 246 = .ok (.l2i, 1) := by decide +kernel
theorem dX14_readField_247 : decode cX14_readField 247 = .ok (.istore 7, 2) := by decide +kernel
theorem dX14_readField_249 : decode cX14_readField 249 = .ok (.aload_n 0, 1) := by decide +kernel
theorem dX14_readField_250 : decode cX14_readField 250 = .ok (.getfield 23, 3) := by decide +kernel
theorem dX14_readField_253 : decode cX14_readField 253 = .ok (.getfield 290, 3) := by decide +kernel
theorem dX14_readField_256 : decode cX14_readField 256 = .ok (.iload_n 1, 1) := by decide +kernel
theorem dX14_readField_257 : decode cX14_readField 257 = .ok (.iload 7, 2) := by decide +kernel
theorem dX14_readField_259 : decode cX14_readField 259 = .ok (.iastore, 1) := by decide +kernel
theorem dX14_readField_260 : decode cX14_readField 260 = .ok (.aload_n 0, 1) := by decide +kernel
theorem dX14_readField_261 : decode cX14_readField 261 = .ok (.invokevirtual 185, 3) := by decide +kernel
theorem dX14_readField_264 : decode cX14_readField 264 = .ok (.aload_n 0, 1) := by decide +kernel
theorem dX14_readField_265 : decode cX14_readField 265 = .ok (.bipush 93, 2) := by decide +kernel
theorem dX14_readField_267 : decode cX14_readField 267 = .ok (.invokevirtual 267, 3) := by decide +kernel
theorem dX14_readField_270 : decode cX14_readField 270 = .ok (.goto 31, 3) := by decide +kernel
theorem dX14_readField_273 : decode cX14_readField 273 = .ok (.aload_n 0, 1) := by decide +kernel
theorem dX14_readField_274 : decode cX14_readField 274 = .ok (.aload_n 0, 1) := by decide +kernel
theorem dX14_readField_275 : decode cX14_readField 275 = .ok (.getfield 23, 3) := by decide +kernel
theorem dX14_readField_278 : decode cX14_readField 278 = .ok (.getfield 399, 3) := by decide +kernel
theorem dX14_readField_281 : decode cX14_readField 281 = .ok (.aload_n 0, 1) := by decide +kernel
theorem dX14_readField_282 : decode cX14_readField 282 = .ok (.getfield 201, 3) := by decide +kernel
theorem dX14_readField_285 : decode cX14_readField 285 = .ok (.iaload, 1) := by decide +kernel
theorem dX14_readField_286 : decode cX14_readField 286 = .ok (.bipush 24, 2) := by decide +kernel
theorem dX14_readField_288 : decode cX14_readField 288 = .ok (.if_icmp .ge 7, 3) := by decide +kernel
theorem dX14_readField_291 : decode cX14_readField 291 = .ok (.iconst 1, 1) := by decide +kernel
theorem dX14_readField_292 : decode cX14_readField 292 = .ok (.goto 4, 3) := by decide +kernel
theorem dX14_readField_295 : decode cX14_readField 295 = .ok (.iconst 0, 1) := by decide +kernel
theorem dX14_readField_296 : decode cX14_readField 296 = .ok (.iconst 4, 1) := by decide +kernel
theorem dX14_readField_297 : decode cX14_readField 297 = .ok (.iload_n 2, 1) := by decide +kernel
theorem dX14_readField_298 : decode cX14_readField 298 = .ok (.invokevirtual 172, 3) := by decide +kernel
theorem dX14_readField_301 : decode cX14_readField 301 = .ok (.aload_n 0, 1) := by decide +kernel
theorem dX14_readField_302 : decode cX14_readField 302 = .ok (.getfield 23, 3) := by decide +kernel
theorem dX14_readField_305 : decode cX14_readField 305 = .ok (.getfield 404, 3) := by decide +kernel
theorem dX14_readField_308 : decode cX14_readField 308 = .ok (.iload_n 1, 1) := by decide +kernel
theorem dX14_readField_309 : decode cX14_readField 309 = .ok (.iconst 0, 1) := by decide +kernel
theorem dX14_readField_310 : decode cX14_readField 310 = .ok (.iastore, 1) := by decide +kernel
theorem dX14_readField_311 : decode cX14_readField 311 = .ok (.aload_n 0, 1) := by decide +kernel
theorem dX14_readField_312 : decode cX14_readField 312 = .ok (.bipush 61, 2) := by decide +kernel
theorem dX14_readField_314 : decode cX14_readField 314 = .ok (.invokevirtual 182, 3) := by decide +kernel
theorem dX14_readField_317 : decode cX14_readField 317 = .ok (.ifCond .eq 20, 3) := by decide +kernel
theorem dX14_readField_320 : decode cX14_readField 320 = .ok (.aload_n 0, 1) := by decide +kernel
theorem dX14_readField_321 : decode cX14_readField 321 = .ok (.invokevirtual 185, 3) := by decide +kernel
theorem dX14_readField_324 : decode cX14_readField 324 = .ok (.aload_n 0, 1) := by decide +kernel
theorem dX14_readField_325 : decode cX14_readField 325 = .ok (.getfield 23, 3) := by decide +kernel
theorem dX14_readField_328 : decode cX14_readField 328 = .ok (.getfield 404, 3) := by decide +kernel
theorem dX14_readField_331 : decode cX14_readField 331 = .ok (.iload_n 1, 1) := by decide +kernel
theorem dX14_readField_332 : decode cX14_readField 332 = .ok (.aload_n 0, 1) := by decide +kernel
theorem dX14_readField_333 : decode cX14_readField 333 = .ok (.invokevirtual 407, 3) := by decide +kernel
theorem dX14_readField_336 : decode cX14_readField 336 = .ok (.iastore, 1) := by decide +kernel
theorem dX14_readField_337 : decode cX14_readField 337 = .ok (.aload_n 0, 1) := by decide +kernel
theorem dX14_readField_338 : decode cX14_readField 338 = .ok (.bipush 59, 2) := by decide +kernel
theorem dX14_readField_340 : decode cX14_readField 340 = .ok (.invokevirtual 267, 3) := by decide +kernel
theorem dX14_readField_343 : decode cX14_readField 343 = .ok (.aload_n 0, 1) := by decide +kernel
theorem dX14_readField_344 : decode cX14_readField 344 = .ok (.getfield 23, 3) := by decide +kernel
theorem dX14_readField_347 : decode cX14_readField 347 = .ok (.getfield 410, 3) := by decide +kernel
theorem dX14_readField_350 : decode cX14_readField 350 = .ok (.iload_n 1, 1) := by decide +kernel
theorem dX14_readField_351 : decode cX14_readField 351 = .ok (.lload_n 3, 1) := by decide +kernel
theorem dX14_readField_352 : decode cX14_readField 352 = .ok (.lastore, 1) := by decide +kernel
theorem dX14_readField_353 : decode cX14_readField 353 = .ok (.aload_n 0, 1) := by decide +kernel
theorem dX14_readField_354 : decode cX14_readField 354 = .ok (.getfield 23, 3) := by decide +kernel
theorem dX14_readField_357 : decode cX14_readField 357 = .ok (.getfield 413, 3) := by decide +kernel
theorem dX14_readField_360 : decode cX14_readField 360 = .ok (.iload_n 1, 1) := by decide +kernel
theorem dX14_readField_361 : decode cX14_readField 361 = .ok (.lload 5, 2) := by decide +kernel
theorem dX14_readField_363 : decode cX14_readField 363 = .ok (.lastore, 1) := by decide +kernel
theorem dX14_readField_364 : decode cX14_readField 364 = .ok (.aload_n 0, 1) := by decide +kernel
theorem dX14_readField_365 : decode cX14_readField 365 = .ok (.getfield 23, 3) := by decide +kernel
theorem dX14_readField_368 : decode cX14_readField 368 = .ok (.getfield 416, 3) := by decide +kernel
theorem dX14_readField_371 : decode cX14_readField 371 = .ok (.iload_n 1, 1) := by decide +kernel
theorem dX14_readField_372 : decode cX14_readField 372 = .ok (.aload_n 0, 1) := by decide +kernel
theorem dX14_readField_373 : decode cX14_readField 373 = .ok (.getfield 23, 3) := by decide +kernel
theorem dX14_readField_376 : decode cX14_readField 376 = .ok (.getfield 399, 3) := by decide +kernel
theorem dX14_readField_379 : decode cX14_readField 379 = .ok (.aload_n 0, 1) := by decide +kernel
theorem dX14_readField_380 : decode cX14_readField 380 = .ok (.getfield 201, 3) := by decide +kernel
theorem dX14_readField_383 : decode cX14_readField 383 = .ok (.iaload, 1) := by decide +kernel
theorem dX14_readField_384 : decode cX14_readField 384 = .ok (.iastore, 1) := by decide +kernel
theorem dX14_readField_385 : decode cX14_readField 385 = .ok (.aload_n 0, 1) := by decide +kernel
theorem dX14_readField_386 : decode cX14_readField 386 = .ok (.getfield 23, 3) := by decide +kernel
theorem dX14_readField_389 : decode cX14_readField 389 = .ok (.getfield 399, 3) := by decide +kernel
theorem dX14_readField_392 : decode cX14_readField 392 = .ok (.aload_n 0, 1) := by decide +kernel
theorem dX14_readField_393 : decode cX14_readField 393 = .ok (.getfield 201, 3) := by decide +kernel
theorem dX14_readField_396 : decode cX14_readField 396 = .ok (.dup2, 1) := by decide +kernel
theorem dX14_readField_397 : decode cX14_readField 397 = .ok (.iaload, 1) := by decide +kernel
theorem dX14_readField_398 : decode cX14_readField 398 = .ok (.iload 7, 2) := by decide +kernel
theorem dX14_readField_400 : decode cX14_readField 400 = .ok (.iadd, 1) := by decide +kernel
theorem dX14_readField_401 : decode cX14_readField 401 = .ok (.iastore, 1) := by decide +kernel
theorem dX14_readField_402 : decode cX14_readField 402 = .ok (.aload_n 0, 1) := by decide +kernel
theorem dX14_readField_403 : decode cX14_readField 403 = .ok (.getfield 23, 3) := by decide +kernel
theorem dX14_readField_406 : decode cX14_readField 406 = .ok (.getfield 390, 3) := by decide +kernel
theorem dX14_readField_409 : decode cX14_readField 409 = .ok (.aload_n 0, 1) := by decide +kernel
theorem dX14_readField_410 : decode cX14_readField 410 = .ok (.getfield 201, 3) := by decide +kernel
theorem dX14_readField_413 : decode cX14_readField 413 = .ok (.dup2, 1) := by decide +kernel
theorem dX14_readField_414 : decode cX14_readField 414 = .ok (.iaload, 1) := by decide +kernel
theorem dX14_readField_415 : decode cX14_readField 415 = .ok (.iconst 1, 1) := by decide +kernel
theorem dX14_readField_416 : decode cX14_readField 416 = .ok (.iadd, 1) := by decide +kernel
theorem dX14_readField_417 : decode cX14_readField 417 = .ok (.iastore, 1) := by decide +kernel
theorem dX14_readField_418 : decode cX14_readField 418 = .ok (.return_, 1) := by decide +kernel
theorem dX14_readKept_0 : decode cX14_readKept 0 = .ok (.aload_n 0, 1) := by decide +kernel
theorem dX14_readKept_1 : decode cX14_readKept 1 = .ok (.aload_n 0, 1) := by decide +kernel
theorem dX14_readKept_2 : decode cX14_readKept 2 = .ok (.getfield 23, 3) := by decide +kernel
theorem dX14_readKept_5 : decode cX14_readKept 5 = .ok (.getfield 419, 3) := by decide +kernel
theorem dX14_readKept_8 : decode cX14_readKept 8 = .ok (.aload_n 0, 1) := by decide +kernel
theorem dX14_readKept_9 : decode cX14_readKept 9 = .ok (.getfield 201, 3) := by decide +kernel
theorem dX14_readKept_12 : decode cX14_readKept 12 = .ok (.iaload, 1) := by decide +kernel
theorem dX14_readKept_13 : decode cX14_readKept 13 = .ok (.bipush 8, 2) := by decide +kernel
theorem dX14_readKept_15 : decode cX14_readKept 15 = .ok (.if_icmp .ge 7, 3) := by decide +kernel
theorem dX14_readKept_18 : decode cX14_readKept 18 = .ok (.iconst 1, 1) := by decide +kernel
theorem dX14_readKept_19 : decode cX14_readKept 19 = .ok (.goto 4, 3) := by decide +kernel
theorem dX14_readKept_22 : decode cX14_readKept 22 = .ok (.iconst 0, 1) := by decide +kernel
theorem dX14_readKept_23 : decode cX14_readKept 23 = .ok (.iconst 4, 1) := by decide +kernel
theorem dX14_readKept_24 : decode cX14_readKept 24 = .ok (.aload_n 0, 1) := by decide +kernel
theorem dX14_readKept_25 : decode cX14_readKept 25 = .ok (.getfield 128, 3) := by decide +kernel
theorem dX14_readKept_28 : decode cX14_readKept 28 = .ok (.invokevirtual 172, 3) := by decide +kernel
theorem dX14_readKept_31 : decode cX14_readKept 31 = .ok (.aload_n 0, 1) := by decide +kernel
theorem dX14_readKept_32 : decode cX14_readKept 32 = .ok (.invokevirtual 185, 3) := by decide +kernel
theorem dX14_readKept_35 : decode cX14_readKept 35 = .ok (.aload_n 0, 1) := by decide +kernel
theorem dX14_readKept_36 : decode cX14_readKept 36 = .ok (.iconst 1, 1) := by decide +kernel
theorem dX14_readKept_37 : decode cX14_readKept 37 = .ok (.putfield 191, 3) := by decide +kernel
theorem dX14_readKept_40 : decode cX14_readKept 40 = .ok (.bipush 8, 2) := by decide +kernel
theorem dX14_readKept_42 : decode cX14_readKept 42 = .ok (.aload_n 0, 1) := by decide +kernel
theorem dX14_readKept_43 : decode cX14_readKept 43 = .ok (.getfield 201, 3) := by decide +kernel
theorem dX14_readKept_46 : decode cX14_readKept 46 = .ok (.imul, 1) := by decide +kernel
theorem dX14_readKept_47 : decode cX14_readKept 47 = .ok (.aload_n 0, 1) := by decide +kernel
theorem dX14_readKept_48 : decode cX14_readKept 48 = .ok (.getfield 23, 3) := by decide +kernel
theorem dX14_readKept_51 : decode cX14_readKept 51 = .ok (.getfield 419, 3) := by decide +kernel
theorem dX14_readKept_54 : decode cX14_readKept 54 = .ok (.aload_n 0, 1) := by decide +kernel
theorem dX14_readKept_55 : decode cX14_readKept 55 = .ok (.getfield 201, 3) := by decide +kernel
theorem dX14_readKept_58 : decode cX14_readKept 58 = .ok (.iaload, 1) := by decide +kernel
theorem dX14_readKept_59 : decode cX14_readKept 59 = .ok (.iadd, 1) := by decide +kernel
theorem dX14_readKept_60 : decode cX14_readKept 60 = .ok (.istore_n 1, 1) := by decide +kernel
theorem dX14_readKept_61 : decode cX14_readKept 61 = .ok (.aload_n 0, 1) := by decide +kernel
theorem dX14_readKept_62 : decode cX14_readKept 62 = .ok (.getfield 23, 3) := by decide +kernel
theorem dX14_readKept_65 : decode cX14_readKept 65 = .ok (.getfield 422, 3) := by decide +kernel
theorem dX14_readKept_68 : decode cX14_readKept 68 = .ok (.iload_n 1, 1) := by decide +kernel
theorem dX14_readKept_69 : decode cX14_readKept 69 = .ok (.aload_n 0, 1) := by decide +kernel
theorem dX14_readKept_70 : decode cX14_readKept 70 = .ok (.getfield 128, 3) := by decide +kernel
theorem dX14_readKept_73 : decode cX14_readKept 73 = .ok (.iastore, 1) := by decide +kernel
theorem dX14_readKept_74 : decode cX14_readKept 74 = .ok (.aload_n 0, 1) := by decide +kernel
theorem dX14_readKept_75 : decode cX14_readKept 75 = .ok (.getfield 23, 3) := by decide +kernel
theorem dX14_readKept_78 : decode cX14_readKept 78 = .ok (.getfield 425, 3) := by decide +kernel
theorem dX14_readKept_81 : decode cX14_readKept 81 = .ok (.iload_n 1, 1) := by decide +kernel
theorem dX14_readKept_82 : decode cX14_readKept 82 = .ok (.aload_n 0, 1) := by decide +kernel
theorem dX14_readKept_83 : decode cX14_readKept 83 = .ok (.invokevirtual 378, 3) := by decide +kernel
theorem dX14_readKept_86 : decode cX14_readKept 86 = .ok (.iastore, 1) := by decide +kernel
theorem dX14_readKept_87 : decode cX14_readKept 87 = .ok (.aload_n 0, 1) := by decide +kernel
theorem dX14_readKept_88 : decode cX14_readKept 88 = .ok (.iconst 0, 1) := by decide +kernel
theorem dX14_readKept_89 : decode cX14_readKept 89 = .ok (.putfield 191, 3) := by decide +kernel
theorem dX14_readKept_92 : decode cX14_readKept 92 = .ok (.aload_n 0, 1) := by decide +kernel
theorem dX14_readKept_93 : decode cX14_readKept 93 = .ok (.bipush 59, 2) := by decide +kernel
theorem dX14_readKept_95 : decode cX14_readKept 95 = .ok (.invokevirtual 267, 3) := by decide +kernel
theorem dX14_readKept_98 : decode cX14_readKept 98 = .ok (.aload_n 0, 1) := by decide +kernel
theorem dX14_readKept_99 : decode cX14_readKept 99 = .ok (.getfield 23, 3) := by decide +kernel
theorem dX14_readKept_102 : decode cX14_readKept 102 = .ok (.getfield 419, 3) := by decide +kernel
theorem dX14_readKept_105 : decode cX14_readKept 105 = .ok (.aload_n 0, 1) := by decide +kernel
theorem dX14_readKept_106 : decode cX14_readKept 106 = .ok (.getfield 201, 3) := by decide +kernel
theorem dX14_readKept_109 : decode cX14_readKept 109 = .ok (.dup2, 1) := by decide +kernel
theorem dX14_readKept_110 : decode cX14_readKept 110 = .ok (.iaload, 1) := by decide +kernel
theorem dX14_readKept_111 : decode cX14_readKept 111 = .ok (.iconst 1, 1) := by decide +kernel
theorem dX14_readKept_112 : decode cX14_readKept 112 = .ok (.iadd, 1) := by decide +kernel
theorem dX14_readKept_113 : decode cX14_readKept 113 = .ok (.iastore, 1) := by decide +kernel
theorem dX14_readKept_114 : decode cX14_readKept 114 = .ok (.return_, 1) := by decide +kernel
theorem dX14_readMark_0 : decode cX14_readMark 0 = .ok (.aload_n 0, 1) := by decide +kernel
theorem dX14_readMark_1 : decode cX14_readMark 1 = .ok (.aload_n 0, 1) := by decide +kernel
theorem dX14_readMark_2 : decode cX14_readMark 2 = .ok (.getfield 23, 3) := by decide +kernel
theorem dX14_readMark_5 : decode cX14_readMark 5 = .ok (.getfield 428, 3) := by decide +kernel
theorem dX14_readMark_8 : decode cX14_readMark 8 = .ok (.aload_n 0, 1) := by decide +kernel
theorem dX14_readMark_9 : decode cX14_readMark 9 = .ok (.getfield 317, 3) := by decide +kernel
theorem dX14_readMark_12 : decode cX14_readMark 12 = .ok (.iaload, 1) := by decide +kernel
theorem dX14_readMark_13 : decode cX14_readMark 13 = .ok (.aload_n 0, 1) := by decide +kernel
theorem dX14_readMark_14 : decode cX14_readMark 14 = .ok (.getfield 23, 3) := by decide +kernel
theorem dX14_readMark_17 : decode cX14_readMark 17 = .ok (.getfield 306, 3) := by decide +kernel
theorem dX14_readMark_20 : decode cX14_readMark 20 = .ok (.aload_n 0, 1) := by decide +kernel
theorem dX14_readMark_21 : decode cX14_readMark 21 = .ok (.getfield 317, 3) := by decide +kernel
theorem dX14_readMark_24 : decode cX14_readMark 24 = .ok (.baload, 1) := by decide +kernel
theorem dX14_readMark_25 : decode cX14_readMark 25 = .ok (.ifCond .eq 7, 3) := by decide +kernel
theorem dX14_readMark_28 : decode cX14_readMark 28 = .ok (.iconst 1, 1) := by decide +kernel
theorem dX14_readMark_29 : decode cX14_readMark 29 = .ok (.goto 4, 3) := by decide +kernel
theorem dX14_readMark_32 : decode cX14_readMark 32 = .ok (.iconst 0, 1) := by decide +kernel
theorem dX14_readMark_33 : decode cX14_readMark 33 = .ok (.iadd, 1) := by decide +kernel
theorem dX14_readMark_34 : decode cX14_readMark 34 = .ok (.bipush 8, 2) := by decide +kernel
theorem dX14_readMark_36 : decode cX14_readMark 36 = .ok (.if_icmp .ge 7, 3) := by decide +kernel
theorem dX14_readMark_39 : decode cX14_readMark 39 = .ok (.iconst 1, 1) := by decide +kernel
theorem dX14_readMark_40 : decode cX14_readMark 40 = .ok (.goto 4, 3) := by decide +kernel
theorem dX14_readMark_43 : decode cX14_readMark 43 = .ok (.iconst 0, 1) := by decide +kernel
theorem dX14_readMark_44 : decode cX14_readMark 44 = .ok (.iconst 4, 1) := by decide +kernel
theorem dX14_readMark_45 : decode cX14_readMark 45 = .ok (.aload_n 0, 1) := by decide +kernel
theorem dX14_readMark_46 : decode cX14_readMark 46 = .ok (.getfield 128, 3) := by decide +kernel
theorem dX14_readMark_49 : decode cX14_readMark 49 = .ok (.invokevirtual 172, 3) := by decide +kernel
theorem dX14_readMark_52 : decode cX14_readMark 52 = .ok (.aload_n 0, 1) := by decide +kernel
theorem dX14_readMark_53 : decode cX14_readMark 53 = .ok (.getfield 148, 3) := by decide +kernel
theorem dX14_readMark_56 : decode cX14_readMark 56 = .ok (.istore_n 1, 1) := by decide +kernel
theorem dX14_readMark_57 : decode cX14_readMark 57 = .ok (.bipush 8, 2) := by decide +kernel
theorem dX14_readMark_59 : decode cX14_readMark 59 = .ok (.aload_n 0, 1) := by decide +kernel
theorem dX14_readMark_60 : decode cX14_readMark 60 = .ok (.getfield 317, 3) := by decide +kernel
theorem dX14_readMark_63 : decode cX14_readMark 63 = .ok (.imul, 1) := by decide +kernel
theorem dX14_readMark_64 : decode cX14_readMark 64 = .ok (.aload_n 0, 1) := by decide +kernel
theorem dX14_readMark_65 : decode cX14_readMark 65 = .ok (.getfield 23, 3) := by decide +kernel
theorem dX14_readMark_68 : decode cX14_readMark 68 = .ok (.getfield 428, 3) := by decide +kernel
theorem dX14_readMark_71 : decode cX14_readMark 71 = .ok (.aload_n 0, 1) := by decide +kernel
theorem dX14_readMark_72 : decode cX14_readMark 72 = .ok (.getfield 317, 3) := by decide +kernel
theorem dX14_readMark_75 : decode cX14_readMark 75 = .ok (.iaload, 1) := by decide +kernel
theorem dX14_readMark_76 : decode cX14_readMark 76 = .ok (.iadd, 1) := by decide +kernel
theorem dX14_readMark_77 : decode cX14_readMark 77 = .ok (.istore_n 2, 1) := by decide +kernel
theorem dX14_readMark_78 : decode cX14_readMark 78 = .ok (.iload_n 1, 1) := by decide +kernel
theorem dX14_readMark_79 : decode cX14_readMark 79 = .ok (.bipush 11, 2) := by decide +kernel
theorem dX14_readMark_81 : decode cX14_readMark 81 = .ok (.if_icmp .eq 9, 3) := by decide +kernel
theorem dX14_readMark_84 : decode cX14_readMark 84 = .ok (.iload_n 1, 1) := by decide +kernel
theorem dX14_readMark_85 : decode cX14_readMark 85 = .ok (.bipush 10, 2) := by decide +kernel
theorem dX14_readMark_87 : decode cX14_readMark 87 = .ok (.if_icmp .ne 43, 3) := by decide +kernel
theorem dX14_readMark_90 : decode cX14_readMark 90 = .ok (.aload_n 0, 1) := by decide +kernel
theorem dX14_readMark_91 : decode cX14_readMark 91 = .ok (.invokevirtual 176, 3) := by decide +kernel
theorem dX14_readMark_94 : decode cX14_readMark 94 = .ok (.aload_n 0, 1) := by decide +kernel
theorem dX14_readMark_95 : decode cX14_readMark 95 = .ok (.aload_n 0, 1) := by decide +kernel
theorem dX14_readMark_96 : decode cX14_readMark 96 = .ok (.getfield 23, 3) := by decide +kernel
theorem dX14_readMark_99 : decode cX14_readMark 99 = .ok (.getfield 306, 3) := by decide +kernel
theorem dX14_readMark_102 : decode cX14_readMark 102 = .ok (.aload_n 0, 1) := by decide +kernel
theorem dX14_readMark_103 : decode cX14_readMark 103 = .ok (.getfield 317, 3) := by decide +kernel
theorem dX14_readMark_106 : decode cX14_readMark 106 = .ok (.baload, 1) := by decide +kernel
theorem dX14_readMark_107 : decode cX14_readMark 107 = .ok (.ifCond .ne 14, 3) := by decide +kernel
theorem dX14_readMark_110 : decode cX14_readMark 110 = .ok (.aload_n 0, 1) := by decide +kernel
theorem dX14_readMark_111 : decode cX14_readMark 111 = .ok (.invokevirtual 434, 3) := by decide +kernel
theorem dX14_readMark_114 : decode cX14_readMark 114 = .ok (.ifCond .ne 7, 3) := by decide +kernel
theorem dX14_readMark_117 : decode cX14_readMark 117 = .ok (.iconst 1, 1) := by decide +kernel
theorem dX14_readMark_118 : decode cX14_readMark 118 = .ok (.goto 4, 3) := by decide +kernel
theorem dX14_readMark_121 : decode cX14_readMark 121 = .ok (.iconst 0, 1) := by decide +kernel
theorem dX14_readMark_122 : decode cX14_readMark 122 = .ok (.iconst 5, 1) := by decide +kernel
theorem dX14_readMark_123 : decode cX14_readMark 123 = .ok (.aload_n 0, 1) := by decide +kernel
theorem dX14_readMark_124 : decode cX14_readMark 124 = .ok (.getfield 128, 3) := by decide +kernel
theorem dX14_readMark_127 : decode cX14_readMark 127 = .ok (.invokevirtual 172, 3) := by decide +kernel
theorem dX14_readMark_130 : decode cX14_readMark 130 = .ok (.aload_n 0, 1) := by decide +kernel
theorem dX14_readMark_131 : decode cX14_readMark 131 = .ok (.invokevirtual 185, 3) := by decide +kernel
theorem dX14_readMark_134 : decode cX14_readMark 134 = .ok (.iload_n 1, 1) := by decide +kernel
theorem dX14_readMark_135 : decode cX14_readMark 135 = .ok (.bipush 11, 2) := by decide +kernel
theorem dX14_readMark_137 : decode cX14_readMark 137 = .ok (.if_icmp .ne 23, 3) := by decide +kernel
theorem dX14_readMark_140 : decode cX14_readMark 140 = .ok (.aload_n 0, 1) := by decide +kernel
theorem dX14_readMark_141 : decode cX14_readMark 141 = .ok (.bipush 59, 2) := by decide +kernel
theorem dX14_readMark_143 : decode cX14_readMark 143 = .ok (.invokevirtual 267, 3) := by decide +kernel
theorem dX14_readMark_146 : decode cX14_readMark 146 = .ok (.aload_n 0, 1) := by decide +kernel
theorem dX14_readMark_147 : decode cX14_readMark 147 = .ok (.getfield 23, 3) := by decide +kernel
theorem dX14_readMark_150 : decode cX14_readMark 150 = .ok (.getfield 306, 3) := by decide +kernel
theorem dX14_readMark_153 : decode cX14_readMark 153 = .ok (.aload_n 0, 1) := by decide +kernel
theorem dX14_readMark_154 : decode cX14_readMark 154 = .ok (.getfield 317, 3) := by decide +kernel
theorem dX14_readMark_157 : decode cX14_readMark 157 = .ok (.iconst 1, 1) := by decide +kernel
theorem dX14_readMark_158 : decode cX14_readMark 158 = .ok (.bastore, 1) := by decide +kernel
theorem dX14_readMark_159 : decode cX14_readMark 159 = .ok (.return_, 1) := by decide +kernel
theorem dX14_readMark_160 : decode cX14_readMark 160 = .ok (.aload_n 0, 1) := by decide +kernel
theorem dX14_readMark_161 : decode cX14_readMark 161 = .ok (.getfield 23, 3) := by decide +kernel
theorem dX14_readMark_164 : decode cX14_readMark 164 = .ok (.getfield 438, 3) := by decide +kernel
theorem dX14_readMark_167 : decode cX14_readMark 167 = .ok (.iload_n 2, 1) := by decide +kernel
theorem dX14_readMark_168 : decode cX14_readMark 168 = .ok (.iconst (-1), 1) := by decide +kernel
theorem dX14_readMark_169 : decode cX14_readMark 169 = .ok (.iastore, 1) := by decide +kernel
theorem dX14_readMark_170 : decode cX14_readMark 170 = .ok (.aload_n 0, 1) := by decide +kernel
theorem dX14_readMark_171 : decode cX14_readMark 171 = .ok (.getfield 23, 3) := by decide +kernel
theorem dX14_readMark_174 : decode cX14_readMark 174 = .ok (.getfield 441, 3) := by decide +kernel
theorem dX14_readMark_177 : decode cX14_readMark 177 = .ok (.iload_n 2, 1) := by decide +kernel
theorem dX14_readMark_178 : decode cX14_readMark 178 = .ok (.aload_n 0, 1) := by decide +kernel
theorem dX14_readMark_179 : decode cX14_readMark 179 = .ok (.getfield 128, 3) := by decide +kernel
theorem dX14_readMark_182 : decode cX14_readMark 182 = .ok (.iastore, 1) := by decide +kernel
theorem dX14_readMark_183 : decode cX14_readMark 183 = .ok (.aload_n 0, 1) := by decide +kernel
theorem dX14_readMark_184 : decode cX14_readMark 184 = .ok (.getfield 23, 3) := by decide +kernel
theorem dX14_readMark_187 : decode cX14_readMark 187 = .ok (.getfield 444, 3) := by decide +kernel
theorem dX14_readMark_190 : decode cX14_readMark 190 = .ok (.iload_n 2, 1) := by decide +kernel
theorem dX14_readMark_191 : decode cX14_readMark 191 = .ok (.iconst 0, 1) := by decide +kernel
theorem dX14_readMark_192 : decode cX14_readMark 192 = .ok (.iastore, 1) := by decide +kernel
theorem dX14_readMark_193 : decode cX14_readMark 193 = .ok (.aload_n 0, 1) := by decide +kernel
theorem dX14_readMark_194 : decode cX14_readMark 194 = .ok (.iconst 1, 1) := by decide +kernel
theorem dX14_readMark_195 : decode cX14_readMark 195 = .ok (.putfield 303, 3) := by decide +kernel
theorem dX14_readMark_198 : decode cX14_readMark 198 = .ok (.iload_n 1, 1) := by decide +kernel
theorem dX14_readMark_199 : decode cX14_readMark 199 = .ok (.bipush 6, 2) := by decide +kernel
theorem dX14_readMark_201 : decode cX14_readMark 201 = .ok (.if_icmp .eq 9, 3) := by decide +kernel
theorem dX14_readMark_204 : decode cX14_readMark 204 = .ok (.iload_n 1, 1) := by decide +kernel
theorem dX14_readMark_205 : decode cX14_readMark 205 = .ok (.bipush 7, 2) := by decide +kernel
theorem dX14_readMark_207 : decode cX14_readMark 207 = .ok (.if_icmp .ne 59, 3) := by decide +kernel
theorem dX14_readMark_210 : decode cX14_readMark 210 = .ok (.aload_n 0, 1) := by decide +kernel
theorem dX14_readMark_211 : decode cX14_readMark 211 = .ok (.getfield 23, 3) := by decide +kernel
theorem dX14_readMark_214 : decode cX14_readMark 214 = .ok (.getfield 431, 3) := by decide +kernel
theorem dX14_readMark_217 : decode cX14_readMark 217 = .ok (.iload_n 2, 1) := by decide +kernel
theorem dX14_readMark_218 : decode cX14_readMark 218 = .ok (.iload_n 1, 1) := by decide +kernel
theorem dX14_readMark_219 : decode cX14_readMark 219 = .ok (.bipush 6, 2) := by decide +kernel
theorem dX14_readMark_221 : decode cX14_readMark 221 = .ok (.if_icmp .ne 7, 3) := by decide +kernel
theorem dX14_readMark_224 : decode cX14_readMark 224 = .ok (.iconst 1, 1) := by decide +kernel
theorem dX14_readMark_225 : decode cX14_readMark 225 = .ok (.goto 4, 3) := by decide +kernel
theorem dX14_readMark_228 : decode cX14_readMark 228 = .ok (.iconst 2, 1) := by decide +kernel
theorem dX14_readMark_229 : decode cX14_readMark 229 = .ok (.iastore, 1) := by decide +kernel
theorem dX14_readMark_230 : decode cX14_readMark 230 = .ok (.aload_n 0, 1) := by decide +kernel
theorem dX14_readMark_231 : decode cX14_readMark 231 = .ok (.iload_n 1, 1) := by decide +kernel
theorem dX14_readMark_232 : decode cX14_readMark 232 = .ok (.bipush 7, 2) := by decide +kernel
theorem dX14_readMark_234 : decode cX14_readMark 234 = .ok (.if_icmp .ne 7, 3) := by decide +kernel
theorem dX14_readMark_237 : decode cX14_readMark 237 = .ok (.iconst 1, 1) := by decide +kernel
theorem dX14_readMark_238 : decode cX14_readMark 238 = .ok (.goto 4, 3) := by decide +kernel
theorem dX14_readMark_241 : decode cX14_readMark 241 = .ok (.iconst 0, 1) := by decide +kernel
theorem dX14_readMark_242 : decode cX14_readMark 242 = .ok (.putfield 276, 3) := by decide +kernel
theorem dX14_readMark_245 : decode cX14_readMark 245 = .ok (.aload_n 0, 1) := by decide +kernel
theorem dX14_readMark_246 : decode cX14_readMark 246 = .ok (.getfield 23, 3) := by decide +kernel
theorem dX14_readMark_249 : decode cX14_readMark 249 = .ok (.getfield 438, 3) := by decide +kernel
theorem dX14_readMark_252 : decode cX14_readMark 252 = .ok (.iload_n 2, 1) := by decide +kernel
theorem dX14_readMark_253 : decode cX14_readMark 253 = .ok (.aload_n 0, 1) := by decide +kernel
theorem dX14_readMark_254 : decode cX14_readMark 254 = .ok (.invokevirtual 378, 3) := by decide +kernel
theorem dX14_readMark_257 : decode cX14_readMark 257 = .ok (.iastore, 1) := by decide +kernel
theorem dX14_readMark_258 : decode cX14_readMark 258 = .ok (.aload_n 0, 1) := by decide +kernel
theorem dX14_readMark_259 : decode cX14_readMark 259 = .ok (.iconst 0, 1) := by decide +kernel
theorem dX14_readMark_260 : decode cX14_readMark 260 = .ok (.putfield 276, 3) := by decide +kernel
theorem dX14_readMark_263 : decode cX14_readMark 263 = .ok (.goto 227, 3) := by decide +kernel
theorem dX14_readMark_266 : decode cX14_readMark 266 = .ok (.iload_n 1, 1) := by decide +kernel
theorem dX14_readMark_267 : decode cX14_readMark 267 = .ok (.bipush 8, 2) := by decide +kernel
theorem dX14_readMark_269 : decode cX14_readMark 269 = .ok (.if_icmp .ne 103, 3) := by decide +kernel
theorem dX14_readMark_272 : decode cX14_readMark 272 = .ok (.aload_n 0, 1) := by decide +kernel
theorem dX14_readMark_273 : decode cX14_readMark 273 = .ok (.getfield 23, 3) := by decide +kernel
theorem dX14_readMark_276 : decode cX14_readMark 276 = .ok (.getfield 431, 3) := by decide +kernel
theorem dX14_readMark_279 : decode cX14_readMark 279 = .ok (.iload_n 2, 1) := by decide +kernel
theorem dX14_readMark_280 : decode cX14_readMark 280 = .ok (.iconst 5, 1) := by decide +kernel
theorem dX14_readMark_281 : decode cX14_readMark 281 = .ok (.iastore, 1) := by decide +kernel
theorem dX14_readMark_282 : decode cX14_readMark 282 = .ok (.aload_n 0, 1) := by decide +kernel
theorem dX14_readMark_283 : decode cX14_readMark 283 = .ok (.aload_n 0, 1) := by decide +kernel
theorem dX14_readMark_284 : decode cX14_readMark 284 = .ok (.getfield 131, 3) := by decide +kernel
theorem dX14_readMark_287 : decode cX14_readMark 287 = .ok (.iconst 1, 1) := by decide +kernel
theorem dX14_readMark_288 : decode cX14_readMark 288 = .ok (.if_icmp .ne 7, 3) := by decide +kernel
theorem dX14_readMark_291 : decode cX14_readMark 291 = .ok (.iconst 1, 1) := by decide +kernel
theorem dX14_readMark_292 : decode cX14_readMark 292 = .ok (.goto 4, 3) := by decide +kernel
theorem dX14_readMark_295 : decode cX14_readMark 295 = .ok (.iconst 0, 1) := by decide +kernel
theorem dX14_readMark_296 : decode cX14_readMark 296 = .ok (.iconst 1, 1) := by decide +kernel
theorem dX14_readMark_297 : decode cX14_readMark 297 = .ok (.aload_n 0, 1) := by decide +kernel
theorem dX14_readMark_298 : decode cX14_readMark 298 = .ok (.getfield 128, 3) := by decide +kernel
theorem dX14_readMark_301 : decode cX14_readMark 301 = .ok (.invokevirtual 172, 3) := by decide +kernel
theorem dX14_readMark_304 : decode cX14_readMark 304 = .ok (.aload_n 0, 1) := by decide +kernel
theorem dX14_readMark_305 : decode cX14_readMark 305 = .ok (.getfield 23, 3) := by decide +kernel
theorem dX14_readMark_308 : decode cX14_readMark 308 = .ok (.getfield 447, 3) := by decide +kernel
theorem dX14_readMark_311 : decode cX14_readMark 311 = .ok (.iload_n 2, 1) := by decide +kernel
theorem dX14_readMark_312 : decode cX14_readMark 312 = .ok (.aload_n 0, 1) := by decide +kernel
theorem dX14_readMark_313 : decode cX14_readMark 313 = .ok (.getfield 155, 3) := by decide +kernel
theorem dX14_readMark_316 : decode cX14_readMark 316 = .ok (.lastore, 1) := by decide +kernel
theorem dX14_readMark_317 : decode cX14_readMark 317 = .ok (.aload_n 0, 1) := by decide +kernel
theorem dX14_readMark_318 : decode cX14_readMark 318 = .ok (.getfield 23, 3) := by decide +kernel
theorem dX14_readMark_321 : decode cX14_readMark 321 = .ok (.getfield 450, 3) := by decide +kernel
theorem dX14_readMark_324 : decode cX14_readMark 324 = .ok (.iload_n 2, 1) := by decide +kernel
theorem dX14_readMark_325 : decode cX14_readMark 325 = .ok (.aload_n 0, 1) := by decide +kernel
theorem dX14_readMark_326 : decode cX14_readMark 326 = .ok (.getfield 159, 3) := by decide +kernel
theorem dX14_readMark_329 : decode cX14_readMark 329 = .ok (.lastore, 1) := by decide +kernel
theorem dX14_readMark_330 : decode cX14_readMark 330 = .ok (.aload_n 0, 1) := by decide +kernel
theorem dX14_readMark_331 : decode cX14_readMark 331 = .ok (.invokevirtual 185, 3) := by decide +kernel
theorem dX14_readMark_334 : decode cX14_readMark 334 = .ok (.aload_n 0, 1) := by decide +kernel
theorem dX14_readMark_335 : decode cX14_readMark 335 = .ok (.bipush 9, 2) := by decide +kernel
theorem dX14_readMark_337 : decode cX14_readMark 337 = .ok (.invokevirtual 279, 3) := by decide +kernel
theorem dX14_readMark_340 : decode cX14_readMark 340 = .ok (.ifCond .eq 150, 3) := by decide +kernel
theorem dX14_readMark_343 : decode cX14_readMark 343 = .ok (.aload_n 0, 1) := by decide +kernel
theorem dX14_readMark_344 : decode cX14_readMark 344 = .ok (.getfield 23, 3) := by decide +kernel
theorem dX14_readMark_347 : decode cX14_readMark 347 = .ok (.getfield 441, 3) := by decide +kernel
theorem dX14_readMark_350 : decode cX14_readMark 350 = .ok (.iload_n 2, 1) := by decide +kernel
theorem dX14_readMark_351 : decode cX14_readMark 351 = .ok (.aload_n 0, 1) := by decide +kernel
theorem dX14_readMark_352 : decode cX14_readMark 352 = .ok (.getfield 128, 3) := by decide +kernel
theorem dX14_readMark_355 : decode cX14_readMark 355 = .ok (.iastore, 1) := by decide +kernel
theorem dX14_readMark_356 : decode cX14_readMark 356 = .ok (.aload_n 0, 1) := by decide +kernel
theorem dX14_readMark_357 : decode cX14_readMark 357 = .ok (.getfield 23, 3) := by decide +kernel
theorem dX14_readMark_360 : decode cX14_readMark 360 = .ok (.getfield 438, 3) := by decide +kernel
theorem dX14_readMark_363 : decode cX14_readMark 363 = .ok (.iload_n 2, 1) := by decide +kernel
theorem dX14_readMark_364 : decode cX14_readMark 364 = .ok (.aload_n 0, 1) := by decide +kernel
theorem dX14_readMark_365 : decode cX14_readMark 365 = .ok (.invokevirtual 378, 3) := by decide +kernel
theorem dX14_readMark_368 : decode cX14_readMark 368 = .ok (.iastore, 1) := by decide +kernel
theorem dX14_readMark_369 : decode cX14_readMark 369 = .ok (.goto 121, 3) := by decide +kernel
theorem dX14_readMark_372 : decode cX14_readMark 372 = .ok (.aload_n 0, 1) := by decide +kernel
theorem dX14_readMark_373 : decode cX14_readMark 373 = .ok (.getfield 23, 3) := by decide +kernel
theorem dX14_readMark_376 : decode cX14_readMark 376 = .ok (.getfield 431, 3) := by decide +kernel
theorem dX14_readMark_379 : decode cX14_readMark 379 = .ok (.iload_n 2, 1) := by decide +kernel
theorem dX14_readMark_380 : decode cX14_readMark 380 = .ok (.bipush 6, 2) := by decide +kernel
theorem dX14_readMark_382 : decode cX14_readMark 382 = .ok (.iastore, 1) := by decide +kernel
theorem dX14_readMark_383 : decode cX14_readMark 383 = .ok (.iconst 1, 1) := by decide +kernel
theorem dX14_readMark_384 : decode cX14_readMark 384 = .ok (.istore_n 3, 1) := by decide +kernel
theorem dX14_readMark_385 : decode cX14_readMark 385 = .ok (.iload_n 3, 1) := by decide +kernel
theorem dX14_readMark_386 : decode cX14_readMark 386 = .ok (.ifCond .eq 104, 3) := by decide +kernel
theorem dX14_readMark_389 : decode cX14_readMark 389 = .ok (.aload_n 0, 1) := by decide +kernel
theorem dX14_readMark_390 : decode cX14_readMark 390 = .ok (.aload_n 0, 1) := by decide +kernel
theorem dX14_readMark_391 : decode cX14_readMark 391 = .ok (.getfield 131, 3) := by decide +kernel
theorem dX14_readMark_394 : decode cX14_readMark 394 = .ok (.iconst 1, 1) := by decide +kernel
theorem dX14_readMark_395 : decode cX14_readMark 395 = .ok (.if_icmp .ne 7, 3) := by decide +kernel
theorem dX14_readMark_398 : decode cX14_readMark 398 = .ok (.iconst 1, 1) := by decide +kernel
theorem dX14_readMark_399 : decode cX14_readMark 399 = .ok (.goto 4, 3) := by decide +kernel
theorem dX14_readMark_402 : decode cX14_readMark 402 = .ok (.iconst 0, 1) := by decide +kernel
theorem dX14_readMark_403 : decode cX14_readMark 403 = .ok (.iconst 1, 1) := by decide +kernel
theorem dX14_readMark_404 : decode cX14_readMark 404 = .ok (.aload_n 0, 1) := by decide +kernel
theorem dX14_readMark_405 : decode cX14_readMark 405 = .ok (.getfield 128, 3) := by decide +kernel
theorem dX14_readMark_408 : decode cX14_readMark 408 = .ok (.invokevirtual 172, 3) := by decide +kernel
theorem dX14_readMark_411 : decode cX14_readMark 411 = .ok (.aload_n 0, 1) := by decide +kernel
theorem dX14_readMark_412 : decode cX14_readMark 412 = .ok (.getfield 23, 3) := by decide +kernel
theorem dX14_readMark_415 : decode cX14_readMark 415 = .ok (.aload_n 0, 1) := by decide +kernel
theorem dX14_readMark_416 : decode cX14_readMark 416 = .ok (.getfield 201, 3) := by decide +kernel
theorem dX14_readMark_419 : decode cX14_readMark 419 = .ok (.aload_n 0, 1) := by decide +kernel
theorem dX14_readMark_420 : decode cX14_readMark 420 = .ok (.getfield 155, 3) := by decide +kernel
theorem dX14_readMark_423 : decode cX14_readMark 423 = .ok (.aload_n 0, 1) := by decide +kernel
theorem dX14_readMark_424 : decode cX14_readMark 424 = .ok (.getfield 159, 3) := by decide +kernel
theorem dX14_readMark_427 : decode cX14_readMark 427 = .ok (.invokevirtual 204, 3) := by decide +kernel
theorem dX14_readMark_430 : decode cX14_readMark 430 = .ok (.istore 4, 2) := by decide +kernel
theorem dX14_readMark_432 : decode cX14_readMark 432 = .ok (.aload_n 0, 1) := by decide +kernel
theorem dX14_readMark_433 : decode cX14_readMark 433 = .ok (.iload 4, 2) := by decide +kernel
theorem dX14_readMark_435 : decode cX14_readMark 435 = .ok (.iconst (-1), 1) := by decide +kernel
theorem dX14_readMark_436 : decode cX14_readMark 436 = .ok (.if_icmp .eq 7, 3) := by decide +kernel
theorem dX14_readMark_439 : decode cX14_readMark 439 = .ok (.iconst 1, 1) := by decide +kernel
theorem dX14_readMark_440 : decode cX14_readMark 440 = .ok (.goto 4, 3) := by decide +kernel
theorem dX14_readMark_443 : decode cX14_readMark 443 = .ok (.iconst 0, 1) := by decide +kernel
theorem dX14_readMark_444 : decode cX14_readMark 444 = .ok (.iconst 2, 1) := by decide +kernel
theorem dX14_readMark_445 : decode cX14_readMark 445 = .ok (.aload_n 0, 1) := by decide +kernel
theorem dX14_readMark_446 : decode cX14_readMark 446 = .ok (.getfield 128, 3) := by decide +kernel
theorem dX14_readMark_449 : decode cX14_readMark 449 = .ok (.invokevirtual 172, 3) := by decide +kernel
theorem dX14_readMark_452 : decode cX14_readMark 452 = .ok (.aload_n 0, 1) := by decide +kernel
theorem dX14_readMark_453 : decode cX14_readMark 453 = .ok (.getfield 23, 3) := by decide +kernel
theorem dX14_readMark_456 : decode cX14_readMark 456 = .ok (.getfield 444, 3) := by decide +kernel
theorem dX14_readMark_459 : decode cX14_readMark 459 = .ok (.iload_n 2, 1) := by decide +kernel
theorem dX14_readMark_460 : decode cX14_readMark 460 = .ok (.dup2, 1) := by decide +kernel
theorem dX14_readMark_461 : decode cX14_readMark 461 = .ok (.iaload, 1) := by decide +kernel
theorem dX14_readMark_462 : decode cX14_readMark 462 = .ok (.iconst 1, 1) := by decide +kernel
theorem dX14_readMark_463 : decode cX14_readMark 463 = .ok (.iload 4, 2) := by decide +kernel
theorem dX14_readMark_465 : decode cX14_readMark 465 = .ok (.ishl, 1) := by decide +kernel
theorem dX14_readMark_466 : decode cX14_readMark 466 = .ok (.ior, 1) := by decide +kernel
theorem dX14_readMark_467 : decode cX14_readMark 467 = .ok (.iastore, 1) := by decide +kernel
theorem dX14_readMark_468 : decode cX14_readMark 468 = .ok (.aload_n 0, 1) := by decide +kernel
theorem dX14_readMark_469 : decode cX14_readMark 469 = .ok (.invokevirtual 185, 3) := by decide +kernel
theorem dX14_readMark_472 : decode cX14_readMark 472 = .ok (.aload_n 0, 1) := by decide +kernel
theorem dX14_readMark_473 : decode cX14_readMark 473 = .ok (.bipush 44, 2) := by decide +kernel
theorem dX14_readMark_475 : decode cX14_readMark 475 = .ok (.invokevirtual 182, 3) := by decide +kernel
theorem dX14_readMark_478 : decode cX14_readMark 478 = .ok (.istore_n 3, 1) := by decide +kernel
theorem dX14_readMark_479 : decode cX14_readMark 479 = .ok (.iload_n 3, 1) := by decide +kernel
theorem dX14_readMark_480 : decode cX14_readMark 480 = .ok (.ifCond .eq 7, 3) := by decide +kernel
theorem dX14_readMark_483 : decode cX14_readMark 483 = .ok (.aload_n 0, 1) := by decide +kernel
theorem dX14_readMark_484 : decode cX14_readMark 484 = .ok (.invokevirtual 185, 3) := by decide +kernel
theorem dX14_readMark_487 : decode cX14_readMark 487 = .ok (.goto (-102), 3) := by decide +kernel
theorem dX14_readMark_490 : decode cX14_readMark 490 = .ok (.aload_n 0, 1) := by decide +kernel
theorem dX14_readMark_491 : decode cX14_readMark 491 = .ok (.iconst 0, 1) := by decide +kernel
theorem dX14_readMark_492 : decode cX14_readMark 492 = .ok (.putfield 303, 3) := by decide +kernel
theorem dX14_readMark_495 : decode cX14_readMark 495 = .ok (.aload_n 0, 1) := by decide +kernel
theorem dX14_readMark_496 : decode cX14_readMark 496 = .ok (.bipush 59, 2) := by decide +kernel
theorem dX14_readMark_498 : decode cX14_readMark 498 = .ok (.invokevirtual 267, 3) := by decide +kernel
theorem dX14_readMark_501 : decode cX14_readMark 501 = .ok (.aload_n 0, 1) := by decide +kernel
theorem dX14_readMark_502 : decode cX14_readMark 502 = .ok (.getfield 23, 3) := by decide +kernel
theorem dX14_readMark_505 : decode cX14_readMark 505 = .ok (.getfield 428, 3) := by decide +kernel
theorem dX14_readMark_508 : decode cX14_readMark 508 = .ok (.aload_n 0, 1) := by decide +kernel
theorem dX14_readMark_509 : decode cX14_readMark 509 = .ok (.getfield 317, 3) := by decide +kernel
theorem dX14_readMark_512 : decode cX14_readMark 512 = .ok (.dup2, 1) := by decide +kernel
theorem dX14_readMark_513 : decode cX14_readMark 513 = .ok (.iaload, 1) := by decide +kernel
theorem dX14_readMark_514 : decode cX14_readMark 514 = .ok (.iconst 1, 1) := by decide +kernel
theorem dX14_readMark_515 : decode cX14_readMark 515 = .ok (.iadd, 1) := by decide +kernel
theorem dX14_readMark_516 : decode cX14_readMark 516 = .ok (.iastore, 1) := by decide +kernel
theorem dX14_readMark_517 : decode cX14_readMark 517 = .ok (.return_, 1) := by decide +kernel
theorem dX14_readParam_0 : decode cX14_readParam 0 = .ok (.aload_n 0, 1) := by decide +kernel
theorem dX14_readParam_1 : decode cX14_readParam 1 = .ok (.aload_n 0, 1) := by decide +kernel
theorem dX14_readParam_2 : decode cX14_readParam 2 = .ok (.getfield 131, 3) := by decide +kernel
theorem dX14_readParam_5 : decode cX14_readParam 5 = .ok (.iconst 1, 1) := by decide +kernel
theorem dX14_readParam_6 : decode cX14_readParam 6 = .ok (.if_icmp .ne 7, 3) := by decide +kernel
theorem dX14_readParam_9 : decode cX14_readParam 9 = .ok (.iconst 1, 1) := by decide +kernel
theorem dX14_readParam_10 : decode cX14_readParam 10 = .ok (.goto 4, 3) := by decide +kernel
theorem dX14_readParam_13 : decode cX14_readParam 13 = .ok (.iconst 0, 1) := by decide +kernel
theorem dX14_readParam_14 : decode cX14_readParam 14 = .ok (.iconst 1, 1) := by decide +kernel
theorem dX14_readParam_15 : decode cX14_readParam 15 = .ok (.aload_n 0, 1) := by decide +kernel
theorem dX14_readParam_16 : decode cX14_readParam 16 = .ok (.getfield 128, 3) := by decide +kernel
theorem dX14_readParam_19 : decode cX14_readParam 19 = .ok (.invokevirtual 172, 3) := by decide +kernel
theorem dX14_readParam_22 : decode cX14_readParam 22 = .ok (.aload_n 0, 1) := by decide +kernel
theorem dX14_readParam_23 : decode cX14_readParam 23 = .ok (.aload_n 0, 1) := by decide +kernel
theorem dX14_readParam_24 : decode cX14_readParam 24 = .ok (.aload_n 0, 1) := by decide +kernel
theorem dX14_readParam_25 : decode cX14_readParam 25 = .ok (.getfield 155, 3) := by decide +kernel
theorem dX14_readParam_28 : decode cX14_readParam 28 = .ok (.aload_n 0, 1) := by decide +kernel
theorem dX14_readParam_29 : decode cX14_readParam 29 = .ok (.getfield 159, 3) := by decide +kernel
theorem dX14_readParam_32 : decode cX14_readParam 32 = .ok (.invokevirtual 286, 3) := by decide +kernel
theorem dX14_readParam_35 : decode cX14_readParam 35 = .ok (.iconst (-1), 1) := by decide +kernel
theorem dX14_readParam_36 : decode cX14_readParam 36 = .ok (.if_icmp .ne 7, 3) := by decide +kernel
theorem dX14_readParam_39 : decode cX14_readParam 39 = .ok (.iconst 1, 1) := by decide +kernel
theorem dX14_readParam_40 : decode cX14_readParam 40 = .ok (.goto 4, 3) := by decide +kernel
theorem dX14_readParam_43 : decode cX14_readParam 43 = .ok (.iconst 0, 1) := by decide +kernel
theorem dX14_readParam_44 : decode cX14_readParam 44 = .ok (.iconst 2, 1) := by decide +kernel
theorem dX14_readParam_45 : decode cX14_readParam 45 = .ok (.aload_n 0, 1) := by decide +kernel
theorem dX14_readParam_46 : decode cX14_readParam 46 = .ok (.getfield 128, 3) := by decide +kernel
theorem dX14_readParam_49 : decode cX14_readParam 49 = .ok (.invokevirtual 172, 3) := by decide +kernel
theorem dX14_readParam_52 : decode cX14_readParam 52 = .ok (.aload_n 0, 1) := by decide +kernel
theorem dX14_readParam_53 : decode cX14_readParam 53 = .ok (.aload_n 0, 1) := by decide +kernel
theorem dX14_readParam_54 : decode cX14_readParam 54 = .ok (.getfield 23, 3) := by decide +kernel
theorem dX14_readParam_57 : decode cX14_readParam 57 = .ok (.getfield 324, 3) := by decide +kernel
theorem dX14_readParam_60 : decode cX14_readParam 60 = .ok (.aload_n 0, 1) := by decide +kernel
theorem dX14_readParam_61 : decode cX14_readParam 61 = .ok (.getfield 317, 3) := by decide +kernel
theorem dX14_readParam_64 : decode cX14_readParam 64 = .ok (.iaload, 1) := by decide +kernel
theorem dX14_readParam_65 : decode cX14_readParam 65 = .ok (.iconst 3, 1) := by decide +kernel
theorem dX14_readParam_66 : decode cX14_readParam 66 = .ok (.if_icmp .ge 7, 3) := by decide +kernel
theorem dX14_readParam_69 : decode cX14_readParam 69 = .ok (.iconst 1, 1) := by decide +kernel
theorem dX14_readParam_70 : decode cX14_readParam 70 = .ok (.goto 4, 3) := by decide +kernel
theorem dX14_readParam_73 : decode cX14_readParam 73 = .ok (.iconst 0, 1) := by decide +kernel
theorem dX14_readParam_74 : decode cX14_readParam 74 = .ok (.iconst 4, 1) := by decide +kernel
theorem dX14_readParam_75 : decode cX14_readParam 75 = .ok (.aload_n 0, 1) := by decide +kernel
theorem dX14_readParam_76 : decode cX14_readParam 76 = .ok (.getfield 128, 3) := by decide +kernel
theorem dX14_readParam_79 : decode cX14_readParam 79 = .ok (.invokevirtual 172, 3) := by decide +kernel
theorem dX14_readParam_82 : decode cX14_readParam 82 = .ok (.aload_n 0, 1) := by decide +kernel
theorem dX14_readParam_83 : decode cX14_readParam 83 = .ok (.getfield 34, 3) := by decide +kernel
theorem dX14_readParam_86 : decode cX14_readParam 86 = .ok (.aload_n 0, 1) := by decide +kernel
theorem dX14_readParam_87 : decode cX14_readParam 87 = .ok (.getfield 195, 3) := by decide +kernel
theorem dX14_readParam_90 : decode cX14_readParam 90 = .ok (.aload_n 0, 1) := by decide +kernel
theorem dX14_readParam_91 : decode cX14_readParam 91 = .ok (.getfield 155, 3) := by decide +kernel
theorem dX14_readParam_94 : decode cX14_readParam 94 = .ok (.lastore, 1) := by decide +kernel
theorem dX14_readParam_95 : decode cX14_readParam 95 = .ok (.aload_n 0, 1) := by decide +kernel
theorem dX14_readParam_96 : decode cX14_readParam 96 = .ok (.getfield 38, 3) := by decide +kernel
theorem dX14_readParam_99 : decode cX14_readParam 99 = .ok (.aload_n 0, 1) := by decide +kernel
theorem dX14_readParam_100 : decode cX14_readParam 100 = .ok (.getfield 195, 3) := by decide +kernel
theorem dX14_readParam_103 : decode cX14_readParam 103 = .ok (.aload_n 0, 1) := by decide +kernel
theorem dX14_readParam_104 : decode cX14_readParam 104 = .ok (.getfield 159, 3) := by decide +kernel
theorem dX14_readParam_107 : decode cX14_readParam 107 = .ok (.lastore, 1) := by decide +kernel
theorem dX14_readParam_108 : decode cX14_readParam 108 = .ok (.aload_n 0, 1) := by decide +kernel
theorem dX14_readParam_109 : decode cX14_readParam 109 = .ok (.invokevirtual 185, 3) := by decide +kernel
theorem dX14_readParam_112 : decode cX14_readParam 112 = .ok (.aload_n 0, 1) := by decide +kernel
theorem dX14_readParam_113 : decode cX14_readParam 113 = .ok (.iconst 5, 1) := by decide +kernel
theorem dX14_readParam_114 : decode cX14_readParam 114 = .ok (.invokevirtual 487, 3) := by decide +kernel
theorem dX14_readParam_117 : decode cX14_readParam 117 = .ok (.iconst 3, 1) := by decide +kernel
theorem dX14_readParam_118 : decode cX14_readParam 118 = .ok (.aload_n 0, 1) := by decide +kernel
theorem dX14_readParam_119 : decode cX14_readParam 119 = .ok (.getfield 317, 3) := by decide +kernel
theorem dX14_readParam_122 : decode cX14_readParam 122 = .ok (.imul, 1) := by decide +kernel
theorem dX14_readParam_123 : decode cX14_readParam 123 = .ok (.aload_n 0, 1) := by decide +kernel
theorem dX14_readParam_124 : decode cX14_readParam 124 = .ok (.getfield 195, 3) := by decide +kernel
theorem dX14_readParam_127 : decode cX14_readParam 127 = .ok (.iadd, 1) := by decide +kernel
theorem dX14_readParam_128 : decode cX14_readParam 128 = .ok (.istore_n 1, 1) := by decide +kernel
theorem dX14_readParam_129 : decode cX14_readParam 129 = .ok (.aload_n 0, 1) := by decide +kernel
theorem dX14_readParam_130 : decode cX14_readParam 130 = .ok (.getfield 23, 3) := by decide +kernel
theorem dX14_readParam_133 : decode cX14_readParam 133 = .ok (.getfield 490, 3) := by decide +kernel
theorem dX14_readParam_136 : decode cX14_readParam 136 = .ok (.iload_n 1, 1) := by decide +kernel
theorem dX14_readParam_137 : decode cX14_readParam 137 = .ok (.aload_n 0, 1) := by decide +kernel
theorem dX14_readParam_138 : decode cX14_readParam 138 = .ok (.invokevirtual 407, 3) := by decide +kernel
theorem dX14_readParam_141 : decode cX14_readParam 141 = .ok (.iastore, 1) := by decide +kernel
theorem dX14_readParam_142 : decode cX14_readParam 142 = .ok (.aload_n 0, 1) := by decide +kernel
theorem dX14_readParam_143 : decode cX14_readParam 143 = .ok (.sipush 11822, 3) := by decide +kernel
theorem dX14_readParam_146 : decode cX14_readParam 146 = .ok (.invokevirtual 267, 3) := by decide +kernel
theorem dX14_readParam_149 : decode cX14_readParam 149 = .ok (.aload_n 0, 1) := by decide +kernel
theorem dX14_readParam_150 : decode cX14_readParam 150 = .ok (.bipush 45, 2) := by decide +kernel
theorem dX14_readParam_152 : decode cX14_readParam 152 = .ok (.invokevirtual 182, 3) := by decide +kernel
theorem dX14_readParam_155 : decode cX14_readParam 155 = .ok (.istore_n 2, 1) := by decide +kernel
theorem dX14_readParam_156 : decode cX14_readParam 156 = .ok (.iload_n 2, 1) := by decide +kernel
theorem dX14_readParam_157 : decode cX14_readParam 157 = .ok (.ifCond .eq 7, 3) := by decide +kernel
theorem dX14_readParam_160 : decode cX14_readParam 160 = .ok (.aload_n 0, 1) := by decide +kernel
theorem dX14_readParam_161 : decode cX14_readParam 161 = .ok (.invokevirtual 185, 3) := by decide +kernel
theorem dX14_readParam_164 : decode cX14_readParam 164 = .ok (.aload_n 0, 1) := by decide +kernel
theorem dX14_readParam_165 : decode cX14_readParam 165 = .ok (.aload_n 0, 1) := by decide +kernel
theorem dX14_readParam_166 : decode cX14_readParam 166 = .ok (.getfield 131, 3) := by decide +kernel
theorem dX14_readParam_169 : decode cX14_readParam 169 = .ok (.iconst 3, 1) := by decide +kernel
theorem dX14_readParam_170 : decode cX14_readParam 170 = .ok (.if_icmp .ne 7, 3) := by decide +kernel
theorem dX14_readParam_173 : decode cX14_readParam 173 = .ok (.iconst 1, 1) := by decide +kernel
theorem dX14_readParam_174 : decode cX14_readParam 174 = .ok (.goto 4, 3) := by decide +kernel
theorem dX14_readParam_177 : decode cX14_readParam 177 = .ok (.iconst 0, 1) := by decide +kernel
theorem dX14_readParam_178 : decode cX14_readParam 178 = .ok (.iconst 1, 1) := by decide +kernel
theorem dX14_readParam_179 : decode cX14_readParam 179 = .ok (.aload_n 0, 1) := by decide +kernel
theorem dX14_readParam_180 : decode cX14_readParam 180 = .ok (.getfield 128, 3) := by decide +kernel
theorem dX14_readParam_183 : decode cX14_readParam 183 = .ok (.invokevirtual 172, 3) := by decide +kernel
theorem dX14_readParam_186 : decode cX14_readParam 186 = .ok (.iload_n 2, 1) := by decide +kernel
theorem dX14_readParam_187 : decode cX14_readParam 187 = .ok (.ifCond .eq 11, 3) := by decide +kernel
theorem dX14_readParam_190 : decode cX14_readParam 190 = .ok (.aload_n 0, 1) := by decide +kernel
theorem dX14_readParam_191 : decode cX14_readParam 191 = .ok (.getfield 162, 3) := by decide +kernel
theorem dX14_readParam_194 : decode cX14_readParam 194 = .ok (.lneg, 1) := by decide +kernel
theorem dX14_readParam_195 : decode cX14_readParam 195 = .ok (.goto 7, 3) := by decide +kernel
theorem dX14_readParam_198 : decode cX14_readParam 198 = .ok (.aload_n 0, 1) := by decide +kernel
theorem dX14_readParam_199 : decode cX14_readParam 199 = .ok (.getfield 162, 3) := by decide +kernel
theorem dX14_readParam_202 : decode cX14_readParam 202 = .ok (.l2i, 1) := by decide +kernel
theorem dX14_readParam_203 : decode cX14_readParam 203 = .ok (.istore_n 3, 1) := by decide +kernel
theorem dX14_readParam_204 : decode cX14_readParam 204 = .ok (.aload_n 0, 1) := by decide +kernel
theorem dX14_readParam_205 : decode cX14_readParam 205 = .ok (.iload_n 3, 1) := by decide +kernel
theorem dX14_readParam_206 : decode cX14_readParam 206 = .ok (.aload_n 0, 1) := by decide +kernel
theorem dX14_readParam_207 : decode cX14_readParam 207 = .ok (.getfield 23, 3) := by decide +kernel
theorem dX14_readParam_210 : decode cX14_readParam 210 = .ok (.getfield 490, 3) := by decide +kernel
theorem dX14_readParam_213 : decode cX14_readParam 213 = .ok (.iload_n 1, 1) := by decide +kernel
theorem dX14_readParam_214 : decode cX14_readParam 214 = .ok (.iaload, 1) := by decide +kernel
theorem dX14_readParam_215 : decode cX14_readParam 215 = .ok (.if_icmp .lt 7, 3) := by decide +kernel
theorem dX14_readParam_218 : decode cX14_readParam 218 = .ok (.iconst 1, 1) := by decide +kernel
theorem dX14_readParam_219 : decode cX14_readParam 219 = .ok (.goto 4, 3) := by decide +kernel
theorem dX14_readParam_222 : decode cX14_readParam 222 = .ok (.iconst 0, 1) := by decide +kernel
theorem dX14_readParam_223 : decode cX14_readParam 223 = .ok (.iconst 3, 1) := by decide +kernel
theorem dX14_readParam_224 : decode cX14_readParam 224 = .ok (.aload_n 0, 1) := by decide +kernel
theorem dX14_readParam_225 : decode cX14_readParam 225 = .ok (.getfield 128, 3) := by decide +kernel
theorem dX14_readParam_228 : decode cX14_readParam 228 = .ok (.invokevirtual 172, 3) := by decide +kernel
theorem dX14_readParam_231 : decode cX14_readParam 231 = .ok (.aload_n 0, 1) := by decide +kernel
theorem dX14_readParam_232 : decode cX14_readParam 232 = .ok (.getfield 23, 3) := by decide +kernel
theorem dX14_readParam_235 : decode cX14_readParam 235 = .ok (.getfield 493, 3) := by decide +kernel
theorem dX14_readParam_238 : decode cX14_readParam 238 = .ok (.iload_n 1, 1) := by decide +kernel
theorem dX14_readParam_239 : decode cX14_readParam 239 = .ok (.iload_n 3, 1) := by decide +kernel
theorem dX14_readParam_240 : decode cX14_readParam 240 = .ok (.iastore, 1) := by decide +kernel
theorem dX14_readParam_241 : decode cX14_readParam 241 = .ok (.aload_n 0, 1) := by decide +kernel
theorem dX14_readParam_242 : decode cX14_readParam 242 = .ok (.invokevirtual 185, 3) := by decide +kernel
theorem dX14_readParam_245 : decode cX14_readParam 245 = .ok (.aload_n 0, 1) := by decide +kernel
theorem dX14_readParam_246 : decode cX14_readParam 246 = .ok (.dup, 1) := by decide +kernel
theorem dX14_readParam_247 : decode cX14_readParam 247 = .ok (.getfield 195, 3) := by decide +kernel
theorem dX14_readParam_250 : decode cX14_readParam 250 = .ok (.iconst 1, 1) := by decide +kernel
theorem dX14_readParam_251 : decode cX14_readParam 251 = .ok (.iadd, 1) := by decide +kernel
theorem dX14_readParam_252 : decode cX14_readParam 252 = .ok (.putfield 195, 3) := by decide +kernel
theorem dX14_readParam_255 : decode cX14_readParam 255 = .ok (.aload_n 0, 1) := by decide +kernel
theorem dX14_readParam_256 : decode cX14_readParam 256 = .ok (.getfield 23, 3) := by decide +kernel
theorem dX14_readParam_259 : decode cX14_readParam 259 = .ok (.getfield 324, 3) := by decide +kernel
theorem dX14_readParam_262 : decode cX14_readParam 262 = .ok (.aload_n 0, 1) := by decide +kernel
theorem dX14_readParam_263 : decode cX14_readParam 263 = .ok (.getfield 317, 3) := by decide +kernel
theorem dX14_readParam_266 : decode cX14_readParam 266 = .ok (.dup2, 1) := by decide +kernel
theorem dX14_readParam_267 : decode cX14_readParam 267 = .ok (.iaload, 1) := by decide +kernel
theorem dX14_readParam_268 : decode cX14_readParam 268 = .ok (.iconst 1, 1) := by decide +kernel
theorem dX14_readParam_269 : decode cX14_readParam 269 = .ok (.iadd, 1) := by decide +kernel
theorem dX14_readParam_270 : decode cX14_readParam 270 = .ok (.iastore, 1) := by decide +kernel
theorem dX14_readParam_271 : decode cX14_readParam 271 = .ok (.return_, 1) := by decide +kernel
