theorem dX14_goOver_0 : decode cX14_goOver 0 = .ok (.aload_n 0, 1) := by decide +kernel
theorem dX14_goOver_1 : decode cX14_goOver 1 = .ok (.getfield 529, 3) := by decide +kernel
theorem dX14_goOver_4 : decode cX14_goOver 4 = .ok (.iload_n 2, 1) := by decide +kernel
theorem dX14_goOver_5 : decode cX14_goOver 5 = .ok (.if_icmp .ne 61, 3) := by decide +kernel
theorem dX14_goOver_8 : decode cX14_goOver 8 = .ok (.aload_n 0, 1) := by decide +kernel
theorem dX14_goOver_9 : decode cX14_goOver 9 = .ok (.getfield 538, 3) := by decide +kernel
theorem dX14_goOver_12 : decode cX14_goOver 12 = .ok (.sipush 600, 3) := by decide +kernel
theorem dX14_goOver_15 : decode cX14_goOver 15 = .ok (.if_icmp .ne 5, 3) := by decide +kernel
theorem dX14_goOver_18 : decode cX14_goOver 18 = .ok (.iconst 1, 1) := by decide +kernel
theorem dX14_goOver_19 : decode cX14_goOver 19 = .ok (.ireturn, 1) := by decide +kernel
theorem dX14_goOver_20 : decode cX14_goOver 20 = .ok (.aload_n 0, 1) := by decide +kernel
theorem dX14_goOver_21 : decode cX14_goOver 21 = .ok (.aload_n 0, 1) := by decide +kernel
theorem dX14_goOver_22 : decode cX14_goOver 22 = .ok (.invokevirtual 708, 3) := by decide +kernel
theorem dX14_goOver_25 : decode cX14_goOver 25 = .ok (.ifCond .eq 10, 3) := by decide +kernel
theorem dX14_goOver_28 : decode cX14_goOver 28 = .ok (.aload_n 0, 1) := by decide +kernel
theorem dX14_goOver_29 : decode cX14_goOver 29 = .ok (.getfield 618, 3) := by decide +kernel
theorem dX14_goOver_32 : decode cX14_goOver 32 = .ok (.goto 4, 3) := by decide +kernel
theorem dX14_goOver_35 : decode cX14_goOver 35 = .ok (.iconst 0, 1) := by decide +kernel
theorem dX14_goOver_36 : decode cX14_goOver 36 = .ok (.putfield 711, 3) := by decide +kernel
theorem dX14_goOver_39 : decode cX14_goOver 39 = .ok (.aload_n 0, 1) := by decide +kernel
theorem dX14_goOver_40 : decode cX14_goOver 40 = .ok (.invokevirtual 714, 3) := by decide +kernel
theorem dX14_goOver_43 : decode cX14_goOver 43 = .ok (.aload_n 0, 1) := by decide +kernel
theorem dX14_goOver_44 : decode cX14_goOver 44 = .ok (.getfield 711, 3) := by decide +kernel
theorem dX14_goOver_47 : decode cX14_goOver 47 = .ok (.ifCond .gt 13, 3) := by decide +kernel
theorem dX14_goOver_50 : decode cX14_goOver 50 = .ok (.aload_n 0, 1) := by decide +kernel
theorem dX14_goOver_51 : decode cX14_goOver 51 = .ok (.getfield 538, 3) := by decide +kernel
theorem dX14_goOver_54 : decode cX14_goOver 54 = .ok (.sipush 600, 3) := by decide +kernel
theorem dX14_goOver_57 : decode cX14_goOver 57 = .ok (.if_icmp .ne 7, 3) := by decide +kernel
theorem dX14_goOver_60 : decode cX14_goOver 60 = .ok (.iconst 1, 1) := by decide +kernel
theorem dX14_goOver_61 : decode cX14_goOver 61 = .ok (.goto 4, 3) := by decide +kernel
theorem dX14_goOver_64 : decode cX14_goOver 64 = .ok (.iconst 0, 1) := by decide +kernel
theorem dX14_goOver_65 : decode cX14_goOver 65 = .ok (.ireturn, 1) := by decide +kernel
theorem dX14_goOver_66 : decode cX14_goOver 66 = .ok (.aload_n 0, 1) := by decide +kernel
theorem dX14_goOver_67 : decode cX14_goOver 67 = .ok (.getfield 529, 3) := by decide +kernel
theorem dX14_goOver_70 : decode cX14_goOver 70 = .ok (.ifCond .le 13, 3) := by decide +kernel
theorem dX14_goOver_73 : decode cX14_goOver 73 = .ok (.aload_n 0, 1) := by decide +kernel
theorem dX14_goOver_74 : decode cX14_goOver 74 = .ok (.invokevirtual 687, 3) := by decide +kernel
theorem dX14_goOver_77 : decode cX14_goOver 77 = .ok (.iconst (-1), 1) := by decide +kernel
theorem dX14_goOver_78 : decode cX14_goOver 78 = .ok (.if_icmp .ne 5, 3) := by decide +kernel
theorem dX14_goOver_81 : decode cX14_goOver 81 = .ok (.iconst 0, 1) := by decide +kernel
theorem dX14_goOver_82 : decode cX14_goOver 82 = .ok (.ireturn, 1) := by decide +kernel
theorem dX14_goOver_83 : decode cX14_goOver 83 = .ok (.aload_n 0, 1) := by decide +kernel
theorem dX14_goOver_84 : decode cX14_goOver 84 = .ok (.getfield 529, 3) := by decide +kernel
theorem dX14_goOver_87 : decode cX14_goOver 87 = .ok (.ifCond .ne 15, 3) := by decide +kernel
theorem dX14_goOver_90 : decode cX14_goOver 90 = .ok (.aload_n 0, 1) := by decide +kernel
theorem dX14_goOver_91 : decode cX14_goOver 91 = .ok (.iload_n 1, 1) := by decide +kernel
theorem dX14_goOver_92 : decode cX14_goOver 92 = .ok (.invokevirtual 677, 3) := by decide +kernel
theorem dX14_goOver_95 : decode cX14_goOver 95 = .ok (.aload_n 0, 1) := by decide +kernel
theorem dX14_goOver_96 : decode cX14_goOver 96 = .ok (.iload_n 1, 1) := by decide +kernel
theorem dX14_goOver_97 : decode cX14_goOver 97 = .ok (.iload_n 2, 1) := by decide +kernel
theorem dX14_goOver_98 : decode cX14_goOver 98 = .ok (.invokevirtual 717, 3) := by decide +kernel
theorem dX14_goOver_101 : decode cX14_goOver 101 = .ok (.ireturn, 1) := by decide +kernel
theorem dX14_goOver_102 : decode cX14_goOver 102 = .ok (.aload_n 0, 1) := by decide +kernel
theorem dX14_goOver_103 : decode cX14_goOver 103 = .ok (.getfield 529, 3) := by decide +kernel
theorem dX14_goOver_106 : decode cX14_goOver 106 = .ok (.istore_n 3, 1) := by decide +kernel
theorem dX14_goOver_107 : decode cX14_goOver 107 = .ok (.aload_n 0, 1) := by decide +kernel
theorem dX14_goOver_108 : decode cX14_goOver 108 = .ok (.getfield 532, 3) := by decide +kernel
theorem dX14_goOver_111 : decode cX14_goOver 111 = .ok (.istore 4, 2) := by decide +kernel
theorem dX14_goOver_113 : decode cX14_goOver 113 = .ok (.iconst 0, 1) := by decide +kernel
theorem dX14_goOver_114 : decode cX14_goOver 114 = .ok (.istore 5, 2) := by decide +kernel
theorem dX14_goOver_116 : decode cX14_goOver 116 = .ok (.iload 5, 2) := by decide +kernel
theorem dX14_goOver_118 : decode cX14_goOver 118 = .ok (.aload_n 0, 1) := by decide +kernel
theorem dX14_goOver_119 : decode cX14_goOver 119 = .ok (.getfield 19, 3) := by decide +kernel
theorem dX14_goOver_122 : decode cX14_goOver 122 = .ok (.getfield 456, 3) := by decide +kernel
theorem dX14_goOver_125 : decode cX14_goOver 125 = .ok (.iload_n 1, 1) := by decide +kernel
theorem dX14_goOver_126 : decode cX14_goOver 126 = .ok (.iaload, 1) := by decide +kernel
theorem dX14_goOver_127 : decode cX14_goOver 127 = .ok (.if_icmp .ge 281, 3) := by decide +kernel
theorem dX14_goOver_130 : decode cX14_goOver 130 = .ok (.aload_n 0, 1) := by decide +kernel
theorem dX14_goOver_131 : decode cX14_goOver 131 = .ok (.getfield 19, 3) := by decide +kernel
theorem dX14_goOver_134 : decode cX14_goOver 134 = .ok (.getfield 477, 3) := by decide +kernel
theorem dX14_goOver_137 : decode cX14_goOver 137 = .ok (.bipush 12, 2) := by decide +kernel
theorem dX14_goOver_139 : decode cX14_goOver 139 = .ok (.iload_n 1, 1) := by decide +kernel
theorem dX14_goOver_140 : decode cX14_goOver 140 = .ok (.imul, 1) := by decide +kernel
theorem dX14_goOver_141 : decode cX14_goOver 141 = .ok (.iload 5, 2) := by decide +kernel
theorem dX14_goOver_143 : decode cX14_goOver 143 = .ok (.iadd, 1) := by decide +kernel
theorem dX14_goOver_144 : decode cX14_goOver 144 = .ok (.iaload, 1) := by decide +kernel
theorem dX14_goOver_145 : decode cX14_goOver 145 = .ok (.istore 6, 2) := by decide +kernel
theorem dX14_goOver_147 : decode cX14_goOver 147 = .ok (.aload_n 0, 1) := by decide +kernel
theorem dX14_goOver_148 : decode cX14_goOver 148 = .ok (.getfield 19, 3) := by decide +kernel
theorem dX14_goOver_151 : decode cX14_goOver 151 = .ok (.getfield 324, 3) := by decide +kernel
theorem dX14_goOver_154 : decode cX14_goOver 154 = .ok (.iload 6, 2) := by decide +kernel
theorem dX14_goOver_156 : decode cX14_goOver 156 = .ok (.iaload, 1) := by decide +kernel
theorem dX14_goOver_157 : decode cX14_goOver 157 = .ok (.ifCond .le 13, 3) := by decide +kernel
theorem dX14_goOver_160 : decode cX14_goOver 160 = .ok (.aload_n 0, 1) := by decide +kernel
theorem dX14_goOver_161 : decode cX14_goOver 161 = .ok (.iload 6, 2) := by decide +kernel
theorem dX14_goOver_163 : decode cX14_goOver 163 = .ok (.iconst 0, 1) := by decide +kernel
theorem dX14_goOver_164 : decode cX14_goOver 164 = .ok (.invokevirtual 721, 3) := by decide +kernel
theorem dX14_goOver_167 : decode cX14_goOver 167 = .ok (.goto 4, 3) := by decide +kernel
theorem dX14_goOver_170 : decode cX14_goOver 170 = .ok (.iconst 1, 1) := by decide +kernel
theorem dX14_goOver_171 : decode cX14_goOver 171 = .ok (.istore 7, 2) := by decide +kernel
theorem dX14_goOver_173 : decode cX14_goOver 173 = .ok (.aload_n 0, 1) := by decide +kernel
theorem dX14_goOver_174 : decode cX14_goOver 174 = .ok (.getfield 19, 3) := by decide +kernel
theorem dX14_goOver_177 : decode cX14_goOver 177 = .ok (.getfield 324, 3) := by decide +kernel
theorem dX14_goOver_180 : decode cX14_goOver 180 = .ok (.iload 6, 2) := by decide +kernel
theorem dX14_goOver_182 : decode cX14_goOver 182 = .ok (.iaload, 1) := by decide +kernel
theorem dX14_goOver_183 : decode cX14_goOver 183 = .ok (.iconst 1, 1) := by decide +kernel
theorem dX14_goOver_184 : decode cX14_goOver 184 = .ok (.if_icmp .le 13, 3) := by decide +kernel
theorem dX14_goOver_187 : decode cX14_goOver 187 = .ok (.aload_n 0, 1) := by decide +kernel
theorem dX14_goOver_188 : decode cX14_goOver 188 = .ok (.iload 6, 2) := by decide +kernel
theorem dX14_goOver_190 : decode cX14_goOver 190 = .ok (.iconst 1, 1) := by decide +kernel
theorem dX14_goOver_191 : decode cX14_goOver 191 = .ok (.invokevirtual 721, 3) := by decide +kernel
theorem dX14_goOver_194 : decode cX14_goOver 194 = .ok (.goto 4, 3) := by decide +kernel
theorem dX14_goOver_197 : decode cX14_goOver 197 = .ok (.iconst 1, 1) := by decide +kernel
theorem dX14_goOver_198 : decode cX14_goOver 198 = .ok (.istore 8, 2) := by decide +kernel
theorem dX14_goOver_200 : decode cX14_goOver 200 = .ok (.aload_n 0, 1) := by decide +kernel
theorem dX14_goOver_201 : decode cX14_goOver 201 = .ok (.getfield 19, 3) := by decide +kernel
theorem dX14_goOver_204 : decode cX14_goOver 204 = .ok (.getfield 324, 3) := by decide +kernel
theorem dX14_goOver_207 : decode cX14_goOver 207 = .ok (.iload 6, 2) := by decide +kernel
theorem dX14_goOver_209 : decode cX14_goOver 209 = .ok (.iaload, 1) := by decide +kernel
theorem dX14_goOver_210 : decode cX14_goOver 210 = .ok (.iconst 2, 1) := by decide +kernel
theorem dX14_goOver_211 : decode cX14_goOver 211 = .ok (.if_icmp .le 13, 3) := by decide +kernel
theorem dX14_goOver_214 : decode cX14_goOver 214 = .ok (.aload_n 0, 1) := by decide +kernel
theorem dX14_goOver_215 : decode cX14_goOver 215 = .ok (.iload 6, 2) := by decide +kernel
theorem dX14_goOver_217 : decode cX14_goOver 217 = .ok (.iconst 2, 1) := by decide +kernel
theorem dX14_goOver_218 : decode cX14_goOver 218 = .ok (.invokevirtual 721, 3) := by decide +kernel
theorem dX14_goOver_221 : decode cX14_goOver 221 = .ok (.goto 4, 3) := by decide +kernel
theorem dX14_goOver_224 : decode cX14_goOver 224 = .ok (.iconst 1, 1) := by decide +kernel
theorem dX14_goOver_225 : decode cX14_goOver 225 = .ok (.istore 9, 2) := by decide +kernel
theorem dX14_goOver_227 : decode cX14_goOver 227 = .ok (.iconst 0, 1) := by decide +kernel
theorem dX14_goOver_228 : decode cX14_goOver 228 = .ok (.istore 10, 2) := by decide +kernel
theorem dX14_goOver_230 : decode cX14_goOver 230 = .ok (.iload 10, 2) := by decide +kernel
theorem dX14_goOver_232 : decode cX14_goOver 232 = .ok (.iload 4, 2) := by decide +kernel
theorem dX14_goOver_234 : decode cX14_goOver 234 = .ok (.if_icmp .ge 168, 3) := by decide +kernel
theorem dX14_goOver_237 : decode cX14_goOver 237 = .ok (.iconst 0, 1) := by decide +kernel
theorem dX14_goOver_238 : decode cX14_goOver 238 = .ok (.istore 11, 2) := by decide +kernel
theorem dX14_goOver_240 : decode cX14_goOver 240 = .ok (.iload 11, 2) := by decide +kernel
theorem dX14_goOver_242 : decode cX14_goOver 242 = .ok (.iload 7, 2) := by decide +kernel
theorem dX14_goOver_244 : decode cX14_goOver 244 = .ok (.iload 8, 2) := by decide +kernel
theorem dX14_goOver_246 : decode cX14_goOver 246 = .ok (.imul, 1) := by decide +kernel
theorem dX14_goOver_247 : decode cX14_goOver 247 = .ok (.iload 9, 2) := by decide +kernel
theorem dX14_goOver_249 : decode cX14_goOver 249 = .ok (.imul, 1) := by decide +kernel
theorem dX14_goOver_250 : decode cX14_goOver 250 = .ok (.if_icmp .ge 146, 3) := by decide +kernel
theorem dX14_goOver_253 : decode cX14_goOver 253 = .ok (.aload_n 0, 1) := by decide +kernel
theorem dX14_goOver_254 : decode cX14_goOver 254 = .ok (.getfield 19, 3) := by decide +kernel
theorem dX14_goOver_257 : decode cX14_goOver 257 = .ok (.getfield 324, 3) := by decide +kernel
theorem dX14_goOver_260 : decode cX14_goOver 260 = .ok (.iload 6, 2) := by decide +kernel
theorem dX14_goOver_262 : decode cX14_goOver 262 = .ok (.iaload, 1) := by decide +kernel
theorem dX14_goOver_263 : decode cX14_goOver 263 = .ok (.ifCond .le 21, 3) := by decide +kernel
theorem dX14_goOver_266 : decode cX14_goOver 266 = .ok (.aload_n 0, 1) := by decide +kernel
theorem dX14_goOver_267 : decode cX14_goOver 267 = .ok (.iload 6, 2) := by decide +kernel
theorem dX14_goOver_269 : decode cX14_goOver 269 = .ok (.iconst 0, 1) := by decide +kernel
theorem dX14_goOver_270 : decode cX14_goOver 270 = .ok (.iload 11, 2) := by decide +kernel
theorem dX14_goOver_272 : decode cX14_goOver 272 = .ok (.iload 8, 2) := by decide +kernel
theorem dX14_goOver_274 : decode cX14_goOver 274 = .ok (.iload 9, 2) := by decide +kernel
theorem dX14_goOver_276 : decode cX14_goOver 276 = .ok (.imul, 1) := by decide +kernel
theorem dX14_goOver_277 : decode cX14_goOver 277 = .ok (.idiv, 1) := by decide +kernel
theorem dX14_goOver_278 : decode cX14_goOver 278 = .ok (.invokevirtual 724, 3) := by decide +kernel
theorem dX14_goOver_281 : decode cX14_goOver 281 = .ok (.goto 4, 3) := by decide +kernel
theorem dX14_goOver_284 : decode cX14_goOver 284 = .ok (.iconst 0, 1) := by decide +kernel
theorem dX14_goOver_285 : decode cX14_goOver 285 = .ok (.istore 12, 2) := by decide +kernel
theorem dX14_goOver_287 : decode cX14_goOver 287 = .ok (.aload_n 0, 1) := by decide +kernel
theorem dX14_goOver_288 : decode cX14_goOver 288 = .ok (.getfield 19, 3) := by decide +kernel
theorem dX14_goOver_291 : decode cX14_goOver 291 = .ok (.getfield 324, 3) := by decide +kernel
theorem dX14_goOver_294 : decode cX14_goOver 294 = .ok (.iload 6, 2) := by decide +kernel
theorem dX14_goOver_296 : decode cX14_goOver 296 = .ok (.iaload, 1) := by decide +kernel
theorem dX14_goOver_297 : decode cX14_goOver 297 = .ok (.iconst 1, 1) := by decide +kernel
theorem dX14_goOver_298 : decode cX14_goOver 298 = .ok (.if_icmp .le 21, 3) := by decide +kernel
theorem dX14_goOver_301 : decode cX14_goOver 301 = .ok (.aload_n 0, 1) := by decide +kernel
theorem dX14_goOver_302 : decode cX14_goOver 302 = .ok (.iload 6, 2) := by decide +kernel
theorem dX14_goOver_304 : decode cX14_goOver 304 = .ok (.iconst 1, 1) := by decide +kernel
theorem dX14_goOver_305 : decode cX14_goOver 305 = .ok (.iload 11, 2) := by decide +kernel
theorem dX14_goOver_307 : decode cX14_goOver 307 = .ok (.iload 9, 2) := by decide +kernel
theorem dX14_goOver_309 : decode cX14_goOver 309 = .ok (.idiv, 1) := by decide +kernel
theorem dX14_goOver_310 : decode cX14_goOver 310 = .ok (.iload 8, 2) := by decide +kernel
theorem dX14_goOver_312 : decode cX14_goOver 312 = .ok (.irem, 1) := by decide +kernel
theorem dX14_goOver_313 : decode cX14_goOver 313 = .ok (.invokevirtual 724, 3) := by decide +kernel
theorem dX14_goOver_316 : decode cX14_goOver 316 = .ok (.goto 4, 3) := by decide +kernel
theorem dX14_goOver_319 : decode cX14_goOver 319 = .ok (.iconst 0, 1) := by decide +kernel
theorem dX14_goOver_320 : decode cX14_goOver 320 = .ok (.istore 13, 2) := by decide +kernel
theorem dX14_goOver_322 : decode cX14_goOver 322 = .ok (.aload_n 0, 1) := by decide +kernel
theorem dX14_goOver_323 : decode cX14_goOver 323 = .ok (.getfield 19, 3) := by decide +kernel
theorem dX14_goOver_326 : decode cX14_goOver 326 = .ok (.getfield 324, 3) := by decide +kernel
theorem dX14_goOver_329 : decode cX14_goOver 329 = .ok (.iload 6, 2) := by decide +kernel
theorem dX14_goOver_331 : decode cX14_goOver 331 = .ok (.iaload, 1) := by decide +kernel
theorem dX14_goOver_332 : decode cX14_goOver 332 = .ok (.iconst 2, 1) := by decide +kernel
theorem dX14_goOver_333 : decode cX14_goOver 333 = .ok (.if_icmp .le 18, 3) := by decide +kernel
theorem dX14_goOver_336 : decode cX14_goOver 336 = .ok (.aload_n 0, 1) := by decide +kernel
theorem dX14_goOver_337 : decode cX14_goOver 337 = .ok (.iload 6, 2) := by decide +kernel
theorem dX14_goOver_339 : decode cX14_goOver 339 = .ok (.iconst 2, 1) := by decide +kernel
theorem dX14_goOver_340 : decode cX14_goOver 340 = .ok (.iload 11, 2) := by decide +kernel
theorem dX14_goOver_342 : decode cX14_goOver 342 = .ok (.iload 9, 2) := by decide +kernel
theorem dX14_goOver_344 : decode cX14_goOver 344 = .ok (.irem, 1) := by decide +kernel
theorem dX14_goOver_345 : decode cX14_goOver 345 = .ok (.invokevirtual 724, 3) := by decide +kernel
theorem dX14_goOver_348 : decode cX14_goOver 348 = .ok (.goto 4, 3) := by decide +kernel
theorem dX14_goOver_351 : decode cX14_goOver 351 = .ok (.iconst 0, 1) := by decide +kernel
theorem dX14_goOver_352 : decode cX14_goOver 352 = .ok (.istore 14, 2) := by decide +kernel
theorem dX14_goOver_354 : decode cX14_goOver 354 = .ok (.aload_n 0, 1) := by decide +kernel
theorem dX14_goOver_355 : decode cX14_goOver 355 = .ok (.iload 10, 2) := by decide +kernel
theorem dX14_goOver_357 : decode cX14_goOver 357 = .ok (.iload 5, 2) := by decide +kernel
theorem dX14_goOver_359 : decode cX14_goOver 359 = .ok (.iload 12, 2) := by decide +kernel
theorem dX14_goOver_361 : decode cX14_goOver 361 = .ok (.iload 13, 2) := by decide +kernel
theorem dX14_goOver_363 : decode cX14_goOver 363 = .ok (.iload 14, 2) := by decide +kernel
theorem dX14_goOver_365 : decode cX14_goOver 365 = .ok (.invokevirtual 683, 3) := by decide +kernel
theorem dX14_goOver_368 : decode cX14_goOver 368 = .ok (.aload_n 0, 1) := by decide +kernel
theorem dX14_goOver_369 : decode cX14_goOver 369 = .ok (.iload_n 1, 1) := by decide +kernel
theorem dX14_goOver_370 : decode cX14_goOver 370 = .ok (.iload_n 2, 1) := by decide +kernel
theorem dX14_goOver_371 : decode cX14_goOver 371 = .ok (.invokevirtual 717, 3) := by decide +kernel
theorem dX14_goOver_374 : decode cX14_goOver 374 = .ok (.ifCond .eq 5, 3) := by decide +kernel
theorem dX14_goOver_377 : decode cX14_goOver 377 = .ok (.iconst 1, 1) := by decide +kernel
theorem dX14_goOver_378 : decode cX14_goOver 378 = .ok (.ireturn, 1) := by decide +kernel
theorem dX14_goOver_379 : decode cX14_goOver 379 = .ok (.aload_n 0, 1) := by decide +kernel
theorem dX14_goOver_380 : decode cX14_goOver 380 = .ok (.iload_n 3, 1) := by decide +kernel
theorem dX14_goOver_381 : decode cX14_goOver 381 = .ok (.putfield 529, 3) := by decide +kernel
theorem dX14_goOver_384 : decode cX14_goOver 384 = .ok (.aload_n 0, 1) := by decide +kernel
theorem dX14_goOver_385 : decode cX14_goOver 385 = .ok (.iload 4, 2) := by decide +kernel
theorem dX14_goOver_387 : decode cX14_goOver 387 = .ok (.putfield 532, 3) := by decide +kernel
theorem dX14_goOver_390 : decode cX14_goOver 390 = .ok (.iinc 11 1, 3) := by decide +kernel
theorem dX14_goOver_393 : decode cX14_goOver 393 = .ok (.goto (-153), 3) := by decide +kernel
theorem dX14_goOver_396 : decode cX14_goOver 396 = .ok (.iinc 10 1, 3) := by decide +kernel
theorem dX14_goOver_399 : decode cX14_goOver 399 = .ok (.goto (-169), 3) := by decide +kernel
theorem dX14_goOver_402 : decode cX14_goOver 402 = .ok (.iinc 5 1, 3) := by decide +kernel
theorem dX14_goOver_405 : decode cX14_goOver 405 = .ok (.goto (-289), 3) := by decide +kernel
theorem dX14_goOver_408 : decode cX14_goOver 408 = .ok (.iload 4, 2) := by decide +kernel
theorem dX14_goOver_410 : decode cX14_goOver 410 = .ok (.iconst 3, 1) := by decide +kernel
theorem dX14_goOver_411 : decode cX14_goOver 411 = .ok (.if_icmp .ne 5, 3) := by decide +kernel
theorem dX14_goOver_414 : decode cX14_goOver 414 = .ok (.iconst 0, 1) := by decide +kernel
theorem dX14_goOver_415 : decode cX14_goOver 415 = .ok (.ireturn, 1) := by decide +kernel
theorem dX14_goOver_416 : decode cX14_goOver 416 = .ok (.aload_n 0, 1) := by decide +kernel
theorem dX14_goOver_417 : decode cX14_goOver 417 = .ok (.iload_n 1, 1) := by decide +kernel
theorem dX14_goOver_418 : decode cX14_goOver 418 = .ok (.invokevirtual 677, 3) := by decide +kernel
theorem dX14_goOver_421 : decode cX14_goOver 421 = .ok (.aload_n 0, 1) := by decide +kernel
theorem dX14_goOver_422 : decode cX14_goOver 422 = .ok (.iload_n 1, 1) := by decide +kernel
theorem dX14_goOver_423 : decode cX14_goOver 423 = .ok (.iload_n 2, 1) := by decide +kernel
theorem dX14_goOver_424 : decode cX14_goOver 424 = .ok (.invokevirtual 717, 3) := by decide +kernel
theorem dX14_goOver_427 : decode cX14_goOver 427 = .ok (.ifCond .eq 5, 3) := by decide +kernel
theorem dX14_goOver_430 : decode cX14_goOver 430 = .ok (.iconst 1, 1) := by decide +kernel
theorem dX14_goOver_431 : decode cX14_goOver 431 = .ok (.ireturn, 1) := by decide +kernel
theorem dX14_goOver_432 : decode cX14_goOver 432 = .ok (.aload_n 0, 1) := by decide +kernel
theorem dX14_goOver_433 : decode cX14_goOver 433 = .ok (.iload_n 3, 1) := by decide +kernel
theorem dX14_goOver_434 : decode cX14_goOver 434 = .ok (.putfield 529, 3) := by decide +kernel
theorem dX14_goOver_437 : decode cX14_goOver 437 = .ok (.aload_n 0, 1) := by decide +kernel
theorem dX14_goOver_438 : decode cX14_goOver 438 = .ok (.iload 4, 2) := by decide +kernel
theorem dX14_goOver_440 : decode cX14_goOver 440 = .ok (.putfield 532, 3) := by decide +kernel
theorem dX14_goOver_443 : decode cX14_goOver 443 = .ok (.iconst 0, 1) := by decide +kernel
theorem dX14_goOver_444 : decode cX14_goOver 444 = .ok (.ireturn, 1) := by decide +kernel
