theorem dX14_readMember_0 : decode cX14_readMember 0 = .ok (.aload_n 0, 1) := by decide +kernel
theorem dX14_readMember_1 : decode cX14_readMember 1 = .ok (.invokevirtual 185, 3) := by decide +kernel
theorem dX14_readMember_4 : decode cX14_readMember 4 = .ok (.aload_n 0, 1) := by decide +kernel
theorem dX14_readMember_5 : decode cX14_readMember 5 = .ok (.aload_n 0, 1) := by decide +kernel
theorem dX14_readMember_6 : decode cX14_readMember 6 = .ok (.getfield 131, 3) := by decide +kernel
theorem dX14_readMember_9 : decode cX14_readMember 9 = .ok (.iconst 1, 1) := by decide +kernel
theorem dX14_readMember_10 : decode cX14_readMember 10 = .ok (.if_icmp .ne 7, 3) := by decide +kernel
theorem dX14_readMember_13 : decode cX14_readMember 13 = .ok (.iconst 1, 1) := by decide +kernel
theorem dX14_readMember_14 : decode cX14_readMember 14 = .ok (.goto 4, 3) := by decide +kernel
theorem dX14_readMember_17 : decode cX14_readMember 17 = .ok (.iconst 0, 1) := by decide +kernel
theorem dX14_readMember_18 : decode cX14_readMember 18 = .ok (.iconst 1, 1) := by decide +kernel
theorem dX14_readMember_19 : decode cX14_readMember 19 = .ok (.aload_n 0, 1) := by decide +kernel
theorem dX14_readMember_20 : decode cX14_readMember 20 = .ok (.getfield 128, 3) := by decide +kernel
theorem dX14_readMember_23 : decode cX14_readMember 23 = .ok (.invokevirtual 172, 3) := by decide +kernel
theorem dX14_readMember_26 : decode cX14_readMember 26 = .ok (.aload_n 0, 1) := by decide +kernel
theorem dX14_readMember_27 : decode cX14_readMember 27 = .ok (.getfield 23, 3) := by decide +kernel
theorem dX14_readMember_30 : decode cX14_readMember 30 = .ok (.aload_n 0, 1) := by decide +kernel
theorem dX14_readMember_31 : decode cX14_readMember 31 = .ok (.getfield 201, 3) := by decide +kernel
theorem dX14_readMember_34 : decode cX14_readMember 34 = .ok (.aload_n 0, 1) := by decide +kernel
theorem dX14_readMember_35 : decode cX14_readMember 35 = .ok (.getfield 155, 3) := by decide +kernel
theorem dX14_readMember_38 : decode cX14_readMember 38 = .ok (.aload_n 0, 1) := by decide +kernel
theorem dX14_readMember_39 : decode cX14_readMember 39 = .ok (.getfield 159, 3) := by decide +kernel
theorem dX14_readMember_42 : decode cX14_readMember 42 = .ok (.invokevirtual 300, 3) := by decide +kernel
theorem dX14_readMember_45 : decode cX14_readMember 45 = .ok (.istore_n 1, 1) := by decide +kernel
theorem dX14_readMember_46 : decode cX14_readMember 46 = .ok (.aload_n 0, 1) := by decide +kernel
theorem dX14_readMember_47 : decode cX14_readMember 47 = .ok (.iload_n 1, 1) := by decide +kernel
theorem dX14_readMember_48 : decode cX14_readMember 48 = .ok (.iconst (-1), 1) := by decide +kernel
theorem dX14_readMember_49 : decode cX14_readMember 49 = .ok (.if_icmp .eq 19, 3) := by decide +kernel
theorem dX14_readMember_52 : decode cX14_readMember 52 = .ok (.aload_n 0, 1) := by decide +kernel
theorem dX14_readMember_53 : decode cX14_readMember 53 = .ok (.getfield 23, 3) := by decide +kernel
theorem dX14_readMember_56 : decode cX14_readMember 56 = .ok (.getfield 453, 3) := by decide +kernel
theorem dX14_readMember_59 : decode cX14_readMember 59 = .ok (.iload_n 1, 1) := by decide +kernel
theorem dX14_readMember_60 : decode cX14_readMember 60 = .ok (.iaload, 1) := by decide +kernel
theorem dX14_readMember_61 : decode cX14_readMember 61 = .ok (.aload_n 0, 1) := by decide +kernel
theorem dX14_readMember_62 : decode cX14_readMember 62 = .ok (.getfield 201, 3) := by decide +kernel
theorem dX14_readMember_65 : decode cX14_readMember 65 = .ok (.if_icmp .eq 7, 3) := by decide +kernel
theorem dX14_readMember_68 : decode cX14_readMember 68 = .ok (.iconst 1, 1) := by decide +kernel
theorem dX14_readMember_69 : decode cX14_readMember 69 = .ok (.goto 4, 3) := by decide +kernel
theorem dX14_readMember_72 : decode cX14_readMember 72 = .ok (.iconst 0, 1) := by decide +kernel
theorem dX14_readMember_73 : decode cX14_readMember 73 = .ok (.iconst 2, 1) := by decide +kernel
theorem dX14_readMember_74 : decode cX14_readMember 74 = .ok (.aload_n 0, 1) := by decide +kernel
theorem dX14_readMember_75 : decode cX14_readMember 75 = .ok (.getfield 128, 3) := by decide +kernel
theorem dX14_readMember_78 : decode cX14_readMember 78 = .ok (.invokevirtual 172, 3) := by decide +kernel
theorem dX14_readMember_81 : decode cX14_readMember 81 = .ok (.aload_n 0, 1) := by decide +kernel
theorem dX14_readMember_82 : decode cX14_readMember 82 = .ok (.iload_n 1, 1) := by decide +kernel
theorem dX14_readMember_83 : decode cX14_readMember 83 = .ok (.iconst (-1), 1) := by decide +kernel
theorem dX14_readMember_84 : decode cX14_readMember 84 = .ok (.if_icmp .ne 20, 3) := by decide +kernel
theorem dX14_readMember_87 : decode cX14_readMember 87 = .ok (.aload_n 0, 1) := by decide +kernel
theorem dX14_readMember_88 : decode cX14_readMember 88 = .ok (.getfield 23, 3) := by decide +kernel
theorem dX14_readMember_91 : decode cX14_readMember 91 = .ok (.getfield 456, 3) := by decide +kernel
theorem dX14_readMember_94 : decode cX14_readMember 94 = .ok (.aload_n 0, 1) := by decide +kernel
theorem dX14_readMember_95 : decode cX14_readMember 95 = .ok (.getfield 201, 3) := by decide +kernel
theorem dX14_readMember_98 : decode cX14_readMember 98 = .ok (.iaload, 1) := by decide +kernel
theorem dX14_readMember_99 : decode cX14_readMember 99 = .ok (.bipush 12, 2) := by decide +kernel
theorem dX14_readMember_101 : decode cX14_readMember 101 = .ok (.if_icmp .ge 7, 3) := by decide +kernel
theorem dX14_readMember_104 : decode cX14_readMember 104 = .ok (.iconst 1, 1) := by decide +kernel
theorem dX14_readMember_105 : decode cX14_readMember 105 = .ok (.goto 4, 3) := by decide +kernel
theorem dX14_readMember_108 : decode cX14_readMember 108 = .ok (.iconst 0, 1) := by decide +kernel
theorem dX14_readMember_109 : decode cX14_readMember 109 = .ok (.iconst 4, 1) := by decide +kernel
theorem dX14_readMember_110 : decode cX14_readMember 110 = .ok (.aload_n 0, 1) := by decide +kernel
theorem dX14_readMember_111 : decode cX14_readMember 111 = .ok (.getfield 128, 3) := by decide +kernel
theorem dX14_readMember_114 : decode cX14_readMember 114 = .ok (.invokevirtual 172, 3) := by decide +kernel
theorem dX14_readMember_117 : decode cX14_readMember 117 = .ok (.aload_n 0, 1) := by decide +kernel
theorem dX14_readMember_118 : decode cX14_readMember 118 = .ok (.aload_n 0, 1) := by decide +kernel
theorem dX14_readMember_119 : decode cX14_readMember 119 = .ok (.getfield 23, 3) := by decide +kernel
theorem dX14_readMember_122 : decode cX14_readMember 122 = .ok (.getfield 459, 3) := by decide +kernel
theorem dX14_readMember_125 : decode cX14_readMember 125 = .ok (.putfield 317, 3) := by decide +kernel
theorem dX14_readMember_128 : decode cX14_readMember 128 = .ok (.aload_n 0, 1) := by decide +kernel
theorem dX14_readMember_129 : decode cX14_readMember 129 = .ok (.getfield 23, 3) := by decide +kernel
theorem dX14_readMember_132 : decode cX14_readMember 132 = .ok (.getfield 462, 3) := by decide +kernel
theorem dX14_readMember_135 : decode cX14_readMember 135 = .ok (.aload_n 0, 1) := by decide +kernel
theorem dX14_readMember_136 : decode cX14_readMember 136 = .ok (.getfield 317, 3) := by decide +kernel
theorem dX14_readMember_139 : decode cX14_readMember 139 = .ok (.aload_n 0, 1) := by decide +kernel
theorem dX14_readMember_140 : decode cX14_readMember 140 = .ok (.getfield 155, 3) := by decide +kernel
theorem dX14_readMember_143 : decode cX14_readMember 143 = .ok (.lastore, 1) := by decide +kernel
theorem dX14_readMember_144 : decode cX14_readMember 144 = .ok (.aload_n 0, 1) := by decide +kernel
theorem dX14_readMember_145 : decode cX14_readMember 145 = .ok (.getfield 23, 3) := by decide +kernel
theorem dX14_readMember_148 : decode cX14_readMember 148 = .ok (.getfield 465, 3) := by decide +kernel
theorem dX14_readMember_151 : decode cX14_readMember 151 = .ok (.aload_n 0, 1) := by decide +kernel
theorem dX14_readMember_152 : decode cX14_readMember 152 = .ok (.getfield 317, 3) := by decide +kernel
theorem dX14_readMember_155 : decode cX14_readMember 155 = .ok (.aload_n 0, 1) := by decide +kernel
theorem dX14_readMember_156 : decode cX14_readMember 156 = .ok (.getfield 159, 3) := by decide +kernel
theorem dX14_readMember_159 : decode cX14_readMember 159 = .ok (.lastore, 1) := by decide +kernel
theorem dX14_readMember_160 : decode cX14_readMember 160 = .ok (.aload_n 0, 1) := by decide +kernel
theorem dX14_readMember_161 : decode cX14_readMember 161 = .ok (.getfield 23, 3) := by decide +kernel
theorem dX14_readMember_164 : decode cX14_readMember 164 = .ok (.getfield 453, 3) := by decide +kernel
theorem dX14_readMember_167 : decode cX14_readMember 167 = .ok (.aload_n 0, 1) := by decide +kernel
theorem dX14_readMember_168 : decode cX14_readMember 168 = .ok (.getfield 317, 3) := by decide +kernel
theorem dX14_readMember_171 : decode cX14_readMember 171 = .ok (.aload_n 0, 1) := by decide +kernel
theorem dX14_readMember_172 : decode cX14_readMember 172 = .ok (.getfield 201, 3) := by decide +kernel
theorem dX14_readMember_175 : decode cX14_readMember 175 = .ok (.iastore, 1) := by decide +kernel
theorem dX14_readMember_176 : decode cX14_readMember 176 = .ok (.aload_n 0, 1) := by decide +kernel
theorem dX14_readMember_177 : decode cX14_readMember 177 = .ok (.getfield 23, 3) := by decide +kernel
theorem dX14_readMember_180 : decode cX14_readMember 180 = .ok (.getfield 324, 3) := by decide +kernel
theorem dX14_readMember_183 : decode cX14_readMember 183 = .ok (.aload_n 0, 1) := by decide +kernel
theorem dX14_readMember_184 : decode cX14_readMember 184 = .ok (.getfield 317, 3) := by decide +kernel
theorem dX14_readMember_187 : decode cX14_readMember 187 = .ok (.iconst 0, 1) := by decide +kernel
theorem dX14_readMember_188 : decode cX14_readMember 188 = .ok (.iastore, 1) := by decide +kernel
theorem dX14_readMember_189 : decode cX14_readMember 189 = .ok (.aload_n 0, 1) := by decide +kernel
theorem dX14_readMember_190 : decode cX14_readMember 190 = .ok (.getfield 23, 3) := by decide +kernel
theorem dX14_readMember_193 : decode cX14_readMember 193 = .ok (.getfield 428, 3) := by decide +kernel
theorem dX14_readMember_196 : decode cX14_readMember 196 = .ok (.aload_n 0, 1) := by decide +kernel
theorem dX14_readMember_197 : decode cX14_readMember 197 = .ok (.getfield 317, 3) := by decide +kernel
theorem dX14_readMember_200 : decode cX14_readMember 200 = .ok (.iconst 0, 1) := by decide +kernel
theorem dX14_readMember_201 : decode cX14_readMember 201 = .ok (.iastore, 1) := by decide +kernel
theorem dX14_readMember_202 : decode cX14_readMember 202 = .ok (.aload_n 0, 1) := by decide +kernel
theorem dX14_readMember_203 : decode cX14_readMember 203 = .ok (.getfield 23, 3) := by decide +kernel
theorem dX14_readMember_206 : decode cX14_readMember 206 = .ok (.getfield 314, 3) := by decide +kernel
theorem dX14_readMember_209 : decode cX14_readMember 209 = .ok (.aload_n 0, 1) := by decide +kernel
theorem dX14_readMember_210 : decode cX14_readMember 210 = .ok (.getfield 317, 3) := by decide +kernel
theorem dX14_readMember_213 : decode cX14_readMember 213 = .ok (.iconst 0, 1) := by decide +kernel
theorem dX14_readMember_214 : decode cX14_readMember 214 = .ok (.iastore, 1) := by decide +kernel
theorem dX14_readMember_215 : decode cX14_readMember 215 = .ok (.aload_n 0, 1) := by decide +kernel
theorem dX14_readMember_216 : decode cX14_readMember 216 = .ok (.getfield 23, 3) := by decide +kernel
theorem dX14_readMember_219 : decode cX14_readMember 219 = .ok (.getfield 468, 3) := by decide +kernel
theorem dX14_readMember_222 : decode cX14_readMember 222 = .ok (.aload_n 0, 1) := by decide +kernel
theorem dX14_readMember_223 : decode cX14_readMember 223 = .ok (.getfield 317, 3) := by decide +kernel
theorem dX14_readMember_226 : decode cX14_readMember 226 = .ok (.iconst (-1), 1) := by decide +kernel
theorem dX14_readMember_227 : decode cX14_readMember 227 = .ok (.iastore, 1) := by decide +kernel
theorem dX14_readMember_228 : decode cX14_readMember 228 = .ok (.aload_n 0, 1) := by decide +kernel
theorem dX14_readMember_229 : decode cX14_readMember 229 = .ok (.getfield 23, 3) := by decide +kernel
theorem dX14_readMember_232 : decode cX14_readMember 232 = .ok (.getfield 306, 3) := by decide +kernel
theorem dX14_readMember_235 : decode cX14_readMember 235 = .ok (.aload_n 0, 1) := by decide +kernel
theorem dX14_readMember_236 : decode cX14_readMember 236 = .ok (.getfield 317, 3) := by decide +kernel
theorem dX14_readMember_239 : decode cX14_readMember 239 = .ok (.iconst 0, 1) := by decide +kernel
theorem dX14_readMember_240 : decode cX14_readMember 240 = .ok (.bastore, 1) := by decide +kernel
theorem dX14_readMember_241 : decode cX14_readMember 241 = .ok (.aload_n 0, 1) := by decide +kernel
theorem dX14_readMember_242 : decode cX14_readMember 242 = .ok (.getfield 23, 3) := by decide +kernel
theorem dX14_readMember_245 : decode cX14_readMember 245 = .ok (.getfield 471, 3) := by decide +kernel
theorem dX14_readMember_248 : decode cX14_readMember 248 = .ok (.aload_n 0, 1) := by decide +kernel
theorem dX14_readMember_249 : decode cX14_readMember 249 = .ok (.getfield 317, 3) := by decide +kernel
theorem dX14_readMember_252 : decode cX14_readMember 252 = .ok (.aload_n 0, 1) := by decide +kernel
theorem dX14_readMember_253 : decode cX14_readMember 253 = .ok (.getfield 128, 3) := by decide +kernel
theorem dX14_readMember_256 : decode cX14_readMember 256 = .ok (.iastore, 1) := by decide +kernel
theorem dX14_readMember_257 : decode cX14_readMember 257 = .ok (.aload_n 0, 1) := by decide +kernel
theorem dX14_readMember_258 : decode cX14_readMember 258 = .ok (.invokevirtual 185, 3) := by decide +kernel
theorem dX14_readMember_261 : decode cX14_readMember 261 = .ok (.aload_n 0, 1) := by decide +kernel
theorem dX14_readMember_262 : decode cX14_readMember 262 = .ok (.bipush 40, 2) := by decide +kernel
theorem dX14_readMember_264 : decode cX14_readMember 264 = .ok (.invokevirtual 267, 3) := by decide +kernel
theorem dX14_readMember_267 : decode cX14_readMember 267 = .ok (.aload_n 0, 1) := by decide +kernel
theorem dX14_readMember_268 : decode cX14_readMember 268 = .ok (.iconst 0, 1) := by decide +kernel
theorem dX14_readMember_269 : decode cX14_readMember 269 = .ok (.putfield 195, 3) := by decide +kernel
theorem dX14_readMember_272 : decode cX14_readMember 272 = .ok (.aload_n 0, 1) := by decide +kernel
theorem dX14_readMember_273 : decode cX14_readMember 273 = .ok (.iconst 0, 1) := by decide +kernel
theorem dX14_readMember_274 : decode cX14_readMember 274 = .ok (.putfield 198, 3) := by decide +kernel
theorem dX14_readMember_277 : decode cX14_readMember 277 = .ok (.aload_n 0, 1) := by decide +kernel
theorem dX14_readMember_278 : decode cX14_readMember 278 = .ok (.bipush 41, 2) := by decide +kernel
theorem dX14_readMember_280 : decode cX14_readMember 280 = .ok (.invokevirtual 182, 3) := by decide +kernel
theorem dX14_readMember_283 : decode cX14_readMember 283 = .ok (.ifCond .ne 7, 3) := by decide +kernel
theorem dX14_readMember_286 : decode cX14_readMember 286 = .ok (.iconst 1, 1) := by decide +kernel
theorem dX14_readMember_287 : decode cX14_readMember 287 = .ok (.goto 4, 3) := by decide +kernel
theorem dX14_readMember_290 : decode cX14_readMember 290 = .ok (.iconst 0, 1) := by decide +kernel
theorem dX14_readMember_291 : decode cX14_readMember 291 = .ok (.istore_n 2, 1) := by decide +kernel
theorem dX14_readMember_292 : decode cX14_readMember 292 = .ok (.iload_n 2, 1) := by decide +kernel
theorem dX14_readMember_293 : decode cX14_readMember 293 = .ok (.ifCond .eq 25, 3) := by decide +kernel
theorem dX14_readMember_296 : decode cX14_readMember 296 = .ok (.aload_n 0, 1) := by decide +kernel
theorem dX14_readMember_297 : decode cX14_readMember 297 = .ok (.invokevirtual 474, 3) := by decide +kernel
theorem dX14_readMember_300 : decode cX14_readMember 300 = .ok (.aload_n 0, 1) := by decide +kernel
theorem dX14_readMember_301 : decode cX14_readMember 301 = .ok (.bipush 44, 2) := by decide +kernel
theorem dX14_readMember_303 : decode cX14_readMember 303 = .ok (.invokevirtual 182, 3) := by decide +kernel
theorem dX14_readMember_306 : decode cX14_readMember 306 = .ok (.istore_n 2, 1) := by decide +kernel
theorem dX14_readMember_307 : decode cX14_readMember 307 = .ok (.iload_n 2, 1) := by decide +kernel
theorem dX14_readMember_308 : decode cX14_readMember 308 = .ok (.ifCond .eq (-16), 3) := by decide +kernel
theorem dX14_readMember_311 : decode cX14_readMember 311 = .ok (.aload_n 0, 1) := by decide +kernel
theorem dX14_readMember_312 : decode cX14_readMember 312 = .ok (.invokevirtual 185, 3) := by decide +kernel
theorem dX14_readMember_315 : decode cX14_readMember 315 = .ok (.goto (-23), 3) := by decide +kernel
theorem dX14_readMember_318 : decode cX14_readMember 318 = .ok (.aload_n 0, 1) := by decide +kernel
theorem dX14_readMember_319 : decode cX14_readMember 319 = .ok (.aload_n 0, 1) := by decide +kernel
theorem dX14_readMember_320 : decode cX14_readMember 320 = .ok (.bipush 41, 2) := by decide +kernel
theorem dX14_readMember_322 : decode cX14_readMember 322 = .ok (.invokevirtual 182, 3) := by decide +kernel
theorem dX14_readMember_325 : decode cX14_readMember 325 = .ok (.iconst 1, 1) := by decide +kernel
theorem dX14_readMember_326 : decode cX14_readMember 326 = .ok (.aload_n 0, 1) := by decide +kernel
theorem dX14_readMember_327 : decode cX14_readMember 327 = .ok (.getfield 128, 3) := by decide +kernel
theorem dX14_readMember_330 : decode cX14_readMember 330 = .ok (.invokevirtual 172, 3) := by decide +kernel
theorem dX14_readMember_333 : decode cX14_readMember 333 = .ok (.aload_n 0, 1) := by decide +kernel
theorem dX14_readMember_334 : decode cX14_readMember 334 = .ok (.invokevirtual 176, 3) := by decide +kernel
theorem dX14_readMember_337 : decode cX14_readMember 337 = .ok (.aload_n 0, 1) := by decide +kernel
theorem dX14_readMember_338 : decode cX14_readMember 338 = .ok (.iload_n 1, 1) := by decide +kernel
theorem dX14_readMember_339 : decode cX14_readMember 339 = .ok (.iconst (-1), 1) := by decide +kernel
theorem dX14_readMember_340 : decode cX14_readMember 340 = .ok (.if_icmp .eq 27, 3) := by decide +kernel
theorem dX14_readMember_343 : decode cX14_readMember 343 = .ok (.aload_n 0, 1) := by decide +kernel
theorem dX14_readMember_344 : decode cX14_readMember 344 = .ok (.getfield 23, 3) := by decide +kernel
theorem dX14_readMember_347 : decode cX14_readMember 347 = .ok (.getfield 324, 3) := by decide +kernel
theorem dX14_readMember_350 : decode cX14_readMember 350 = .ok (.iload_n 1, 1) := by decide +kernel
theorem dX14_readMember_351 : decode cX14_readMember 351 = .ok (.iaload, 1) := by decide +kernel
theorem dX14_readMember_352 : decode cX14_readMember 352 = .ok (.aload_n 0, 1) := by decide +kernel
theorem dX14_readMember_353 : decode cX14_readMember 353 = .ok (.getfield 23, 3) := by decide +kernel
theorem dX14_readMember_356 : decode cX14_readMember 356 = .ok (.getfield 324, 3) := by decide +kernel
theorem dX14_readMember_359 : decode cX14_readMember 359 = .ok (.aload_n 0, 1) := by decide +kernel
theorem dX14_readMember_360 : decode cX14_readMember 360 = .ok (.getfield 317, 3) := by decide +kernel
theorem dX14_readMember_363 : decode cX14_readMember 363 = .ok (.iaload, 1) := by decide +kernel
theorem dX14_readMember_364 : decode cX14_readMember 364 = .ok (.if_icmp .ne 7, 3) := by decide +kernel
theorem dX14_readMember_367 : decode cX14_readMember 367 = .ok (.iconst 1, 1) := by decide +kernel
theorem dX14_readMember_368 : decode cX14_readMember 368 = .ok (.goto 4, 3) := by decide +kernel
theorem dX14_readMember_371 : decode cX14_readMember 371 = .ok (.iconst 0, 1) := by decide +kernel
theorem dX14_readMember_372 : decode cX14_readMember 372 = .ok (.iconst 5, 1) := by decide +kernel
theorem dX14_readMember_373 : decode cX14_readMember 373 = .ok (.aload_n 0, 1) := by decide +kernel
theorem dX14_readMember_374 : decode cX14_readMember 374 = .ok (.getfield 128, 3) := by decide +kernel
theorem dX14_readMember_377 : decode cX14_readMember 377 = .ok (.invokevirtual 172, 3) := by decide +kernel
theorem dX14_readMember_380 : decode cX14_readMember 380 = .ok (.aload_n 0, 1) := by decide +kernel
theorem dX14_readMember_381 : decode cX14_readMember 381 = .ok (.invokevirtual 185, 3) := by decide +kernel
theorem dX14_readMember_384 : decode cX14_readMember 384 = .ok (.aload_n 0, 1) := by decide +kernel
theorem dX14_readMember_385 : decode cX14_readMember 385 = .ok (.getfield 23, 3) := by decide +kernel
theorem dX14_readMember_388 : decode cX14_readMember 388 = .ok (.dup, 1) := by decide +kernel
theorem dX14_readMember_389 : decode cX14_readMember 389 = .ok (.getfield 459, 3) := by decide +kernel
theorem dX14_readMember_392 : decode cX14_readMember 392 = .ok (.iconst 1, 1) := by decide +kernel
theorem dX14_readMember_393 : decode cX14_readMember 393 = .ok (.iadd, 1) := by decide +kernel
theorem dX14_readMember_394 : decode cX14_readMember 394 = .ok (.putfield 459, 3) := by decide +kernel
theorem dX14_readMember_397 : decode cX14_readMember 397 = .ok (.iload_n 1, 1) := by decide +kernel
theorem dX14_readMember_398 : decode cX14_readMember 398 = .ok (.iconst (-1), 1) := by decide +kernel
theorem dX14_readMember_399 : decode cX14_readMember 399 = .ok (.if_icmp .ne 54, 3) := by decide +kernel
theorem dX14_readMember_402 : decode cX14_readMember 402 = .ok (.aload_n 0, 1) := by decide +kernel
theorem dX14_readMember_403 : decode cX14_readMember 403 = .ok (.getfield 23, 3) := by decide +kernel
theorem dX14_readMember_406 : decode cX14_readMember 406 = .ok (.getfield 477, 3) := by decide +kernel
theorem dX14_readMember_409 : decode cX14_readMember 409 = .ok (.bipush 12, 2) := by decide +kernel
theorem dX14_readMember_411 : decode cX14_readMember 411 = .ok (.aload_n 0, 1) := by decide +kernel
theorem dX14_readMember_412 : decode cX14_readMember 412 = .ok (.getfield 201, 3) := by decide +kernel
theorem dX14_readMember_415 : decode cX14_readMember 415 = .ok (.imul, 1) := by decide +kernel
theorem dX14_readMember_416 : decode cX14_readMember 416 = .ok (.aload_n 0, 1) := by decide +kernel
theorem dX14_readMember_417 : decode cX14_readMember 417 = .ok (.getfield 23, 3) := by decide +kernel
theorem dX14_readMember_420 : decode cX14_readMember 420 = .ok (.getfield 456, 3) := by decide +kernel
theorem dX14_readMember_423 : decode cX14_readMember 423 = .ok (.aload_n 0, 1) := by decide +kernel
theorem dX14_readMember_424 : decode cX14_readMember 424 = .ok (.getfield 201, 3) := by decide +kernel
theorem dX14_readMember_427 : decode cX14_readMember 427 = .ok (.iaload, 1) := by decide +kernel
theorem dX14_readMember_428 : decode cX14_readMember 428 = .ok (.iadd, 1) := by decide +kernel
theorem dX14_readMember_429 : decode cX14_readMember 429 = .ok (.aload_n 0, 1) := by decide +kernel
theorem dX14_readMember_430 : decode cX14_readMember 430 = .ok (.getfield 317, 3) := by decide +kernel
theorem dX14_readMember_433 : decode cX14_readMember 433 = .ok (.iastore, 1) := by decide +kernel
theorem dX14_readMember_434 : decode cX14_readMember 434 = .ok (.aload_n 0, 1) := by decide +kernel
theorem dX14_readMember_435 : decode cX14_readMember 435 = .ok (.getfield 23, 3) := by decide +kernel
theorem dX14_readMember_438 : decode cX14_readMember 438 = .ok (.getfield 456, 3) := by decide +kernel
theorem dX14_readMember_441 : decode cX14_readMember 441 = .ok (.aload_n 0, 1) := by decide +kernel
theorem dX14_readMember_442 : decode cX14_readMember 442 = .ok (.getfield 201, 3) := by decide +kernel
theorem dX14_readMember_445 : decode cX14_readMember 445 = .ok (.dup2, 1) := by decide +kernel
theorem dX14_readMember_446 : decode cX14_readMember 446 = .ok (.iaload, 1) := by decide +kernel
theorem dX14_readMember_447 : decode cX14_readMember 447 = .ok (.iconst 1, 1) := by decide +kernel
theorem dX14_readMember_448 : decode cX14_readMember 448 = .ok (.iadd, 1) := by decide +kernel
theorem dX14_readMember_449 : decode cX14_readMember 449 = .ok (.iastore, 1) := by decide +kernel
theorem dX14_readMember_450 : decode cX14_readMember 450 = .ok (.goto 67, 3) := by decide +kernel
theorem dX14_readMember_453 : decode cX14_readMember 453 = .ok (.bipush 12, 2) := by decide +kernel
theorem dX14_readMember_455 : decode cX14_readMember 455 = .ok (.aload_n 0, 1) := by decide +kernel
theorem dX14_readMember_456 : decode cX14_readMember 456 = .ok (.getfield 201, 3) := by decide +kernel
theorem dX14_readMember_459 : decode cX14_readMember 459 = .ok (.imul, 1) := by decide +kernel
theorem dX14_readMember_460 : decode cX14_readMember 460 = .ok (.istore_n 3, 1) := by decide +kernel
theorem dX14_readMember_461 : decode cX14_readMember 461 = .ok (.iload_n 3, 1) := by decide +kernel
theorem dX14_readMember_462 : decode cX14_readMember 462 = .ok (.bipush 12, 2) := by decide +kernel
theorem dX14_readMember_464 : decode cX14_readMember 464 = .ok (.aload_n 0, 1) := by decide +kernel
theorem dX14_readMember_465 : decode cX14_readMember 465 = .ok (.getfield 201, 3) := by decide +kernel
theorem dX14_readMember_468 : decode cX14_readMember 468 = .ok (.imul, 1) := by decide +kernel
theorem dX14_readMember_469 : decode cX14_readMember 469 = .ok (.aload_n 0, 1) := by decide +kernel
theorem dX14_readMember_470 : decode cX14_readMember 470 = .ok (.getfield 23, 3) := by decide +kernel
theorem dX14_readMember_473 : decode cX14_readMember 473 = .ok (.getfield 456, 3) := by decide +kernel
theorem dX14_readMember_476 : decode cX14_readMember 476 = .ok (.aload_n 0, 1) := by decide +kernel
theorem dX14_readMember_477 : decode cX14_readMember 477 = .ok (.getfield 201, 3) := by decide +kernel
theorem dX14_readMember_480 : decode cX14_readMember 480 = .ok (.iaload, 1) := by decide +kernel
theorem dX14_readMember_481 : decode cX14_readMember 481 = .ok (.iadd, 1) := by decide +kernel
theorem dX14_readMember_482 : decode cX14_readMember 482 = .ok (.if_icmp .ge 35, 3) := by decide +kernel
theorem dX14_readMember_485 : decode cX14_readMember 485 = .ok (.aload_n 0, 1) := by decide +kernel
theorem dX14_readMember_486 : decode cX14_readMember 486 = .ok (.getfield 23, 3) := by decide +kernel
theorem dX14_readMember_489 : decode cX14_readMember 489 = .ok (.getfield 477, 3) := by decide +kernel
theorem dX14_readMember_492 : decode cX14_readMember 492 = .ok (.iload_n 3, 1) := by decide +kernel
theorem dX14_readMember_493 : decode cX14_readMember 493 = .ok (.iaload, 1) := by decide +kernel
theorem dX14_readMember_494 : decode cX14_readMember 494 = .ok (.iload_n 1, 1) := by decide +kernel
theorem dX14_readMember_495 : decode cX14_readMember 495 = .ok (.if_icmp .ne 16, 3) := by decide +kernel
theorem dX14_readMember_498 : decode cX14_readMember 498 = .ok (.aload_n 0, 1) := by decide +kernel
theorem dX14_readMember_499 : decode cX14_readMember 499 = .ok (.getfield 23, 3) := by decide +kernel
theorem dX14_readMember_502 : decode cX14_readMember 502 = .ok (.getfield 477, 3) := by decide +kernel
theorem dX14_readMember_505 : decode cX14_readMember 505 = .ok (.iload_n 3, 1) := by decide +kernel
theorem dX14_readMember_506 : decode cX14_readMember 506 = .ok (.aload_n 0, 1) := by decide +kernel
theorem dX14_readMember_507 : decode cX14_readMember 507 = .ok (.getfield 317, 3) := by decide +kernel
theorem dX14_readMember_510 : decode cX14_readMember 510 = .ok (.iastore, 1) := by decide +kernel
theorem dX14_readMember_511 : decode cX14_readMember 511 = .ok (.iinc 3 1, 3) := by decide +kernel
theorem dX14_readMember_514 : decode cX14_readMember 514 = .ok (.goto (-53), 3) := by decide +kernel
theorem dX14_readMember_517 : decode cX14_readMember 517 = .ok (.aload_n 0, 1) := by decide +kernel
theorem dX14_readMember_518 : decode cX14_readMember 518 = .ok (.getfield 131, 3) := by decide +kernel
theorem dX14_readMember_521 : decode cX14_readMember 521 = .ok (.iconst 2, 1) := by decide +kernel
theorem dX14_readMember_522 : decode cX14_readMember 522 = .ok (.if_icmp .ne 36, 3) := by decide +kernel
theorem dX14_readMember_525 : decode cX14_readMember 525 = .ok (.aload_n 0, 1) := by decide +kernel
theorem dX14_readMember_526 : decode cX14_readMember 526 = .ok (.getfield 148, 3) := by decide +kernel
theorem dX14_readMember_529 : decode cX14_readMember 529 = .ok (.i2l, 1) := by decide +kernel
theorem dX14_readMember_530 : decode cX14_readMember 530 = .ok (.ldc2_w 480, 3) := by decide +kernel
theorem dX14_readMember_533 : decode cX14_readMember 533 = .ok (.ldc2_w 482, 3) := by decide +kernel
theorem dX14_readMember_536 : decode cX14_readMember 536 = .ok (.invokestatic 395, 3) := by decide +kernel
theorem dX14_readMember_539 : decode cX14_readMember 539 = .ok (.ifCond .eq 19, 3) := by decide +kernel
theorem dX14_readMember_542 : decode cX14_readMember 542 = .ok (.aload_n 0, 1) := by decide +kernel
theorem dX14_readMember_543 : decode cX14_readMember 543 = .ok (.getfield 148, 3) := by decide +kernel
theorem dX14_readMember_546 : decode cX14_readMember 546 = .ok (.bipush 9, 2) := by decide +kernel
theorem dX14_readMember_548 : decode cX14_readMember 548 = .ok (.if_icmp .eq 10, 3) := by decide +kernel
theorem dX14_readMember_551 : decode cX14_readMember 551 = .ok (.aload_n 0, 1) := by decide +kernel
theorem dX14_readMember_552 : decode cX14_readMember 552 = .ok (.invokevirtual 484, 3) := by decide +kernel
theorem dX14_readMember_555 : decode cX14_readMember 555 = .ok (.goto (-38), 3) := by decide +kernel
theorem dX14_readMember_558 : decode cX14_readMember 558 = .ok (.aload_n 0, 1) := by decide +kernel
theorem dX14_readMember_559 : decode cX14_readMember 559 = .ok (.aload_n 0, 1) := by decide +kernel
theorem dX14_readMember_560 : decode cX14_readMember 560 = .ok (.bipush 123, 2) := by decide +kernel
theorem dX14_readMember_562 : decode cX14_readMember 562 = .ok (.invokevirtual 182, 3) := by decide +kernel
theorem dX14_readMember_565 : decode cX14_readMember 565 = .ok (.iconst 1, 1) := by decide +kernel
theorem dX14_readMember_566 : decode cX14_readMember 566 = .ok (.aload_n 0, 1) := by decide +kernel
theorem dX14_readMember_567 : decode cX14_readMember 567 = .ok (.getfield 128, 3) := by decide +kernel
theorem dX14_readMember_570 : decode cX14_readMember 570 = .ok (.invokevirtual 172, 3) := by decide +kernel
theorem dX14_readMember_573 : decode cX14_readMember 573 = .ok (.aload_n 0, 1) := by decide +kernel
theorem dX14_readMember_574 : decode cX14_readMember 574 = .ok (.invokevirtual 176, 3) := by decide +kernel
theorem dX14_readMember_577 : decode cX14_readMember 577 = .ok (.aload_n 0, 1) := by decide +kernel
theorem dX14_readMember_578 : decode cX14_readMember 578 = .ok (.iload_n 1, 1) := by decide +kernel
theorem dX14_readMember_579 : decode cX14_readMember 579 = .ok (.iconst (-1), 1) := by decide +kernel
theorem dX14_readMember_580 : decode cX14_readMember 580 = .ok (.if_icmp .eq 30, 3) := by decide +kernel
theorem dX14_readMember_583 : decode cX14_readMember 583 = .ok (.aload_n 0, 1) := by decide +kernel
theorem dX14_readMember_584 : decode cX14_readMember 584 = .ok (.getfield 23, 3) := by decide +kernel
theorem dX14_readMember_587 : decode cX14_readMember 587 = .ok (.getfield 306, 3) := by decide +kernel
theorem dX14_readMember_590 : decode cX14_readMember 590 = .ok (.iload_n 1, 1) := by decide +kernel
theorem dX14_readMember_591 : decode cX14_readMember 591 = .ok (.baload, 1) := by decide +kernel
theorem dX14_readMember_592 : decode cX14_readMember 592 = .ok (.ifCond .eq 18, 3) := by decide +kernel
theorem dX14_readMember_595 : decode cX14_readMember 595 = .ok (.aload_n 0, 1) := by decide +kernel
theorem dX14_readMember_596 : decode cX14_readMember 596 = .ok (.getfield 23, 3) := by decide +kernel
theorem dX14_readMember_599 : decode cX14_readMember 599 = .ok (.getfield 306, 3) := by decide +kernel
theorem dX14_readMember_602 : decode cX14_readMember 602 = .ok (.aload_n 0, 1) := by decide +kernel
theorem dX14_readMember_603 : decode cX14_readMember 603 = .ok (.getfield 317, 3) := by decide +kernel
theorem dX14_readMember_606 : decode cX14_readMember 606 = .ok (.baload, 1) := by decide +kernel
theorem dX14_readMember_607 : decode cX14_readMember 607 = .ok (.ifCond .eq 7, 3) := by decide +kernel
theorem dX14_readMember_610 : decode cX14_readMember 610 = .ok (.iconst 1, 1) := by decide +kernel
theorem dX14_readMember_611 : decode cX14_readMember 611 = .ok (.goto 4, 3) := by decide +kernel
theorem dX14_readMember_614 : decode cX14_readMember 614 = .ok (.iconst 0, 1) := by decide +kernel
theorem dX14_readMember_615 : decode cX14_readMember 615 = .ok (.iconst 5, 1) := by decide +kernel
theorem dX14_readMember_616 : decode cX14_readMember 616 = .ok (.aload_n 0, 1) := by decide +kernel
theorem dX14_readMember_617 : decode cX14_readMember 617 = .ok (.getfield 128, 3) := by decide +kernel
theorem dX14_readMember_620 : decode cX14_readMember 620 = .ok (.invokevirtual 172, 3) := by decide +kernel
theorem dX14_readMember_623 : decode cX14_readMember 623 = .ok (.aload_n 0, 1) := by decide +kernel
theorem dX14_readMember_624 : decode cX14_readMember 624 = .ok (.iconst 0, 1) := by decide +kernel
theorem dX14_readMember_625 : decode cX14_readMember 625 = .ok (.putfield 363, 3) := by decide +kernel
theorem dX14_readMember_628 : decode cX14_readMember 628 = .ok (.aload_n 0, 1) := by decide +kernel
theorem dX14_readMember_629 : decode cX14_readMember 629 = .ok (.getfield 23, 3) := by decide +kernel
theorem dX14_readMember_632 : decode cX14_readMember 632 = .ok (.getfield 468, 3) := by decide +kernel
theorem dX14_readMember_635 : decode cX14_readMember 635 = .ok (.aload_n 0, 1) := by decide +kernel
theorem dX14_readMember_636 : decode cX14_readMember 636 = .ok (.getfield 317, 3) := by decide +kernel
theorem dX14_readMember_639 : decode cX14_readMember 639 = .ok (.aload_n 0, 1) := by decide +kernel
theorem dX14_readMember_640 : decode cX14_readMember 640 = .ok (.invokevirtual 381, 3) := by decide +kernel
theorem dX14_readMember_643 : decode cX14_readMember 643 = .ok (.iastore, 1) := by decide +kernel
theorem dX14_readMember_644 : decode cX14_readMember 644 = .ok (.aload_n 0, 1) := by decide +kernel
theorem dX14_readMember_645 : decode cX14_readMember 645 = .ok (.iconst 0, 1) := by decide +kernel
theorem dX14_readMember_646 : decode cX14_readMember 646 = .ok (.putfield 195, 3) := by decide +kernel
theorem dX14_readMember_649 : decode cX14_readMember 649 = .ok (.aload_n 0, 1) := by decide +kernel
theorem dX14_readMember_650 : decode cX14_readMember 650 = .ok (.iconst 0, 1) := by decide +kernel
theorem dX14_readMember_651 : decode cX14_readMember 651 = .ok (.putfield 198, 3) := by decide +kernel
theorem dX14_readMember_654 : decode cX14_readMember 654 = .ok (.return_, 1) := by decide +kernel
