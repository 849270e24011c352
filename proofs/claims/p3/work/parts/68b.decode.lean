theorem dX14_readClass_0 : decode cX14_readClass 0 = .ok (.aload_n 0, 1) := by decide +kernel
theorem dX14_readClass_1 : decode cX14_readClass 1 = .ok (.iconst 0, 1) := by decide +kernel
theorem dX14_readClass_2 : decode cX14_readClass 2 = .ok (.invokevirtual 487, 3) := by decide +kernel
theorem dX14_readClass_5 : decode cX14_readClass 5 = .ok (.aload_n 0, 1) := by decide +kernel
theorem dX14_readClass_6 : decode cX14_readClass 6 = .ok (.aload_n 0, 1) := by decide +kernel
theorem dX14_readClass_7 : decode cX14_readClass 7 = .ok (.getfield 131, 3) := by decide +kernel
theorem dX14_readClass_10 : decode cX14_readClass 10 = .ok (.iconst 1, 1) := by decide +kernel
theorem dX14_readClass_11 : decode cX14_readClass 11 = .ok (.if_icmp .ne 7, 3) := by decide +kernel
theorem dX14_readClass_14 : decode cX14_readClass 14 = .ok (.iconst 1, 1) := by decide +kernel
theorem dX14_readClass_15 : decode cX14_readClass 15 = .ok (.goto 4, 3) := by decide +kernel
theorem dX14_readClass_18 : decode cX14_readClass 18 = .ok (.iconst 0, 1) := by decide +kernel
theorem dX14_readClass_19 : decode cX14_readClass 19 = .ok (.iconst 1, 1) := by decide +kernel
theorem dX14_readClass_20 : decode cX14_readClass 20 = .ok (.aload_n 0, 1) := by decide +kernel
theorem dX14_readClass_21 : decode cX14_readClass 21 = .ok (.getfield 128, 3) := by decide +kernel
theorem dX14_readClass_24 : decode cX14_readClass 24 = .ok (.invokevirtual 172, 3) := by decide +kernel
theorem dX14_readClass_27 : decode cX14_readClass 27 = .ok (.aload_n 0, 1) := by decide +kernel
theorem dX14_readClass_28 : decode cX14_readClass 28 = .ok (.aload_n 0, 1) := by decide +kernel
theorem dX14_readClass_29 : decode cX14_readClass 29 = .ok (.aload_n 0, 1) := by decide +kernel
theorem dX14_readClass_30 : decode cX14_readClass 30 = .ok (.getfield 155, 3) := by decide +kernel
theorem dX14_readClass_33 : decode cX14_readClass 33 = .ok (.aload_n 0, 1) := by decide +kernel
theorem dX14_readClass_34 : decode cX14_readClass 34 = .ok (.getfield 159, 3) := by decide +kernel
theorem dX14_readClass_37 : decode cX14_readClass 37 = .ok (.invokevirtual 496, 3) := by decide +kernel
theorem dX14_readClass_40 : decode cX14_readClass 40 = .ok (.iconst (-1), 1) := by decide +kernel
theorem dX14_readClass_41 : decode cX14_readClass 41 = .ok (.if_icmp .ne 7, 3) := by decide +kernel
theorem dX14_readClass_44 : decode cX14_readClass 44 = .ok (.iconst 1, 1) := by decide +kernel
theorem dX14_readClass_45 : decode cX14_readClass 45 = .ok (.goto 4, 3) := by decide +kernel
theorem dX14_readClass_48 : decode cX14_readClass 48 = .ok (.iconst 0, 1) := by decide +kernel
theorem dX14_readClass_49 : decode cX14_readClass 49 = .ok (.iconst 2, 1) := by decide +kernel
theorem dX14_readClass_50 : decode cX14_readClass 50 = .ok (.aload_n 0, 1) := by decide +kernel
theorem dX14_readClass_51 : decode cX14_readClass 51 = .ok (.getfield 128, 3) := by decide +kernel
theorem dX14_readClass_54 : decode cX14_readClass 54 = .ok (.invokevirtual 172, 3) := by decide +kernel
theorem dX14_readClass_57 : decode cX14_readClass 57 = .ok (.aload_n 0, 1) := by decide +kernel
theorem dX14_readClass_58 : decode cX14_readClass 58 = .ok (.aload_n 0, 1) := by decide +kernel
theorem dX14_readClass_59 : decode cX14_readClass 59 = .ok (.getfield 23, 3) := by decide +kernel
theorem dX14_readClass_62 : decode cX14_readClass 62 = .ok (.getfield 499, 3) := by decide +kernel
theorem dX14_readClass_65 : decode cX14_readClass 65 = .ok (.bipush 8, 2) := by decide +kernel
theorem dX14_readClass_67 : decode cX14_readClass 67 = .ok (.if_icmp .ge 7, 3) := by decide +kernel
theorem dX14_readClass_70 : decode cX14_readClass 70 = .ok (.iconst 1, 1) := by decide +kernel
theorem dX14_readClass_71 : decode cX14_readClass 71 = .ok (.goto 4, 3) := by decide +kernel
theorem dX14_readClass_74 : decode cX14_readClass 74 = .ok (.iconst 0, 1) := by decide +kernel
theorem dX14_readClass_75 : decode cX14_readClass 75 = .ok (.iconst 4, 1) := by decide +kernel
theorem dX14_readClass_76 : decode cX14_readClass 76 = .ok (.aload_n 0, 1) := by decide +kernel
theorem dX14_readClass_77 : decode cX14_readClass 77 = .ok (.getfield 128, 3) := by decide +kernel
theorem dX14_readClass_80 : decode cX14_readClass 80 = .ok (.invokevirtual 172, 3) := by decide +kernel
theorem dX14_readClass_83 : decode cX14_readClass 83 = .ok (.aload_n 0, 1) := by decide +kernel
theorem dX14_readClass_84 : decode cX14_readClass 84 = .ok (.aload_n 0, 1) := by decide +kernel
theorem dX14_readClass_85 : decode cX14_readClass 85 = .ok (.getfield 23, 3) := by decide +kernel
theorem dX14_readClass_88 : decode cX14_readClass 88 = .ok (.getfield 499, 3) := by decide +kernel
theorem dX14_readClass_91 : decode cX14_readClass 91 = .ok (.putfield 201, 3) := by decide +kernel
theorem dX14_readClass_94 : decode cX14_readClass 94 = .ok (.aload_n 0, 1) := by decide +kernel
theorem dX14_readClass_95 : decode cX14_readClass 95 = .ok (.getfield 23, 3) := by decide +kernel
theorem dX14_readClass_98 : decode cX14_readClass 98 = .ok (.getfield 502, 3) := by decide +kernel
theorem dX14_readClass_101 : decode cX14_readClass 101 = .ok (.aload_n 0, 1) := by decide +kernel
theorem dX14_readClass_102 : decode cX14_readClass 102 = .ok (.getfield 201, 3) := by decide +kernel
theorem dX14_readClass_105 : decode cX14_readClass 105 = .ok (.aload_n 0, 1) := by decide +kernel
theorem dX14_readClass_106 : decode cX14_readClass 106 = .ok (.getfield 155, 3) := by decide +kernel
theorem dX14_readClass_109 : decode cX14_readClass 109 = .ok (.lastore, 1) := by decide +kernel
theorem dX14_readClass_110 : decode cX14_readClass 110 = .ok (.aload_n 0, 1) := by decide +kernel
theorem dX14_readClass_111 : decode cX14_readClass 111 = .ok (.getfield 23, 3) := by decide +kernel
theorem dX14_readClass_114 : decode cX14_readClass 114 = .ok (.getfield 505, 3) := by decide +kernel
theorem dX14_readClass_117 : decode cX14_readClass 117 = .ok (.aload_n 0, 1) := by decide +kernel
theorem dX14_readClass_118 : decode cX14_readClass 118 = .ok (.getfield 201, 3) := by decide +kernel
theorem dX14_readClass_121 : decode cX14_readClass 121 = .ok (.aload_n 0, 1) := by decide +kernel
theorem dX14_readClass_122 : decode cX14_readClass 122 = .ok (.getfield 159, 3) := by decide +kernel
theorem dX14_readClass_125 : decode cX14_readClass 125 = .ok (.lastore, 1) := by decide +kernel
theorem dX14_readClass_126 : decode cX14_readClass 126 = .ok (.aload_n 0, 1) := by decide +kernel
theorem dX14_readClass_127 : decode cX14_readClass 127 = .ok (.getfield 23, 3) := by decide +kernel
theorem dX14_readClass_130 : decode cX14_readClass 130 = .ok (.getfield 297, 3) := by decide +kernel
theorem dX14_readClass_133 : decode cX14_readClass 133 = .ok (.aload_n 0, 1) := by decide +kernel
theorem dX14_readClass_134 : decode cX14_readClass 134 = .ok (.getfield 201, 3) := by decide +kernel
theorem dX14_readClass_137 : decode cX14_readClass 137 = .ok (.iconst (-1), 1) := by decide +kernel
theorem dX14_readClass_138 : decode cX14_readClass 138 = .ok (.iastore, 1) := by decide +kernel
theorem dX14_readClass_139 : decode cX14_readClass 139 = .ok (.aload_n 0, 1) := by decide +kernel
theorem dX14_readClass_140 : decode cX14_readClass 140 = .ok (.getfield 23, 3) := by decide +kernel
theorem dX14_readClass_143 : decode cX14_readClass 143 = .ok (.getfield 390, 3) := by decide +kernel
theorem dX14_readClass_146 : decode cX14_readClass 146 = .ok (.aload_n 0, 1) := by decide +kernel
theorem dX14_readClass_147 : decode cX14_readClass 147 = .ok (.getfield 201, 3) := by decide +kernel
theorem dX14_readClass_150 : decode cX14_readClass 150 = .ok (.iconst 0, 1) := by decide +kernel
theorem dX14_readClass_151 : decode cX14_readClass 151 = .ok (.iastore, 1) := by decide +kernel
theorem dX14_readClass_152 : decode cX14_readClass 152 = .ok (.aload_n 0, 1) := by decide +kernel
theorem dX14_readClass_153 : decode cX14_readClass 153 = .ok (.getfield 23, 3) := by decide +kernel
theorem dX14_readClass_156 : decode cX14_readClass 156 = .ok (.getfield 399, 3) := by decide +kernel
theorem dX14_readClass_159 : decode cX14_readClass 159 = .ok (.aload_n 0, 1) := by decide +kernel
theorem dX14_readClass_160 : decode cX14_readClass 160 = .ok (.getfield 201, 3) := by decide +kernel
theorem dX14_readClass_163 : decode cX14_readClass 163 = .ok (.iconst 0, 1) := by decide +kernel
theorem dX14_readClass_164 : decode cX14_readClass 164 = .ok (.iastore, 1) := by decide +kernel
theorem dX14_readClass_165 : decode cX14_readClass 165 = .ok (.aload_n 0, 1) := by decide +kernel
theorem dX14_readClass_166 : decode cX14_readClass 166 = .ok (.getfield 23, 3) := by decide +kernel
theorem dX14_readClass_169 : decode cX14_readClass 169 = .ok (.getfield 419, 3) := by decide +kernel
theorem dX14_readClass_172 : decode cX14_readClass 172 = .ok (.aload_n 0, 1) := by decide +kernel
theorem dX14_readClass_173 : decode cX14_readClass 173 = .ok (.getfield 201, 3) := by decide +kernel
theorem dX14_readClass_176 : decode cX14_readClass 176 = .ok (.iconst 0, 1) := by decide +kernel
theorem dX14_readClass_177 : decode cX14_readClass 177 = .ok (.iastore, 1) := by decide +kernel
theorem dX14_readClass_178 : decode cX14_readClass 178 = .ok (.aload_n 0, 1) := by decide +kernel
theorem dX14_readClass_179 : decode cX14_readClass 179 = .ok (.getfield 23, 3) := by decide +kernel
theorem dX14_readClass_182 : decode cX14_readClass 182 = .ok (.getfield 456, 3) := by decide +kernel
theorem dX14_readClass_185 : decode cX14_readClass 185 = .ok (.aload_n 0, 1) := by decide +kernel
theorem dX14_readClass_186 : decode cX14_readClass 186 = .ok (.getfield 201, 3) := by decide +kernel
theorem dX14_readClass_189 : decode cX14_readClass 189 = .ok (.iconst 0, 1) := by decide +kernel
theorem dX14_readClass_190 : decode cX14_readClass 190 = .ok (.iastore, 1) := by decide +kernel
theorem dX14_readClass_191 : decode cX14_readClass 191 = .ok (.aload_n 0, 1) := by decide +kernel
theorem dX14_readClass_192 : decode cX14_readClass 192 = .ok (.getfield 23, 3) := by decide +kernel
theorem dX14_readClass_195 : decode cX14_readClass 195 = .ok (.getfield 508, 3) := by decide +kernel
theorem dX14_readClass_198 : decode cX14_readClass 198 = .ok (.aload_n 0, 1) := by decide +kernel
theorem dX14_readClass_199 : decode cX14_readClass 199 = .ok (.getfield 201, 3) := by decide +kernel
theorem dX14_readClass_202 : decode cX14_readClass 202 = .ok (.iconst (-1), 1) := by decide +kernel
theorem dX14_readClass_203 : decode cX14_readClass 203 = .ok (.iastore, 1) := by decide +kernel
theorem dX14_readClass_204 : decode cX14_readClass 204 = .ok (.aload_n 0, 1) := by decide +kernel
theorem dX14_readClass_205 : decode cX14_readClass 205 = .ok (.invokevirtual 185, 3) := by decide +kernel
theorem dX14_readClass_208 : decode cX14_readClass 208 = .ok (.aload_n 0, 1) := by decide +kernel
theorem dX14_readClass_209 : decode cX14_readClass 209 = .ok (.iconst 1, 1) := by decide +kernel
theorem dX14_readClass_210 : decode cX14_readClass 210 = .ok (.invokevirtual 279, 3) := by decide +kernel
theorem dX14_readClass_213 : decode cX14_readClass 213 = .ok (.ifCond .eq 66, 3) := by decide +kernel
theorem dX14_readClass_216 : decode cX14_readClass 216 = .ok (.aload_n 0, 1) := by decide +kernel
theorem dX14_readClass_217 : decode cX14_readClass 217 = .ok (.aload_n 0, 1) := by decide +kernel
theorem dX14_readClass_218 : decode cX14_readClass 218 = .ok (.getfield 131, 3) := by decide +kernel
theorem dX14_readClass_221 : decode cX14_readClass 221 = .ok (.iconst 1, 1) := by decide +kernel
theorem dX14_readClass_222 : decode cX14_readClass 222 = .ok (.if_icmp .ne 7, 3) := by decide +kernel
theorem dX14_readClass_225 : decode cX14_readClass 225 = .ok (.iconst 1, 1) := by decide +kernel
theorem dX14_readClass_226 : decode cX14_readClass 226 = .ok (.goto 4, 3) := by decide +kernel
theorem dX14_readClass_229 : decode cX14_readClass 229 = .ok (.iconst 0, 1) := by decide +kernel
theorem dX14_readClass_230 : decode cX14_readClass 230 = .ok (.iconst 1, 1) := by decide +kernel
theorem dX14_readClass_231 : decode cX14_readClass 231 = .ok (.aload_n 0, 1) := by decide +kernel
theorem dX14_readClass_232 : decode cX14_readClass 232 = .ok (.getfield 128, 3) := by decide +kernel
theorem dX14_readClass_235 : decode cX14_readClass 235 = .ok (.invokevirtual 172, 3) := by decide +kernel
theorem dX14_readClass_238 : decode cX14_readClass 238 = .ok (.aload_n 0, 1) := by decide +kernel
theorem dX14_readClass_239 : decode cX14_readClass 239 = .ok (.aload_n 0, 1) := by decide +kernel
theorem dX14_readClass_240 : decode cX14_readClass 240 = .ok (.getfield 155, 3) := by decide +kernel
theorem dX14_readClass_243 : decode cX14_readClass 243 = .ok (.aload_n 0, 1) := by decide +kernel
theorem dX14_readClass_244 : decode cX14_readClass 244 = .ok (.getfield 159, 3) := by decide +kernel
theorem dX14_readClass_247 : decode cX14_readClass 247 = .ok (.invokevirtual 496, 3) := by decide +kernel
theorem dX14_readClass_250 : decode cX14_readClass 250 = .ok (.istore_n 1, 1) := by decide +kernel
theorem dX14_readClass_251 : decode cX14_readClass 251 = .ok (.aload_n 0, 1) := by decide +kernel
theorem dX14_readClass_252 : decode cX14_readClass 252 = .ok (.iload_n 1, 1) := by decide +kernel
theorem dX14_readClass_253 : decode cX14_readClass 253 = .ok (.iconst (-1), 1) := by decide +kernel
theorem dX14_readClass_254 : decode cX14_readClass 254 = .ok (.if_icmp .eq 7, 3) := by decide +kernel
theorem dX14_readClass_257 : decode cX14_readClass 257 = .ok (.iconst 1, 1) := by decide +kernel
theorem dX14_readClass_258 : decode cX14_readClass 258 = .ok (.goto 4, 3) := by decide +kernel
theorem dX14_readClass_261 : decode cX14_readClass 261 = .ok (.iconst 0, 1) := by decide +kernel
theorem dX14_readClass_262 : decode cX14_readClass 262 = .ok (.iconst 2, 1) := by decide +kernel
theorem dX14_readClass_263 : decode cX14_readClass 263 = .ok (.aload_n 0, 1) := by decide +kernel
theorem dX14_readClass_264 : decode cX14_readClass 264 = .ok (.getfield 128, 3) := by decide +kernel
theorem dX14_readClass_267 : decode cX14_readClass 267 = .ok (.invokevirtual 172, 3) := by decide +kernel
theorem dX14_readClass_270 : decode cX14_readClass 270 = .ok (.aload_n 0, 1) := by decide +kernel
theorem dX14_readClass_271 : decode cX14_readClass 271 = .ok (.invokevirtual 185, 3) := by decide +kernel
theorem dX14_readClass_274 : decode cX14_readClass 274 = .ok (.aload_n 0, 1) := by decide +kernel
theorem dX14_readClass_275 : decode cX14_readClass 275 = .ok (.iload_n 1, 1) := by decide +kernel
theorem dX14_readClass_276 : decode cX14_readClass 276 = .ok (.invokevirtual 511, 3) := by decide +kernel
theorem dX14_readClass_279 : decode cX14_readClass 279 = .ok (.aload_n 0, 1) := by decide +kernel
theorem dX14_readClass_280 : decode cX14_readClass 280 = .ok (.getfield 23, 3) := by decide +kernel
theorem dX14_readClass_283 : decode cX14_readClass 283 = .ok (.dup, 1) := by decide +kernel
theorem dX14_readClass_284 : decode cX14_readClass 284 = .ok (.getfield 499, 3) := by decide +kernel
theorem dX14_readClass_287 : decode cX14_readClass 287 = .ok (.iconst 1, 1) := by decide +kernel
theorem dX14_readClass_288 : decode cX14_readClass 288 = .ok (.iadd, 1) := by decide +kernel
theorem dX14_readClass_289 : decode cX14_readClass 289 = .ok (.putfield 499, 3) := by decide +kernel
theorem dX14_readClass_292 : decode cX14_readClass 292 = .ok (.aload_n 0, 1) := by decide +kernel
theorem dX14_readClass_293 : decode cX14_readClass 293 = .ok (.bipush 123, 2) := by decide +kernel
theorem dX14_readClass_295 : decode cX14_readClass 295 = .ok (.invokevirtual 267, 3) := by decide +kernel
theorem dX14_readClass_298 : decode cX14_readClass 298 = .ok (.aload_n 0, 1) := by decide +kernel
theorem dX14_readClass_299 : decode cX14_readClass 299 = .ok (.iconst 2, 1) := by decide +kernel
theorem dX14_readClass_300 : decode cX14_readClass 300 = .ok (.invokevirtual 188, 3) := by decide +kernel
theorem dX14_readClass_303 : decode cX14_readClass 303 = .ok (.ifCond .eq 10, 3) := by decide +kernel
theorem dX14_readClass_306 : decode cX14_readClass 306 = .ok (.aload_n 0, 1) := by decide +kernel
theorem dX14_readClass_307 : decode cX14_readClass 307 = .ok (.invokevirtual 514, 3) := by decide +kernel
theorem dX14_readClass_310 : decode cX14_readClass 310 = .ok (.goto (-12), 3) := by decide +kernel
theorem dX14_readClass_313 : decode cX14_readClass 313 = .ok (.aload_n 0, 1) := by decide +kernel
theorem dX14_readClass_314 : decode cX14_readClass 314 = .ok (.iconst 3, 1) := by decide +kernel
theorem dX14_readClass_315 : decode cX14_readClass 315 = .ok (.invokevirtual 188, 3) := by decide +kernel
theorem dX14_readClass_318 : decode cX14_readClass 318 = .ok (.ifCond .eq 10, 3) := by decide +kernel
theorem dX14_readClass_321 : decode cX14_readClass 321 = .ok (.aload_n 0, 1) := by decide +kernel
theorem dX14_readClass_322 : decode cX14_readClass 322 = .ok (.invokevirtual 517, 3) := by decide +kernel
theorem dX14_readClass_325 : decode cX14_readClass 325 = .ok (.goto (-12), 3) := by decide +kernel
theorem dX14_readClass_328 : decode cX14_readClass 328 = .ok (.aload_n 0, 1) := by decide +kernel
theorem dX14_readClass_329 : decode cX14_readClass 329 = .ok (.iconst 4, 1) := by decide +kernel
theorem dX14_readClass_330 : decode cX14_readClass 330 = .ok (.invokevirtual 188, 3) := by decide +kernel
theorem dX14_readClass_333 : decode cX14_readClass 333 = .ok (.ifCond .eq 10, 3) := by decide +kernel
theorem dX14_readClass_336 : decode cX14_readClass 336 = .ok (.aload_n 0, 1) := by decide +kernel
theorem dX14_readClass_337 : decode cX14_readClass 337 = .ok (.invokevirtual 520, 3) := by decide +kernel
theorem dX14_readClass_340 : decode cX14_readClass 340 = .ok (.goto (-12), 3) := by decide +kernel
theorem dX14_readClass_343 : decode cX14_readClass 343 = .ok (.aload_n 0, 1) := by decide +kernel
theorem dX14_readClass_344 : decode cX14_readClass 344 = .ok (.bipush 125, 2) := by decide +kernel
theorem dX14_readClass_346 : decode cX14_readClass 346 = .ok (.invokevirtual 267, 3) := by decide +kernel
theorem dX14_readClass_349 : decode cX14_readClass 349 = .ok (.return_, 1) := by decide +kernel
theorem dX14_inherit_0 : decode cX14_inherit 0 = .ok (.aload_n 0, 1) := by decide +kernel
theorem dX14_inherit_1 : decode cX14_inherit 1 = .ok (.getfield 23, 3) := by decide +kernel
theorem dX14_inherit_4 : decode cX14_inherit 4 = .ok (.getfield 297, 3) := by decide +kernel
theorem dX14_inherit_7 : decode cX14_inherit 7 = .ok (.aload_n 0, 1) := by decide +kernel
theorem dX14_inherit_8 : decode cX14_inherit 8 = .ok (.getfield 201, 3) := by decide +kernel
theorem dX14_inherit_11 : decode cX14_inherit 11 = .ok (.iload_n 1, 1) := by decide +kernel
theorem dX14_inherit_12 : decode cX14_inherit 12 = .ok (.iastore, 1) := by decide +kernel
theorem dX14_inherit_13 : decode cX14_inherit 13 = .ok (.aload_n 0, 1) := by decide +kernel
theorem dX14_inherit_14 : decode cX14_inherit 14 = .ok (.getfield 23, 3) := by decide +kernel
theorem dX14_inherit_17 : decode cX14_inherit 17 = .ok (.getfield 390, 3) := by decide +kernel
theorem dX14_inherit_20 : decode cX14_inherit 20 = .ok (.aload_n 0, 1) := by decide +kernel
theorem dX14_inherit_21 : decode cX14_inherit 21 = .ok (.getfield 201, 3) := by decide +kernel
theorem dX14_inherit_24 : decode cX14_inherit 24 = .ok (.aload_n 0, 1) := by decide +kernel
theorem dX14_inherit_25 : decode cX14_inherit 25 = .ok (.getfield 23, 3) := by decide +kernel
theorem dX14_inherit_28 : decode cX14_inherit 28 = .ok (.getfield 390, 3) := by decide +kernel
theorem dX14_inherit_31 : decode cX14_inherit 31 = .ok (.iload_n 1, 1) := by decide +kernel
theorem dX14_inherit_32 : decode cX14_inherit 32 = .ok (.iaload, 1) := by decide +kernel
theorem dX14_inherit_33 : decode cX14_inherit 33 = .ok (.iastore, 1) := by decide +kernel
theorem dX14_inherit_34 : decode cX14_inherit 34 = .ok (.aload_n 0, 1) := by decide +kernel
theorem dX14_inherit_35 : decode cX14_inherit 35 = .ok (.getfield 23, 3) := by decide +kernel
theorem dX14_inherit_38 : decode cX14_inherit 38 = .ok (.getfield 399, 3) := by decide +kernel
theorem dX14_inherit_41 : decode cX14_inherit 41 = .ok (.aload_n 0, 1) := by decide +kernel
theorem dX14_inherit_42 : decode cX14_inherit 42 = .ok (.getfield 201, 3) := by decide +kernel
theorem dX14_inherit_45 : decode cX14_inherit 45 = .ok (.aload_n 0, 1) := by decide +kernel
theorem dX14_inherit_46 : decode cX14_inherit 46 = .ok (.getfield 23, 3) := by decide +kernel
theorem dX14_inherit_49 : decode cX14_inherit 49 = .ok (.getfield 399, 3) := by decide +kernel
theorem dX14_inherit_52 : decode cX14_inherit 52 = .ok (.iload_n 1, 1) := by decide +kernel
theorem dX14_inherit_53 : decode cX14_inherit 53 = .ok (.iaload, 1) := by decide +kernel
theorem dX14_inherit_54 : decode cX14_inherit 54 = .ok (.iastore, 1) := by decide +kernel
theorem dX14_inherit_55 : decode cX14_inherit 55 = .ok (.aload_n 0, 1) := by decide +kernel
theorem dX14_inherit_56 : decode cX14_inherit 56 = .ok (.getfield 23, 3) := by decide +kernel
theorem dX14_inherit_59 : decode cX14_inherit 59 = .ok (.getfield 456, 3) := by decide +kernel
theorem dX14_inherit_62 : decode cX14_inherit 62 = .ok (.aload_n 0, 1) := by decide +kernel
theorem dX14_inherit_63 : decode cX14_inherit 63 = .ok (.getfield 201, 3) := by decide +kernel
theorem dX14_inherit_66 : decode cX14_inherit 66 = .ok (.aload_n 0, 1) := by decide +kernel
theorem dX14_inherit_67 : decode cX14_inherit 67 = .ok (.getfield 23, 3) := by decide +kernel
theorem dX14_inherit_70 : decode cX14_inherit 70 = .ok (.getfield 456, 3) := by decide +kernel
theorem dX14_inherit_73 : decode cX14_inherit 73 = .ok (.iload_n 1, 1) := by decide +kernel
theorem dX14_inherit_74 : decode cX14_inherit 74 = .ok (.iaload, 1) := by decide +kernel
theorem dX14_inherit_75 : decode cX14_inherit 75 = .ok (.iastore, 1) := by decide +kernel
theorem dX14_inherit_76 : decode cX14_inherit 76 = .ok (.iconst 0, 1) := by decide +kernel
theorem dX14_inherit_77 : decode cX14_inherit 77 = .ok (.istore_n 2, 1) := by decide +kernel
theorem dX14_inherit_78 : decode cX14_inherit 78 = .ok (.iload_n 2, 1) := by decide +kernel
theorem dX14_inherit_79 : decode cX14_inherit 79 = .ok (.aload_n 0, 1) := by decide +kernel
theorem dX14_inherit_80 : decode cX14_inherit 80 = .ok (.getfield 23, 3) := by decide +kernel
theorem dX14_inherit_83 : decode cX14_inherit 83 = .ok (.getfield 390, 3) := by decide +kernel
theorem dX14_inherit_86 : decode cX14_inherit 86 = .ok (.iload_n 1, 1) := by decide +kernel
theorem dX14_inherit_87 : decode cX14_inherit 87 = .ok (.iaload, 1) := by decide +kernel
theorem dX14_inherit_88 : decode cX14_inherit 88 = .ok (.if_icmp .ge 164, 3) := by decide +kernel
theorem dX14_inherit_91 : decode cX14_inherit 91 = .ok (.aload_n 0, 1) := by decide +kernel
theorem dX14_inherit_92 : decode cX14_inherit 92 = .ok (.getfield 23, 3) := by decide +kernel
theorem dX14_inherit_95 : decode cX14_inherit 95 = .ok (.getfield 410, 3) := by decide +kernel
theorem dX14_inherit_98 : decode cX14_inherit 98 = .ok (.bipush 10, 2) := by decide +kernel
theorem dX14_inherit_100 : decode cX14_inherit 100 = .ok (.aload_n 0, 1) := by decide +kernel
theorem dX14_inherit_101 : decode cX14_inherit 101 = .ok (.getfield 201, 3) := by decide +kernel
theorem dX14_inherit_104 : decode cX14_inherit 104 = .ok (.imul, 1) := by decide +kernel
theorem dX14_inherit_105 : decode cX14_inherit 105 = .ok (.iload_n 2, 1) := by decide +kernel
theorem dX14_inherit_106 : decode cX14_inherit 106 = .ok (.iadd, 1) := by decide +kernel
theorem dX14_inherit_107 : decode cX14_inherit 107 = .ok (.aload_n 0, 1) := by decide +kernel
theorem dX14_inherit_108 : decode cX14_inherit 108 = .ok (.getfield 23, 3) := by decide +kernel
theorem dX14_inherit_111 : decode cX14_inherit 111 = .ok (.getfield 410, 3) := by decide +kernel
theorem dX14_inherit_114 : decode cX14_inherit 114 = .ok (.bipush 10, 2) := by decide +kernel
theorem dX14_inherit_116 : decode cX14_inherit 116 = .ok (.iload_n 1, 1) := by decide +kernel
theorem dX14_inherit_117 : decode cX14_inherit 117 = .ok (.imul, 1) := by decide +kernel
theorem dX14_inherit_118 : decode cX14_inherit 118 = .ok (.iload_n 2, 1) := by decide +kernel
theorem dX14_inherit_119 : decode cX14_inherit 119 = .ok (.iadd, 1) := by decide +kernel
theorem dX14_inherit_120 : decode cX14_inherit 120 = .ok (.laload, 1) := by decide +kernel
theorem dX14_inherit_121 : decode cX14_inherit 121 = .ok (.lastore, 1) := by decide +kernel
theorem dX14_inherit_122 : decode cX14_inherit 122 = .ok (.aload_n 0, 1) := by decide +kernel
theorem dX14_inherit_123 : decode cX14_inherit 123 = .ok (.getfield 23, 3) := by decide +kernel
theorem dX14_inherit_126 : decode cX14_inherit 126 = .ok (.getfield 413, 3) := by decide +kernel
theorem dX14_inherit_129 : decode cX14_inherit 129 = .ok (.bipush 10, 2) := by decide +kernel
theorem dX14_inherit_131 : decode cX14_inherit 131 = .ok (.aload_n 0, 1) := by decide +kernel
theorem dX14_inherit_132 : decode cX14_inherit 132 = .ok (.getfield 201, 3) := by decide +kernel
theorem dX14_inherit_135 : decode cX14_inherit 135 = .ok (.imul, 1) := by decide +kernel
theorem dX14_inherit_136 : decode cX14_inherit 136 = .ok (.iload_n 2, 1) := by decide +kernel
theorem dX14_inherit_137 : decode cX14_inherit 137 = .ok (.iadd, 1) := by decide +kernel
theorem dX14_inherit_138 : decode cX14_inherit 138 = .ok (.aload_n 0, 1) := by decide +kernel
theorem dX14_inherit_139 : decode cX14_inherit 139 = .ok (.getfield 23, 3) := by decide +kernel
theorem dX14_inherit_142 : decode cX14_inherit 142 = .ok (.getfield 413, 3) := by decide +kernel
theorem dX14_inherit_145 : decode cX14_inherit 145 = .ok (.bipush 10, 2) := by decide +kernel
theorem dX14_inherit_147 : decode cX14_inherit 147 = .ok (.iload_n 1, 1) := by decide +kernel
theorem dX14_inherit_148 : decode cX14_inherit 148 = .ok (.imul, 1) := by decide +kernel
theorem dX14_inherit_149 : decode cX14_inherit 149 = .ok (.iload_n 2, 1) := by decide +kernel
theorem dX14_inherit_150 : decode cX14_inherit 150 = .ok (.iadd, 1) := by decide +kernel
theorem dX14_inherit_151 : decode cX14_inherit 151 = .ok (.laload, 1) := by decide +kernel
theorem dX14_inherit_152 : decode cX14_inherit 152 = .ok (.lastore, 1) := by decide +kernel
theorem dX14_inherit_153 : decode cX14_inherit 153 = .ok (.aload_n 0, 1) := by decide +kernel
theorem dX14_inherit_154 : decode cX14_inherit 154 = .ok (.getfield 23, 3) := by decide +kernel
theorem dX14_inherit_157 : decode cX14_inherit 157 = .ok (.getfield 290, 3) := by decide +kernel
theorem dX14_inherit_160 : decode cX14_inherit 160 = .ok (.bipush 10, 2) := by decide +kernel
theorem dX14_inherit_162 : decode cX14_inherit 162 = .ok (.aload_n 0, 1) := by decide +kernel
theorem dX14_inherit_163 : decode cX14_inherit 163 = .ok (.getfield 201, 3) := by decide +kernel
theorem dX14_inherit_166 : decode cX14_inherit 166 = .ok (.imul, 1) := by decide +kernel
theorem dX14_inherit_167 : decode cX14_inherit 167 = .ok (.iload_n 2, 1) := by decide +kernel
theorem dX14_inherit_168 : decode cX14_inherit 168 = .ok (.iadd, 1) := by decide +kernel
theorem dX14_inherit_169 : decode cX14_inherit 169 = .ok (.aload_n 0, 1) := by decide +kernel
theorem dX14_inherit_170 : decode cX14_inherit 170 = .ok (.getfield 23, 3) := by decide +kernel
theorem dX14_inherit_173 : decode cX14_inherit 173 = .ok (.getfield 290, 3) := by decide +kernel
theorem dX14_inherit_176 : decode cX14_inherit 176 = .ok (.bipush 10, 2) := by decide +kernel
theorem dX14_inherit_178 : decode cX14_inherit 178 = .ok (.iload_n 1, 1) := by decide +kernel
theorem dX14_inherit_179 : decode cX14_inherit 179 = .ok (.imul, 1) := by decide +kernel
theorem dX14_inherit_180 : decode cX14_inherit 180 = .ok (.iload_n 2, 1) := by decide +kernel
theorem dX14_inherit_181 : decode cX14_inherit 181 = .ok (.iadd, 1) := by decide +kernel
theorem dX14_inherit_182 : decode cX14_inherit 182 = .ok (.iaload, 1) := by decide +kernel
theorem dX14_inherit_183 : decode cX14_inherit 183 = .ok (.iastore, 1) := by decide +kernel
theorem dX14_inherit_184 : decode cX14_inherit 184 = .ok (.aload_n 0, 1) := by decide +kernel
theorem dX14_inherit_185 : decode cX14_inherit 185 = .ok (.getfield 23, 3) := by decide +kernel
theorem dX14_inherit_188 : decode cX14_inherit 188 = .ok (.getfield 416, 3) := by decide +kernel
theorem dX14_inherit_191 : decode cX14_inherit 191 = .ok (.bipush 10, 2) := by decide +kernel
theorem dX14_inherit_193 : decode cX14_inherit 193 = .ok (.aload_n 0, 1) := by decide +kernel
theorem dX14_inherit_194 : decode cX14_inherit 194 = .ok (.getfield 201, 3) := by decide +kernel
theorem dX14_inherit_197 : decode cX14_inherit 197 = .ok (.imul, 1) := by decide +kernel
theorem dX14_inherit_198 : decode cX14_inherit 198 = .ok (.iload_n 2, 1) := by decide +kernel
theorem dX14_inherit_199 : decode cX14_inherit 199 = .ok (.iadd, 1) := by decide +kernel
theorem dX14_inherit_200 : decode cX14_inherit 200 = .ok (.aload_n 0, 1) := by decide +kernel
theorem dX14_inherit_201 : decode cX14_inherit 201 = .ok (.getfield 23, 3) := by decide +kernel
theorem dX14_inherit_204 : decode cX14_inherit 204 = .ok (.getfield 416, 3) := by decide +kernel
theorem dX14_inherit_207 : decode cX14_inherit 207 = .ok (.bipush 10, 2) := by decide +kernel
theorem dX14_inherit_209 : decode cX14_inherit 209 = .ok (.iload_n 1, 1) := by decide +kernel
theorem dX14_inherit_210 : decode cX14_inherit 210 = .ok (.imul, 1) := by decide +kernel
theorem dX14_inherit_211 : decode cX14_inherit 211 = .ok (.iload_n 2, 1) := by decide +kernel
theorem dX14_inherit_212 : decode cX14_inherit 212 = .ok (.iadd, 1) := by decide +kernel
theorem dX14_inherit_213 : decode cX14_inherit 213 = .ok (.iaload, 1) := by decide +kernel
theorem dX14_inherit_214 : decode cX14_inherit 214 = .ok (.iastore, 1) := by decide +kernel
theorem dX14_inherit_215 : decode cX14_inherit 215 = .ok (.aload_n 0, 1) := by decide +kernel
theorem dX14_inherit_216 : decode cX14_inherit 216 = .ok (.getfield 23, 3) := by decide +kernel
theorem dX14_inherit_219 : decode cX14_inherit 219 = .ok (.getfield 404, 3) := by decide +kernel
theorem dX14_inherit_222 : decode cX14_inherit 222 = .ok (.bipush 10, 2) := by decide +kernel
theorem dX14_inherit_224 : decode cX14_inherit 224 = .ok (.aload_n 0, 1) := by decide +kernel
theorem dX14_inherit_225 : decode cX14_inherit 225 = .ok (.getfield 201, 3) := by decide +kernel
theorem dX14_inherit_228 : decode cX14_inherit 228 = .ok (.imul, 1) := by decide +kernel
theorem dX14_inherit_229 : decode cX14_inherit 229 = .ok (.iload_n 2, 1) := by decide +kernel
theorem dX14_inherit_230 : decode cX14_inherit 230 = .ok (.iadd, 1) := by decide +kernel
theorem dX14_inherit_231 : decode cX14_inherit 231 = .ok (.aload_n 0, 1) := by decide +kernel
theorem dX14_inherit_232 : decode cX14_inherit 232 = .ok (.getfield 23, 3) := by decide +kernel
theorem dX14_inherit_235 : decode cX14_inherit 235 = .ok (.getfield 404, 3) := by decide +kernel
theorem dX14_inherit_238 : decode cX14_inherit 238 = .ok (.bipush 10, 2) := by decide +kernel
theorem dX14_inherit_240 : decode cX14_inherit 240 = .ok (.iload_n 1, 1) := by decide +kernel
theorem dX14_inherit_241 : decode cX14_inherit 241 = .ok (.imul, 1) := by decide +kernel
theorem dX14_inherit_242 : decode cX14_inherit 242 = .ok (.iload_n 2, 1) := by decide +kernel
theorem dX14_inherit_243 : decode cX14_inherit 243 = .ok (.iadd, 1) := by decide +kernel
theorem dX14_inherit_244 : decode cX14_inherit 244 = .ok (.iaload, 1) := by decide +kernel
theorem dX14_inherit_245 : decode cX14_inherit 245 = .ok (.iastore, 1) := by decide +kernel
theorem dX14_inherit_246 : decode cX14_inherit 246 = .ok (.iinc 2 1, 3) := by decide +kernel
theorem dX14_inherit_249 : decode cX14_inherit 249 = .ok (.goto (-171), 3) := by decide +kernel
theorem dX14_inherit_252 : decode cX14_inherit 252 = .ok (.iconst 0, 1) := by decide +kernel
theorem dX14_inherit_253 : decode cX14_inherit 253 = .ok (.istore_n 2, 1) := by decide +kernel
theorem dX14_inherit_254 : decode cX14_inherit 254 = .ok (.iload_n 2, 1) := by decide +kernel
theorem dX14_inherit_255 : decode cX14_inherit 255 = .ok (.aload_n 0, 1) := by decide +kernel
theorem dX14_inherit_256 : decode cX14_inherit 256 = .ok (.getfield 23, 3) := by decide +kernel
theorem dX14_inherit_259 : decode cX14_inherit 259 = .ok (.getfield 456, 3) := by decide +kernel
theorem dX14_inherit_262 : decode cX14_inherit 262 = .ok (.iload_n 1, 1) := by decide +kernel
theorem dX14_inherit_263 : decode cX14_inherit 263 = .ok (.iaload, 1) := by decide +kernel
theorem dX14_inherit_264 : decode cX14_inherit 264 = .ok (.if_icmp .ge 40, 3) := by decide +kernel
theorem dX14_inherit_267 : decode cX14_inherit 267 = .ok (.aload_n 0, 1) := by decide +kernel
theorem dX14_inherit_268 : decode cX14_inherit 268 = .ok (.getfield 23, 3) := by decide +kernel
theorem dX14_inherit_271 : decode cX14_inherit 271 = .ok (.getfield 477, 3) := by decide +kernel
theorem dX14_inherit_274 : decode cX14_inherit 274 = .ok (.bipush 12, 2) := by decide +kernel
theorem dX14_inherit_276 : decode cX14_inherit 276 = .ok (.aload_n 0, 1) := by decide +kernel
theorem dX14_inherit_277 : decode cX14_inherit 277 = .ok (.getfield 201, 3) := by decide +kernel
theorem dX14_inherit_280 : decode cX14_inherit 280 = .ok (.imul, 1) := by decide +kernel
theorem dX14_inherit_281 : decode cX14_inherit 281 = .ok (.iload_n 2, 1) := by decide +kernel
theorem dX14_inherit_282 : decode cX14_inherit 282 = .ok (.iadd, 1) := by decide +kernel
theorem dX14_inherit_283 : decode cX14_inherit 283 = .ok (.aload_n 0, 1) := by decide +kernel
theorem dX14_inherit_284 : decode cX14_inherit 284 = .ok (.getfield 23, 3) := by decide +kernel
theorem dX14_inherit_287 : decode cX14_inherit 287 = .ok (.getfield 477, 3) := by decide +kernel
theorem dX14_inherit_290 : decode cX14_inherit 290 = .ok (.bipush 12, 2) := by decide +kernel
theorem dX14_inherit_292 : decode cX14_inherit 292 = .ok (.iload_n 1, 1) := by decide +kernel
theorem dX14_inherit_293 : decode cX14_inherit 293 = .ok (.imul, 1) := by decide +kernel
theorem dX14_inherit_294 : decode cX14_inherit 294 = .ok (.iload_n 2, 1) := by decide +kernel
theorem dX14_inherit_295 : decode cX14_inherit 295 = .ok (.iadd, 1) := by decide +kernel
theorem dX14_inherit_296 : decode cX14_inherit 296 = .ok (.iaload, 1) := by decide +kernel
theorem dX14_inherit_297 : decode cX14_inherit 297 = .ok (.iastore, 1) := by decide +kernel
theorem dX14_inherit_298 : decode cX14_inherit 298 = .ok (.iinc 2 1, 3) := by decide +kernel
theorem dX14_inherit_301 : decode cX14_inherit 301 = .ok (.goto (-47), 3) := by decide +kernel
theorem dX14_inherit_304 : decode cX14_inherit 304 = .ok (.return_, 1) := by decide +kernel
theorem dX14_classes_0 : decode cX14_classes 0 = .ok (.aload_n 0, 1) := by decide +kernel
theorem dX14_classes_1 : decode cX14_classes 1 = .ok (.aload_n 0, 1) := by decide +kernel
theorem dX14_classes_2 : decode cX14_classes 2 = .ok (.getfield 523, 3) := by decide +kernel
theorem dX14_classes_5 : decode cX14_classes 5 = .ok (.putfield 99, 3) := by decide +kernel
theorem dX14_classes_8 : decode cX14_classes 8 = .ok (.aload_n 0, 1) := by decide +kernel
theorem dX14_classes_9 : decode cX14_classes 9 = .ok (.iconst 0, 1) := by decide +kernel
theorem dX14_classes_10 : decode cX14_classes 10 = .ok (.putfield 523, 3) := by decide +kernel
theorem dX14_classes_13 : decode cX14_classes 13 = .ok (.aload_n 0, 1) := by decide +kernel
theorem dX14_classes_14 : decode cX14_classes 14 = .ok (.iconst 0, 1) := by decide +kernel
theorem dX14_classes_15 : decode cX14_classes 15 = .ok (.putfield 125, 3) := by decide +kernel
theorem dX14_classes_18 : decode cX14_classes 18 = .ok (.aload_n 0, 1) := by decide +kernel
theorem dX14_classes_19 : decode cX14_classes 19 = .ok (.iconst 0, 1) := by decide +kernel
theorem dX14_classes_20 : decode cX14_classes 20 = .ok (.putfield 134, 3) := by decide +kernel
theorem dX14_classes_23 : decode cX14_classes 23 = .ok (.aload_n 0, 1) := by decide +kernel
theorem dX14_classes_24 : decode cX14_classes 24 = .ok (.iconst 0, 1) := by decide +kernel
theorem dX14_classes_25 : decode cX14_classes 25 = .ok (.putfield 102, 3) := by decide +kernel
theorem dX14_classes_28 : decode cX14_classes 28 = .ok (.aload_n 0, 1) := by decide +kernel
theorem dX14_classes_29 : decode cX14_classes 29 = .ok (.iconst (-1), 1) := by decide +kernel
theorem dX14_classes_30 : decode cX14_classes 30 = .ok (.putfield 30, 3) := by decide +kernel
theorem dX14_classes_33 : decode cX14_classes 33 = .ok (.aload_n 0, 1) := by decide +kernel
theorem dX14_classes_34 : decode cX14_classes 34 = .ok (.getfield 23, 3) := by decide +kernel
theorem dX14_classes_37 : decode cX14_classes 37 = .ok (.iconst 0, 1) := by decide +kernel
theorem dX14_classes_38 : decode cX14_classes 38 = .ok (.putfield 499, 3) := by decide +kernel
theorem dX14_classes_41 : decode cX14_classes 41 = .ok (.aload_n 0, 1) := by decide +kernel
theorem dX14_classes_42 : decode cX14_classes 42 = .ok (.getfield 23, 3) := by decide +kernel
theorem dX14_classes_45 : decode cX14_classes 45 = .ok (.iconst 0, 1) := by decide +kernel
theorem dX14_classes_46 : decode cX14_classes 46 = .ok (.putfield 459, 3) := by decide +kernel
theorem dX14_classes_49 : decode cX14_classes 49 = .ok (.aload_n 0, 1) := by decide +kernel
theorem dX14_classes_50 : decode cX14_classes 50 = .ok (.getfield 23, 3) := by decide +kernel
theorem dX14_classes_53 : decode cX14_classes 53 = .ok (.iconst 0, 1) := by decide +kernel
theorem dX14_classes_54 : decode cX14_classes 54 = .ok (.putfield 330, 3) := by decide +kernel
theorem dX14_classes_57 : decode cX14_classes 57 = .ok (.aload_n 0, 1) := by decide +kernel
theorem dX14_classes_58 : decode cX14_classes 58 = .ok (.getfield 23, 3) := by decide +kernel
theorem dX14_classes_61 : decode cX14_classes 61 = .ok (.iconst 0, 1) := by decide +kernel
theorem dX14_classes_62 : decode cX14_classes 62 = .ok (.putfield 211, 3) := by decide +kernel
theorem dX14_classes_65 : decode cX14_classes 65 = .ok (.aload_n 0, 1) := by decide +kernel
theorem dX14_classes_66 : decode cX14_classes 66 = .ok (.getfield 23, 3) := by decide +kernel
theorem dX14_classes_69 : decode cX14_classes 69 = .ok (.iconst 0, 1) := by decide +kernel
theorem dX14_classes_70 : decode cX14_classes 70 = .ok (.putfield 208, 3) := by decide +kernel
theorem dX14_classes_73 : decode cX14_classes 73 = .ok (.aload_n 0, 1) := by decide +kernel
theorem dX14_classes_74 : decode cX14_classes 74 = .ok (.iconst 0, 1) := by decide +kernel
theorem dX14_classes_75 : decode cX14_classes 75 = .ok (.putfield 195, 3) := by decide +kernel
theorem dX14_classes_78 : decode cX14_classes 78 = .ok (.aload_n 0, 1) := by decide +kernel
theorem dX14_classes_79 : decode cX14_classes 79 = .ok (.iconst 0, 1) := by decide +kernel
theorem dX14_classes_80 : decode cX14_classes 80 = .ok (.putfield 198, 3) := by decide +kernel
theorem dX14_classes_83 : decode cX14_classes 83 = .ok (.aload_n 0, 1) := by decide +kernel
theorem dX14_classes_84 : decode cX14_classes 84 = .ok (.iconst 0, 1) := by decide +kernel
theorem dX14_classes_85 : decode cX14_classes 85 = .ok (.putfield 303, 3) := by decide +kernel
theorem dX14_classes_88 : decode cX14_classes 88 = .ok (.aload_n 0, 1) := by decide +kernel
theorem dX14_classes_89 : decode cX14_classes 89 = .ok (.iconst 0, 1) := by decide +kernel
theorem dX14_classes_90 : decode cX14_classes 90 = .ok (.putfield 276, 3) := by decide +kernel
theorem dX14_classes_93 : decode cX14_classes 93 = .ok (.aload_n 0, 1) := by decide +kernel
theorem dX14_classes_94 : decode cX14_classes 94 = .ok (.iconst 0, 1) := by decide +kernel
theorem dX14_classes_95 : decode cX14_classes 95 = .ok (.putfield 191, 3) := by decide +kernel
theorem dX14_classes_98 : decode cX14_classes 98 = .ok (.aload_n 0, 1) := by decide +kernel
theorem dX14_classes_99 : decode cX14_classes 99 = .ok (.iconst 0, 1) := by decide +kernel
theorem dX14_classes_100 : decode cX14_classes 100 = .ok (.putfield 241, 3) := by decide +kernel
theorem dX14_classes_103 : decode cX14_classes 103 = .ok (.aload_n 0, 1) := by decide +kernel
theorem dX14_classes_104 : decode cX14_classes 104 = .ok (.iconst 0, 1) := by decide +kernel
theorem dX14_classes_105 : decode cX14_classes 105 = .ok (.putfield 363, 3) := by decide +kernel
theorem dX14_classes_108 : decode cX14_classes 108 = .ok (.aload_n 0, 1) := by decide +kernel
theorem dX14_classes_109 : decode cX14_classes 109 = .ok (.invokevirtual 179, 3) := by decide +kernel
theorem dX14_classes_112 : decode cX14_classes 112 = .ok (.aload_n 0, 1) := by decide +kernel
theorem dX14_classes_113 : decode cX14_classes 113 = .ok (.invokevirtual 526, 3) := by decide +kernel
theorem dX14_classes_116 : decode cX14_classes 116 = .ok (.aload_n 0, 1) := by decide +kernel
theorem dX14_classes_117 : decode cX14_classes 117 = .ok (.getfield 131, 3) := by decide +kernel
theorem dX14_classes_120 : decode cX14_classes 120 = .ok (.iconst 5, 1) := by decide +kernel
theorem dX14_classes_121 : decode cX14_classes 121 = .ok (.if_icmp .ne (-9), 3) := by decide +kernel
theorem dX14_classes_124 : decode cX14_classes 124 = .ok (.goto 6, 3) := by decide +kernel
theorem dX14_classes_127 : decode cX14_classes 127 = .ok (.astore_n 1, 1) := by decide +kernel
theorem dX14_classes_128 : decode cX14_classes 128 = .ok (.iconst (-1), 1) := by decide +kernel
theorem dX14_classes_129 : decode cX14_classes 129 = .ok (.ireturn, 1) := by decide +kernel
theorem dX14_classes_130 : decode cX14_classes 130 = .ok (.aload_n 0, 1) := by decide +kernel
theorem dX14_classes_131 : decode cX14_classes 131 = .ok (.getfield 19, 3) := by decide +kernel
theorem dX14_classes_134 : decode cX14_classes 134 = .ok (.astore_n 1, 1) := by decide +kernel
theorem dX14_classes_135 : decode cX14_classes 135 = .ok (.aload_n 0, 1) := by decide +kernel
theorem dX14_classes_136 : decode cX14_classes 136 = .ok (.aload_n 0, 1) := by decide +kernel
theorem dX14_classes_137 : decode cX14_classes 137 = .ok (.getfield 23, 3) := by decide +kernel
theorem dX14_classes_140 : decode cX14_classes 140 = .ok (.putfield 19, 3) := by decide +kernel
theorem dX14_classes_143 : decode cX14_classes 143 = .ok (.aload_n 0, 1) := by decide +kernel
theorem dX14_classes_144 : decode cX14_classes 144 = .ok (.aload_n 1, 1) := by decide +kernel
theorem dX14_classes_145 : decode cX14_classes 145 = .ok (.putfield 23, 3) := by decide +kernel
theorem dX14_classes_148 : decode cX14_classes 148 = .ok (.aload_n 0, 1) := by decide +kernel
theorem dX14_classes_149 : decode cX14_classes 149 = .ok (.iconst 0, 1) := by decide +kernel
theorem dX14_classes_150 : decode cX14_classes 150 = .ok (.putfield 529, 3) := by decide +kernel
theorem dX14_classes_153 : decode cX14_classes 153 = .ok (.aload_n 0, 1) := by decide +kernel
theorem dX14_classes_154 : decode cX14_classes 154 = .ok (.iconst 0, 1) := by decide +kernel
theorem dX14_classes_155 : decode cX14_classes 155 = .ok (.putfield 532, 3) := by decide +kernel
theorem dX14_classes_158 : decode cX14_classes 158 = .ok (.aload_n 0, 1) := by decide +kernel
theorem dX14_classes_159 : decode cX14_classes 159 = .ok (.invokevirtual 535, 3) := by decide +kernel
theorem dX14_classes_162 : decode cX14_classes 162 = .ok (.aload_n 0, 1) := by decide +kernel
theorem dX14_classes_163 : decode cX14_classes 163 = .ok (.iconst 0, 1) := by decide +kernel
theorem dX14_classes_164 : decode cX14_classes 164 = .ok (.putfield 538, 3) := by decide +kernel
theorem dX14_classes_167 : decode cX14_classes 167 = .ok (.aload_n 0, 1) := by decide +kernel
theorem dX14_classes_168 : decode cX14_classes 168 = .ok (.iconst 0, 1) := by decide +kernel
theorem dX14_classes_169 : decode cX14_classes 169 = .ok (.putfield 541, 3) := by decide +kernel
theorem dX14_classes_172 : decode cX14_classes 172 = .ok (.aload_n 0, 1) := by decide +kernel
theorem dX14_classes_173 : decode cX14_classes 173 = .ok (.getfield 19, 3) := by decide +kernel
theorem dX14_classes_176 : decode cX14_classes 176 = .ok (.getfield 499, 3) := by decide +kernel
theorem dX14_classes_179 : decode cX14_classes 179 = .ok (.ireturn, 1) := by decide +kernel
