theorem dX14_readBlock_0 : decode cX14_readBlock 0 = .ok (.aload_n 0, 1) := by decide +kernel
theorem dX14_readBlock_1 : decode cX14_readBlock 1 = .ok (.aload_n 0, 1) := by decide +kernel
theorem dX14_readBlock_2 : decode cX14_readBlock 2 = .ok (.bipush 123, 2) := by decide +kernel
theorem dX14_readBlock_4 : decode cX14_readBlock 4 = .ok (.invokevirtual 182, 3) := by decide +kernel
theorem dX14_readBlock_7 : decode cX14_readBlock 7 = .ok (.iconst 1, 1) := by decide +kernel
theorem dX14_readBlock_8 : decode cX14_readBlock 8 = .ok (.aload_n 0, 1) := by decide +kernel
theorem dX14_readBlock_9 : decode cX14_readBlock 9 = .ok (.getfield 128, 3) := by decide +kernel
theorem dX14_readBlock_12 : decode cX14_readBlock 12 = .ok (.invokevirtual 172, 3) := by decide +kernel
theorem dX14_readBlock_15 : decode cX14_readBlock 15 = .ok (.aload_n 0, 1) := by decide +kernel
theorem dX14_readBlock_16 : decode cX14_readBlock 16 = .ok (.aload_n 0, 1) := by decide +kernel
theorem dX14_readBlock_17 : decode cX14_readBlock 17 = .ok (.getfield 363, 3) := by decide +kernel
theorem dX14_readBlock_20 : decode cX14_readBlock 20 = .ok (.bipush 8, 2) := by decide +kernel
theorem dX14_readBlock_22 : decode cX14_readBlock 22 = .ok (.if_icmp .ge 7, 3) := by decide +kernel
theorem dX14_readBlock_25 : decode cX14_readBlock 25 = .ok (.iconst 1, 1) := by decide +kernel
theorem dX14_readBlock_26 : decode cX14_readBlock 26 = .ok (.goto 4, 3) := by decide +kernel
theorem dX14_readBlock_29 : decode cX14_readBlock 29 = .ok (.iconst 0, 1) := by decide +kernel
theorem dX14_readBlock_30 : decode cX14_readBlock 30 = .ok (.iconst 4, 1) := by decide +kernel
theorem dX14_readBlock_31 : decode cX14_readBlock 31 = .ok (.aload_n 0, 1) := by decide +kernel
theorem dX14_readBlock_32 : decode cX14_readBlock 32 = .ok (.getfield 128, 3) := by decide +kernel
theorem dX14_readBlock_35 : decode cX14_readBlock 35 = .ok (.invokevirtual 172, 3) := by decide +kernel
theorem dX14_readBlock_38 : decode cX14_readBlock 38 = .ok (.aload_n 0, 1) := by decide +kernel
theorem dX14_readBlock_39 : decode cX14_readBlock 39 = .ok (.dup, 1) := by decide +kernel
theorem dX14_readBlock_40 : decode cX14_readBlock 40 = .ok (.getfield 363, 3) := by decide +kernel
theorem dX14_readBlock_43 : decode cX14_readBlock 43 = .ok (.iconst 1, 1) := by decide +kernel
theorem dX14_readBlock_44 : decode cX14_readBlock 44 = .ok (.iadd, 1) := by decide +kernel
theorem dX14_readBlock_45 : decode cX14_readBlock 45 = .ok (.putfield 363, 3) := by decide +kernel
theorem dX14_readBlock_48 : decode cX14_readBlock 48 = .ok (.aload_n 0, 1) := by decide +kernel
theorem dX14_readBlock_49 : decode cX14_readBlock 49 = .ok (.invokevirtual 185, 3) := by decide +kernel
theorem dX14_readBlock_52 : decode cX14_readBlock 52 = .ok (.aload_n 0, 1) := by decide +kernel
theorem dX14_readBlock_53 : decode cX14_readBlock 53 = .ok (.getfield 198, 3) := by decide +kernel
theorem dX14_readBlock_56 : decode cX14_readBlock 56 = .ok (.istore_n 1, 1) := by decide +kernel
theorem dX14_readBlock_57 : decode cX14_readBlock 57 = .ok (.iconst (-1), 1) := by decide +kernel
theorem dX14_readBlock_58 : decode cX14_readBlock 58 = .ok (.istore_n 2, 1) := by decide +kernel
theorem dX14_readBlock_59 : decode cX14_readBlock 59 = .ok (.iconst (-1), 1) := by decide +kernel
theorem dX14_readBlock_60 : decode cX14_readBlock 60 = .ok (.istore_n 3, 1) := by decide +kernel
theorem dX14_readBlock_61 : decode cX14_readBlock 61 = .ok (.aload_n 0, 1) := by decide +kernel
theorem dX14_readBlock_62 : decode cX14_readBlock 62 = .ok (.bipush 125, 2) := by decide +kernel
theorem dX14_readBlock_64 : decode cX14_readBlock 64 = .ok (.invokevirtual 182, 3) := by decide +kernel
theorem dX14_readBlock_67 : decode cX14_readBlock 67 = .ok (.ifCond .ne 37, 3) := by decide +kernel
theorem dX14_readBlock_70 : decode cX14_readBlock 70 = .ok (.aload_n 0, 1) := by decide +kernel
theorem dX14_readBlock_71 : decode cX14_readBlock 71 = .ok (.invokevirtual 366, 3) := by decide +kernel
theorem dX14_readBlock_74 : decode cX14_readBlock 74 = .ok (.istore 4, 2) := by decide +kernel
theorem dX14_readBlock_76 : decode cX14_readBlock 76 = .ok (.iload_n 2, 1) := by decide +kernel
theorem dX14_readBlock_77 : decode cX14_readBlock 77 = .ok (.iconst (-1), 1) := by decide +kernel
theorem dX14_readBlock_78 : decode cX14_readBlock 78 = .ok (.if_icmp .ne 9, 3) := by decide +kernel
theorem dX14_readBlock_81 : decode cX14_readBlock 81 = .ok (.iload 4, 2) := by decide +kernel
theorem dX14_readBlock_83 : decode cX14_readBlock 83 = .ok (.istore_n 2, 1) := by decide +kernel
theorem dX14_readBlock_84 : decode cX14_readBlock 84 = .ok (.goto 14, 3) := by decide +kernel
theorem dX14_readBlock_87 : decode cX14_readBlock 87 = .ok (.aload_n 0, 1) := by decide +kernel
theorem dX14_readBlock_88 : decode cX14_readBlock 88 = .ok (.getfield 23, 3) := by decide +kernel
theorem dX14_readBlock_91 : decode cX14_readBlock 91 = .ok (.getfield 354, 3) := by decide +kernel
theorem dX14_readBlock_94 : decode cX14_readBlock 94 = .ok (.iload_n 3, 1) := by decide +kernel
theorem dX14_readBlock_95 : decode cX14_readBlock 95 = .ok (.iload 4, 2) := by decide +kernel
theorem dX14_readBlock_97 : decode cX14_readBlock 97 = .ok (.iastore, 1) := by decide +kernel
theorem dX14_readBlock_98 : decode cX14_readBlock 98 = .ok (.iload 4, 2) := by decide +kernel
theorem dX14_readBlock_100 : decode cX14_readBlock 100 = .ok (.istore_n 3, 1) := by decide +kernel
theorem dX14_readBlock_101 : decode cX14_readBlock 101 = .ok (.goto (-40), 3) := by decide +kernel
theorem dX14_readBlock_104 : decode cX14_readBlock 104 = .ok (.aload_n 0, 1) := by decide +kernel
theorem dX14_readBlock_105 : decode cX14_readBlock 105 = .ok (.invokevirtual 185, 3) := by decide +kernel
theorem dX14_readBlock_108 : decode cX14_readBlock 108 = .ok (.aload_n 0, 1) := by decide +kernel
theorem dX14_readBlock_109 : decode cX14_readBlock 109 = .ok (.dup, 1) := by decide +kernel
theorem dX14_readBlock_110 : decode cX14_readBlock 110 = .ok (.getfield 363, 3) := by decide +kernel
theorem dX14_readBlock_113 : decode cX14_readBlock 113 = .ok (.iconst 1, 1) := by decide +kernel
theorem dX14_readBlock_114 : decode cX14_readBlock 114 = .ok (.isub, 1) := by decide +kernel
theorem dX14_readBlock_115 : decode cX14_readBlock 115 = .ok (.putfield 363, 3) := by decide +kernel
theorem dX14_readBlock_118 : decode cX14_readBlock 118 = .ok (.aload_n 0, 1) := by decide +kernel
theorem dX14_readBlock_119 : decode cX14_readBlock 119 = .ok (.iload_n 1, 1) := by decide +kernel
theorem dX14_readBlock_120 : decode cX14_readBlock 120 = .ok (.putfield 198, 3) := by decide +kernel
theorem dX14_readBlock_123 : decode cX14_readBlock 123 = .ok (.iload_n 2, 1) := by decide +kernel
theorem dX14_readBlock_124 : decode cX14_readBlock 124 = .ok (.ireturn, 1) := by decide +kernel
theorem dX14_readStatement_0 : decode cX14_readStatement 0 = .ok (.aload_n 0, 1) := by decide +kernel
theorem dX14_readStatement_1 : decode cX14_readStatement 1 = .ok (.getfield 131, 3) := by decide +kernel
theorem dX14_readStatement_4 : decode cX14_readStatement 4 = .ok (.iconst 1, 1) := by decide +kernel
theorem dX14_readStatement_5 : decode cX14_readStatement 5 = .ok (.if_icmp .eq 64, 3) := by decide +kernel
theorem dX14_readStatement_8 : decode cX14_readStatement 8 = .ok (.aload_n 0, 1) := by decide +kernel
theorem dX14_readStatement_9 : decode cX14_readStatement 9 = .ok (.getfield 131, 3) := by decide +kernel
theorem dX14_readStatement_12 : decode cX14_readStatement 12 = .ok (.iconst 2, 1) := by decide +kernel
theorem dX14_readStatement_13 : decode cX14_readStatement 13 = .ok (.if_icmp .ne 60, 3) := by decide +kernel
theorem dX14_readStatement_16 : decode cX14_readStatement 16 = .ok (.aload_n 0, 1) := by decide +kernel
theorem dX14_readStatement_17 : decode cX14_readStatement 17 = .ok (.getfield 148, 3) := by decide +kernel
theorem dX14_readStatement_20 : decode cX14_readStatement 20 = .ok (.bipush 12, 2) := by decide +kernel
theorem dX14_readStatement_22 : decode cX14_readStatement 22 = .ok (.if_icmp .eq 47, 3) := by decide +kernel
theorem dX14_readStatement_25 : decode cX14_readStatement 25 = .ok (.aload_n 0, 1) := by decide +kernel
theorem dX14_readStatement_26 : decode cX14_readStatement 26 = .ok (.getfield 148, 3) := by decide +kernel
theorem dX14_readStatement_29 : decode cX14_readStatement 29 = .ok (.bipush 13, 2) := by decide +kernel
theorem dX14_readStatement_31 : decode cX14_readStatement 31 = .ok (.if_icmp .eq 38, 3) := by decide +kernel
theorem dX14_readStatement_34 : decode cX14_readStatement 34 = .ok (.aload_n 0, 1) := by decide +kernel
theorem dX14_readStatement_35 : decode cX14_readStatement 35 = .ok (.getfield 148, 3) := by decide +kernel
theorem dX14_readStatement_38 : decode cX14_readStatement 38 = .ok (.bipush 15, 2) := by decide +kernel
theorem dX14_readStatement_40 : decode cX14_readStatement 40 = .ok (.if_icmp .eq 29, 3) := by decide +kernel
theorem dX14_readStatement_43 : decode cX14_readStatement 43 = .ok (.aload_n 0, 1) := by decide +kernel
theorem dX14_readStatement_44 : decode cX14_readStatement 44 = .ok (.getfield 148, 3) := by decide +kernel
theorem dX14_readStatement_47 : decode cX14_readStatement 47 = .ok (.bipush 16, 2) := by decide +kernel
theorem dX14_readStatement_49 : decode cX14_readStatement 49 = .ok (.if_icmp .eq 20, 3) := by decide +kernel
theorem dX14_readStatement_52 : decode cX14_readStatement 52 = .ok (.aload_n 0, 1) := by decide +kernel
theorem dX14_readStatement_53 : decode cX14_readStatement 53 = .ok (.getfield 148, 3) := by decide +kernel
theorem dX14_readStatement_56 : decode cX14_readStatement 56 = .ok (.bipush 17, 2) := by decide +kernel
theorem dX14_readStatement_58 : decode cX14_readStatement 58 = .ok (.if_icmp .eq 11, 3) := by decide +kernel
theorem dX14_readStatement_61 : decode cX14_readStatement 61 = .ok (.aload_n 0, 1) := by decide +kernel
theorem dX14_readStatement_62 : decode cX14_readStatement 62 = .ok (.getfield 148, 3) := by decide +kernel
theorem dX14_readStatement_65 : decode cX14_readStatement 65 = .ok (.iconst 1, 1) := by decide +kernel
theorem dX14_readStatement_66 : decode cX14_readStatement 66 = .ok (.if_icmp .ne 7, 3) := by decide +kernel
theorem dX14_readStatement_69 : decode cX14_readStatement 69 = .ok (.iconst 1, 1) := by decide +kernel
theorem dX14_readStatement_70 : decode cX14_readStatement 70 = .ok (.goto 4, 3) := by decide +kernel
theorem dX14_readStatement_73 : decode cX14_readStatement 73 = .ok (.iconst 0, 1) := by decide +kernel
theorem dX14_readStatement_74 : decode cX14_readStatement 74 = .ok (.istore_n 1, 1) := by decide +kernel
theorem dX14_readStatement_75 : decode cX14_readStatement 75 = .ok (.aload_n 0, 1) := by decide +kernel
theorem dX14_readStatement_76 : decode cX14_readStatement 76 = .ok (.iload_n 1, 1) := by decide +kernel
theorem dX14_readStatement_77 : decode cX14_readStatement 77 = .ok (.iconst 1, 1) := by decide +kernel
theorem dX14_readStatement_78 : decode cX14_readStatement 78 = .ok (.aload_n 0, 1) := by decide +kernel
theorem dX14_readStatement_79 : decode cX14_readStatement 79 = .ok (.getfield 128, 3) := by decide +kernel
theorem dX14_readStatement_82 : decode cX14_readStatement 82 = .ok (.invokevirtual 172, 3) := by decide +kernel
theorem dX14_readStatement_85 : decode cX14_readStatement 85 = .ok (.aload_n 0, 1) := by decide +kernel
theorem dX14_readStatement_86 : decode cX14_readStatement 86 = .ok (.getfield 131, 3) := by decide +kernel
theorem dX14_readStatement_89 : decode cX14_readStatement 89 = .ok (.iconst 1, 1) := by decide +kernel
theorem dX14_readStatement_90 : decode cX14_readStatement 90 = .ok (.if_icmp .ne 8, 3) := by decide +kernel
theorem dX14_readStatement_93 : decode cX14_readStatement 93 = .ok (.aload_n 0, 1) := by decide +kernel
theorem dX14_readStatement_94 : decode cX14_readStatement 94 = .ok (.invokevirtual 369, 3) := by decide +kernel
theorem dX14_readStatement_97 : decode cX14_readStatement 97 = .ok (.ireturn, 1) := by decide +kernel
theorem dX14_readStatement_98 : decode cX14_readStatement 98 = .ok (.aload_n 0, 1) := by decide +kernel
theorem dX14_readStatement_99 : decode cX14_readStatement 99 = .ok (.invokevirtual 372, 3) := by decide +kernel
theorem dX14_readStatement_102 : decode cX14_readStatement 102 = .ok (.aload_n 0, 1) := by decide +kernel
theorem dX14_readStatement_103 : decode cX14_readStatement 103 = .ok (.getfield 148, 3) := by decide +kernel
theorem dX14_readStatement_106 : decode cX14_readStatement 106 = .ok (.iconst 1, 1) := by decide +kernel
theorem dX14_readStatement_107 : decode cX14_readStatement 107 = .ok (.if_icmp .ne 8, 3) := by decide +kernel
theorem dX14_readStatement_110 : decode cX14_readStatement 110 = .ok (.aload_n 0, 1) := by decide +kernel
theorem dX14_readStatement_111 : decode cX14_readStatement 111 = .ok (.invokevirtual 369, 3) := by decide +kernel
theorem dX14_readStatement_114 : decode cX14_readStatement 114 = .ok (.ireturn, 1) := by decide +kernel
theorem dX14_readStatement_115 : decode cX14_readStatement 115 = .ok (.aload_n 0, 1) := by decide +kernel
theorem dX14_readStatement_116 : decode cX14_readStatement 116 = .ok (.getfield 148, 3) := by decide +kernel
theorem dX14_readStatement_119 : decode cX14_readStatement 119 = .ok (.istore_n 2, 1) := by decide +kernel
theorem dX14_readStatement_120 : decode cX14_readStatement 120 = .ok (.aload_n 0, 1) := by decide +kernel
theorem dX14_readStatement_121 : decode cX14_readStatement 121 = .ok (.iload_n 2, 1) := by decide +kernel
theorem dX14_readStatement_122 : decode cX14_readStatement 122 = .ok (.bipush 12, 2) := by decide +kernel
theorem dX14_readStatement_124 : decode cX14_readStatement 124 = .ok (.if_icmp .ne 7, 3) := by decide +kernel
theorem dX14_readStatement_127 : decode cX14_readStatement 127 = .ok (.iconst 1, 1) := by decide +kernel
theorem dX14_readStatement_128 : decode cX14_readStatement 128 = .ok (.goto 35, 3) := by decide +kernel
theorem dX14_readStatement_131 : decode cX14_readStatement 131 = .ok (.iload_n 2, 1) := by decide +kernel
theorem dX14_readStatement_132 : decode cX14_readStatement 132 = .ok (.bipush 13, 2) := by decide +kernel
theorem dX14_readStatement_134 : decode cX14_readStatement 134 = .ok (.if_icmp .ne 7, 3) := by decide +kernel
theorem dX14_readStatement_137 : decode cX14_readStatement 137 = .ok (.iconst 3, 1) := by decide +kernel
theorem dX14_readStatement_138 : decode cX14_readStatement 138 = .ok (.goto 25, 3) := by decide +kernel
theorem dX14_readStatement_141 : decode cX14_readStatement 141 = .ok (.iload_n 2, 1) := by decide +kernel
theorem dX14_readStatement_142 : decode cX14_readStatement 142 = .ok (.bipush 15, 2) := by decide +kernel
theorem dX14_readStatement_144 : decode cX14_readStatement 144 = .ok (.if_icmp .ne 7, 3) := by decide +kernel
theorem dX14_readStatement_147 : decode cX14_readStatement 147 = .ok (.iconst 4, 1) := by decide +kernel
theorem dX14_readStatement_148 : decode cX14_readStatement 148 = .ok (.goto 15, 3) := by decide +kernel
theorem dX14_readStatement_151 : decode cX14_readStatement 151 = .ok (.iload_n 2, 1) := by decide +kernel
theorem dX14_readStatement_152 : decode cX14_readStatement 152 = .ok (.bipush 16, 2) := by decide +kernel
theorem dX14_readStatement_154 : decode cX14_readStatement 154 = .ok (.if_icmp .ne 7, 3) := by decide +kernel
theorem dX14_readStatement_157 : decode cX14_readStatement 157 = .ok (.iconst 5, 1) := by decide +kernel
theorem dX14_readStatement_158 : decode cX14_readStatement 158 = .ok (.goto 5, 3) := by decide +kernel
theorem dX14_readStatement_161 : decode cX14_readStatement 161 = .ok (.bipush 6, 2) := by decide +kernel
theorem dX14_readStatement_163 : decode cX14_readStatement 163 = .ok (.invokevirtual 375, 3) := by decide +kernel
theorem dX14_readStatement_166 : decode cX14_readStatement 166 = .ok (.istore_n 3, 1) := by decide +kernel
theorem dX14_readStatement_167 : decode cX14_readStatement 167 = .ok (.aload_n 0, 1) := by decide +kernel
theorem dX14_readStatement_168 : decode cX14_readStatement 168 = .ok (.invokevirtual 185, 3) := by decide +kernel
theorem dX14_readStatement_171 : decode cX14_readStatement 171 = .ok (.iload_n 2, 1) := by decide +kernel
theorem dX14_readStatement_172 : decode cX14_readStatement 172 = .ok (.tableswitch 308 12 16 #[36, 209, 308, 259, 287], 36) := by decide +kernel
theorem dX14_readStatement_208 : decode cX14_readStatement 208 = .ok (.aload_n 0, 1) := by decide +kernel
theorem dX14_readStatement_209 : decode cX14_readStatement 209 = .ok (.aload_n 0, 1) := by decide +kernel
theorem dX14_readStatement_210 : decode cX14_readStatement 210 = .ok (.getfield 131, 3) := by decide +kernel
theorem dX14_readStatement_213 : decode cX14_readStatement 213 = .ok (.iconst 1, 1) := by decide +kernel
theorem dX14_readStatement_214 : decode cX14_readStatement 214 = .ok (.if_icmp .ne 7, 3) := by decide +kernel
theorem dX14_readStatement_217 : decode cX14_readStatement 217 = .ok (.iconst 1, 1) := by decide +kernel
theorem dX14_readStatement_218 : decode cX14_readStatement 218 = .ok (.goto 4, 3) := by decide +kernel
theorem dX14_readStatement_221 : decode cX14_readStatement 221 = .ok (.iconst 0, 1) := by decide +kernel
theorem dX14_readStatement_222 : decode cX14_readStatement 222 = .ok (.iconst 1, 1) := by decide +kernel
theorem dX14_readStatement_223 : decode cX14_readStatement 223 = .ok (.aload_n 0, 1) := by decide +kernel
theorem dX14_readStatement_224 : decode cX14_readStatement 224 = .ok (.getfield 128, 3) := by decide +kernel
theorem dX14_readStatement_227 : decode cX14_readStatement 227 = .ok (.invokevirtual 172, 3) := by decide +kernel
theorem dX14_readStatement_230 : decode cX14_readStatement 230 = .ok (.aload_n 0, 1) := by decide +kernel
theorem dX14_readStatement_231 : decode cX14_readStatement 231 = .ok (.aload_n 0, 1) := by decide +kernel
theorem dX14_readStatement_232 : decode cX14_readStatement 232 = .ok (.aload_n 0, 1) := by decide +kernel
theorem dX14_readStatement_233 : decode cX14_readStatement 233 = .ok (.getfield 155, 3) := by decide +kernel
theorem dX14_readStatement_236 : decode cX14_readStatement 236 = .ok (.aload_n 0, 1) := by decide +kernel
theorem dX14_readStatement_237 : decode cX14_readStatement 237 = .ok (.getfield 159, 3) := by decide +kernel
theorem dX14_readStatement_240 : decode cX14_readStatement 240 = .ok (.invokevirtual 286, 3) := by decide +kernel
theorem dX14_readStatement_243 : decode cX14_readStatement 243 = .ok (.iconst (-1), 1) := by decide +kernel
theorem dX14_readStatement_244 : decode cX14_readStatement 244 = .ok (.if_icmp .ne 7, 3) := by decide +kernel
theorem dX14_readStatement_247 : decode cX14_readStatement 247 = .ok (.iconst 1, 1) := by decide +kernel
theorem dX14_readStatement_248 : decode cX14_readStatement 248 = .ok (.goto 4, 3) := by decide +kernel
theorem dX14_readStatement_251 : decode cX14_readStatement 251 = .ok (.iconst 0, 1) := by decide +kernel
theorem dX14_readStatement_252 : decode cX14_readStatement 252 = .ok (.iconst 2, 1) := by decide +kernel
theorem dX14_readStatement_253 : decode cX14_readStatement 253 = .ok (.aload_n 0, 1) := by decide +kernel
theorem dX14_readStatement_254 : decode cX14_readStatement 254 = .ok (.getfield 128, 3) := by decide +kernel
theorem dX14_readStatement_257 : decode cX14_readStatement 257 = .ok (.invokevirtual 172, 3) := by decide +kernel
theorem dX14_readStatement_260 : decode cX14_readStatement 260 = .ok (.aload_n 0, 1) := by decide +kernel
theorem dX14_readStatement_261 : decode cX14_readStatement 261 = .ok (.aload_n 0, 1) := by decide +kernel
theorem dX14_readStatement_262 : decode cX14_readStatement 262 = .ok (.getfield 198, 3) := by decide +kernel
theorem dX14_readStatement_265 : decode cX14_readStatement 265 = .ok (.bipush 8, 2) := by decide +kernel
theorem dX14_readStatement_267 : decode cX14_readStatement 267 = .ok (.if_icmp .ge 7, 3) := by decide +kernel
theorem dX14_readStatement_270 : decode cX14_readStatement 270 = .ok (.iconst 1, 1) := by decide +kernel
theorem dX14_readStatement_271 : decode cX14_readStatement 271 = .ok (.goto 4, 3) := by decide +kernel
theorem dX14_readStatement_274 : decode cX14_readStatement 274 = .ok (.iconst 0, 1) := by decide +kernel
theorem dX14_readStatement_275 : decode cX14_readStatement 275 = .ok (.iconst 4, 1) := by decide +kernel
theorem dX14_readStatement_276 : decode cX14_readStatement 276 = .ok (.aload_n 0, 1) := by decide +kernel
theorem dX14_readStatement_277 : decode cX14_readStatement 277 = .ok (.getfield 128, 3) := by decide +kernel
theorem dX14_readStatement_280 : decode cX14_readStatement 280 = .ok (.invokevirtual 172, 3) := by decide +kernel
theorem dX14_readStatement_283 : decode cX14_readStatement 283 = .ok (.aload_n 0, 1) := by decide +kernel
theorem dX14_readStatement_284 : decode cX14_readStatement 284 = .ok (.getfield 155, 3) := by decide +kernel
theorem dX14_readStatement_287 : decode cX14_readStatement 287 = .ok (.lstore 4, 2) := by decide +kernel
theorem dX14_readStatement_289 : decode cX14_readStatement 289 = .ok (.aload_n 0, 1) := by decide +kernel
theorem dX14_readStatement_290 : decode cX14_readStatement 290 = .ok (.getfield 159, 3) := by decide +kernel
theorem dX14_readStatement_293 : decode cX14_readStatement 293 = .ok (.lstore 6, 2) := by decide +kernel
theorem dX14_readStatement_295 : decode cX14_readStatement 295 = .ok (.aload_n 0, 1) := by decide +kernel
theorem dX14_readStatement_296 : decode cX14_readStatement 296 = .ok (.invokevirtual 185, 3) := by decide +kernel
theorem dX14_readStatement_299 : decode cX14_readStatement 299 = .ok (.aload_n 0, 1) := by decide +kernel
theorem dX14_readStatement_300 : decode cX14_readStatement 300 = .ok (.bipush 61, 2) := by decide +kernel
theorem dX14_readStatement_302 : decode cX14_readStatement 302 = .ok (.invokevirtual 267, 3) := by decide +kernel
theorem dX14_readStatement_305 : decode cX14_readStatement 305 = .ok (.aload_n 0, 1) := by decide +kernel
theorem dX14_readStatement_306 : decode cX14_readStatement 306 = .ok (.getfield 23, 3) := by decide +kernel
theorem dX14_readStatement_309 : decode cX14_readStatement 309 = .ok (.getfield 345, 3) := by decide +kernel
theorem dX14_readStatement_312 : decode cX14_readStatement 312 = .ok (.iload_n 3, 1) := by decide +kernel
theorem dX14_readStatement_313 : decode cX14_readStatement 313 = .ok (.aload_n 0, 1) := by decide +kernel
theorem dX14_readStatement_314 : decode cX14_readStatement 314 = .ok (.invokevirtual 378, 3) := by decide +kernel
theorem dX14_readStatement_317 : decode cX14_readStatement 317 = .ok (.iastore, 1) := by decide +kernel
theorem dX14_readStatement_318 : decode cX14_readStatement 318 = .ok (.aload_n 0, 1) := by decide +kernel
theorem dX14_readStatement_319 : decode cX14_readStatement 319 = .ok (.bipush 59, 2) := by decide +kernel
theorem dX14_readStatement_321 : decode cX14_readStatement 321 = .ok (.invokevirtual 267, 3) := by decide +kernel
theorem dX14_readStatement_324 : decode cX14_readStatement 324 = .ok (.aload_n 0, 1) := by decide +kernel
theorem dX14_readStatement_325 : decode cX14_readStatement 325 = .ok (.getfield 34, 3) := by decide +kernel
theorem dX14_readStatement_328 : decode cX14_readStatement 328 = .ok (.aload_n 0, 1) := by decide +kernel
theorem dX14_readStatement_329 : decode cX14_readStatement 329 = .ok (.getfield 195, 3) := by decide +kernel
theorem dX14_readStatement_332 : decode cX14_readStatement 332 = .ok (.aload_n 0, 1) := by decide +kernel
theorem dX14_readStatement_333 : decode cX14_readStatement 333 = .ok (.getfield 198, 3) := by decide +kernel
theorem dX14_readStatement_336 : decode cX14_readStatement 336 = .ok (.iadd, 1) := by decide +kernel
theorem dX14_readStatement_337 : decode cX14_readStatement 337 = .ok (.lload 4, 2) := by decide +kernel
theorem dX14_readStatement_339 : decode cX14_readStatement 339 = .ok (.lastore, 1) := by decide +kernel
theorem dX14_readStatement_340 : decode cX14_readStatement 340 = .ok (.aload_n 0, 1) := by decide +kernel
theorem dX14_readStatement_341 : decode cX14_readStatement 341 = .ok (.getfield 38, 3) := by decide +kernel
theorem dX14_readStatement_344 : decode cX14_readStatement 344 = .ok (.aload_n 0, 1) := by decide +kernel
theorem dX14_readStatement_345 : decode cX14_readStatement 345 = .ok (.getfield 195, 3) := by decide +kernel
theorem dX14_readStatement_348 : decode cX14_readStatement 348 = .ok (.aload_n 0, 1) := by decide +kernel
theorem dX14_readStatement_349 : decode cX14_readStatement 349 = .ok (.getfield 198, 3) := by decide +kernel
theorem dX14_readStatement_352 : decode cX14_readStatement 352 = .ok (.iadd, 1) := by decide +kernel
theorem dX14_readStatement_353 : decode cX14_readStatement 353 = .ok (.lload 6, 2) := by decide +kernel
theorem dX14_readStatement_355 : decode cX14_readStatement 355 = .ok (.lastore, 1) := by decide +kernel
theorem dX14_readStatement_356 : decode cX14_readStatement 356 = .ok (.aload_n 0, 1) := by decide +kernel
theorem dX14_readStatement_357 : decode cX14_readStatement 357 = .ok (.getfield 23, 3) := by decide +kernel
theorem dX14_readStatement_360 : decode cX14_readStatement 360 = .ok (.getfield 336, 3) := by decide +kernel
theorem dX14_readStatement_363 : decode cX14_readStatement 363 = .ok (.iload_n 3, 1) := by decide +kernel
theorem dX14_readStatement_364 : decode cX14_readStatement 364 = .ok (.aload_n 0, 1) := by decide +kernel
theorem dX14_readStatement_365 : decode cX14_readStatement 365 = .ok (.getfield 198, 3) := by decide +kernel
theorem dX14_readStatement_368 : decode cX14_readStatement 368 = .ok (.iastore, 1) := by decide +kernel
theorem dX14_readStatement_369 : decode cX14_readStatement 369 = .ok (.aload_n 0, 1) := by decide +kernel
theorem dX14_readStatement_370 : decode cX14_readStatement 370 = .ok (.dup, 1) := by decide +kernel
theorem dX14_readStatement_371 : decode cX14_readStatement 371 = .ok (.getfield 198, 3) := by decide +kernel
theorem dX14_readStatement_374 : decode cX14_readStatement 374 = .ok (.iconst 1, 1) := by decide +kernel
theorem dX14_readStatement_375 : decode cX14_readStatement 375 = .ok (.iadd, 1) := by decide +kernel
theorem dX14_readStatement_376 : decode cX14_readStatement 376 = .ok (.putfield 198, 3) := by decide +kernel
theorem dX14_readStatement_379 : decode cX14_readStatement 379 = .ok (.iload_n 3, 1) := by decide +kernel
theorem dX14_readStatement_380 : decode cX14_readStatement 380 = .ok (.ireturn, 1) := by decide +kernel
theorem dX14_readStatement_381 : decode cX14_readStatement 381 = .ok (.aload_n 0, 1) := by decide +kernel
theorem dX14_readStatement_382 : decode cX14_readStatement 382 = .ok (.getfield 23, 3) := by decide +kernel
theorem dX14_readStatement_385 : decode cX14_readStatement 385 = .ok (.getfield 345, 3) := by decide +kernel
theorem dX14_readStatement_388 : decode cX14_readStatement 388 = .ok (.iload_n 3, 1) := by decide +kernel
theorem dX14_readStatement_389 : decode cX14_readStatement 389 = .ok (.aload_n 0, 1) := by decide +kernel
theorem dX14_readStatement_390 : decode cX14_readStatement 390 = .ok (.invokevirtual 378, 3) := by decide +kernel
theorem dX14_readStatement_393 : decode cX14_readStatement 393 = .ok (.iastore, 1) := by decide +kernel
theorem dX14_readStatement_394 : decode cX14_readStatement 394 = .ok (.aload_n 0, 1) := by decide +kernel
theorem dX14_readStatement_395 : decode cX14_readStatement 395 = .ok (.getfield 23, 3) := by decide +kernel
theorem dX14_readStatement_398 : decode cX14_readStatement 398 = .ok (.getfield 348, 3) := by decide +kernel
theorem dX14_readStatement_401 : decode cX14_readStatement 401 = .ok (.iload_n 3, 1) := by decide +kernel
theorem dX14_readStatement_402 : decode cX14_readStatement 402 = .ok (.aload_n 0, 1) := by decide +kernel
theorem dX14_readStatement_403 : decode cX14_readStatement 403 = .ok (.invokevirtual 381, 3) := by decide +kernel
theorem dX14_readStatement_406 : decode cX14_readStatement 406 = .ok (.iastore, 1) := by decide +kernel
theorem dX14_readStatement_407 : decode cX14_readStatement 407 = .ok (.aload_n 0, 1) := by decide +kernel
theorem dX14_readStatement_408 : decode cX14_readStatement 408 = .ok (.bipush 14, 2) := by decide +kernel
theorem dX14_readStatement_410 : decode cX14_readStatement 410 = .ok (.invokevirtual 279, 3) := by decide +kernel
theorem dX14_readStatement_413 : decode cX14_readStatement 413 = .ok (.ifCond .eq 16, 3) := by decide +kernel
theorem dX14_readStatement_416 : decode cX14_readStatement 416 = .ok (.aload_n 0, 1) := by decide +kernel
theorem dX14_readStatement_417 : decode cX14_readStatement 417 = .ok (.getfield 23, 3) := by decide +kernel
theorem dX14_readStatement_420 : decode cX14_readStatement 420 = .ok (.getfield 351, 3) := by decide +kernel
theorem dX14_readStatement_423 : decode cX14_readStatement 423 = .ok (.iload_n 3, 1) := by decide +kernel
theorem dX14_readStatement_424 : decode cX14_readStatement 424 = .ok (.aload_n 0, 1) := by decide +kernel
theorem dX14_readStatement_425 : decode cX14_readStatement 425 = .ok (.invokevirtual 381, 3) := by decide +kernel
theorem dX14_readStatement_428 : decode cX14_readStatement 428 = .ok (.iastore, 1) := by decide +kernel
theorem dX14_readStatement_429 : decode cX14_readStatement 429 = .ok (.iload_n 3, 1) := by decide +kernel
theorem dX14_readStatement_430 : decode cX14_readStatement 430 = .ok (.ireturn, 1) := by decide +kernel
theorem dX14_readStatement_431 : decode cX14_readStatement 431 = .ok (.aload_n 0, 1) := by decide +kernel
theorem dX14_readStatement_432 : decode cX14_readStatement 432 = .ok (.getfield 23, 3) := by decide +kernel
theorem dX14_readStatement_435 : decode cX14_readStatement 435 = .ok (.getfield 345, 3) := by decide +kernel
theorem dX14_readStatement_438 : decode cX14_readStatement 438 = .ok (.iload_n 3, 1) := by decide +kernel
theorem dX14_readStatement_439 : decode cX14_readStatement 439 = .ok (.aload_n 0, 1) := by decide +kernel
theorem dX14_readStatement_440 : decode cX14_readStatement 440 = .ok (.invokevirtual 378, 3) := by decide +kernel
theorem dX14_readStatement_443 : decode cX14_readStatement 443 = .ok (.iastore, 1) := by decide +kernel
theorem dX14_readStatement_444 : decode cX14_readStatement 444 = .ok (.aload_n 0, 1) := by decide +kernel
theorem dX14_readStatement_445 : decode cX14_readStatement 445 = .ok (.getfield 23, 3) := by decide +kernel
theorem dX14_readStatement_448 : decode cX14_readStatement 448 = .ok (.getfield 348, 3) := by decide +kernel
theorem dX14_readStatement_451 : decode cX14_readStatement 451 = .ok (.iload_n 3, 1) := by decide +kernel
theorem dX14_readStatement_452 : decode cX14_readStatement 452 = .ok (.aload_n 0, 1) := by decide +kernel
theorem dX14_readStatement_453 : decode cX14_readStatement 453 = .ok (.invokevirtual 381, 3) := by decide +kernel
theorem dX14_readStatement_456 : decode cX14_readStatement 456 = .ok (.iastore, 1) := by decide +kernel
theorem dX14_readStatement_457 : decode cX14_readStatement 457 = .ok (.iload_n 3, 1) := by decide +kernel
theorem dX14_readStatement_458 : decode cX14_readStatement 458 = .ok (.ireturn, 1) := by decide +kernel
theorem dX14_readStatement_459 : decode cX14_readStatement 459 = .ok (.aload_n 0, 1) := by decide +kernel
theorem dX14_readStatement_460 : decode cX14_readStatement 460 = .ok (.getfield 23, 3) := by decide +kernel
theorem dX14_readStatement_463 : decode cX14_readStatement 463 = .ok (.getfield 345, 3) := by decide +kernel
theorem dX14_readStatement_466 : decode cX14_readStatement 466 = .ok (.iload_n 3, 1) := by decide +kernel
theorem dX14_readStatement_467 : decode cX14_readStatement 467 = .ok (.aload_n 0, 1) := by decide +kernel
theorem dX14_readStatement_468 : decode cX14_readStatement 468 = .ok (.invokevirtual 378, 3) := by decide +kernel
theorem dX14_readStatement_471 : decode cX14_readStatement 471 = .ok (.iastore, 1) := by decide +kernel
theorem dX14_readStatement_472 : decode cX14_readStatement 472 = .ok (.aload_n 0, 1) := by decide +kernel
theorem dX14_readStatement_473 : decode cX14_readStatement 473 = .ok (.bipush 59, 2) := by decide +kernel
theorem dX14_readStatement_475 : decode cX14_readStatement 475 = .ok (.invokevirtual 267, 3) := by decide +kernel
theorem dX14_readStatement_478 : decode cX14_readStatement 478 = .ok (.iload_n 3, 1) := by decide +kernel
theorem dX14_readStatement_479 : decode cX14_readStatement 479 = .ok (.ireturn, 1) := by decide +kernel
theorem dX14_readStatement_480 : decode cX14_readStatement 480 = .ok (.aload_n 0, 1) := by decide +kernel
theorem dX14_readStatement_481 : decode cX14_readStatement 481 = .ok (.aload_n 0, 1) := by decide +kernel
theorem dX14_readStatement_482 : decode cX14_readStatement 482 = .ok (.getfield 131, 3) := by decide +kernel
theorem dX14_readStatement_485 : decode cX14_readStatement 485 = .ok (.iconst 1, 1) := by decide +kernel
theorem dX14_readStatement_486 : decode cX14_readStatement 486 = .ok (.if_icmp .ne 7, 3) := by decide +kernel
theorem dX14_readStatement_489 : decode cX14_readStatement 489 = .ok (.iconst 1, 1) := by decide +kernel
theorem dX14_readStatement_490 : decode cX14_readStatement 490 = .ok (.goto 4, 3) := by decide +kernel
theorem dX14_readStatement_493 : decode cX14_readStatement 493 = .ok (.iconst 0, 1) := by decide +kernel
theorem dX14_readStatement_494 : decode cX14_readStatement 494 = .ok (.iconst 1, 1) := by decide +kernel
theorem dX14_readStatement_495 : decode cX14_readStatement 495 = .ok (.aload_n 0, 1) := by decide +kernel
theorem dX14_readStatement_496 : decode cX14_readStatement 496 = .ok (.getfield 128, 3) := by decide +kernel
theorem dX14_readStatement_499 : decode cX14_readStatement 499 = .ok (.invokevirtual 172, 3) := by decide +kernel
theorem dX14_readStatement_502 : decode cX14_readStatement 502 = .ok (.aload_n 0, 1) := by decide +kernel
theorem dX14_readStatement_503 : decode cX14_readStatement 503 = .ok (.getfield 23, 3) := by decide +kernel
theorem dX14_readStatement_506 : decode cX14_readStatement 506 = .ok (.getfield 384, 3) := by decide +kernel
theorem dX14_readStatement_509 : decode cX14_readStatement 509 = .ok (.iload_n 3, 1) := by decide +kernel
theorem dX14_readStatement_510 : decode cX14_readStatement 510 = .ok (.aload_n 0, 1) := by decide +kernel
theorem dX14_readStatement_511 : decode cX14_readStatement 511 = .ok (.getfield 155, 3) := by decide +kernel
theorem dX14_readStatement_514 : decode cX14_readStatement 514 = .ok (.lastore, 1) := by decide +kernel
theorem dX14_readStatement_515 : decode cX14_readStatement 515 = .ok (.aload_n 0, 1) := by decide +kernel
theorem dX14_readStatement_516 : decode cX14_readStatement 516 = .ok (.getfield 23, 3) := by decide +kernel
theorem dX14_readStatement_519 : decode cX14_readStatement 519 = .ok (.getfield 387, 3) := by decide +kernel
theorem dX14_readStatement_522 : decode cX14_readStatement 522 = .ok (.iload_n 3, 1) := by decide +kernel
theorem dX14_readStatement_523 : decode cX14_readStatement 523 = .ok (.aload_n 0, 1) := by decide +kernel
theorem dX14_readStatement_524 : decode cX14_readStatement 524 = .ok (.getfield 159, 3) := by decide +kernel
theorem dX14_readStatement_527 : decode cX14_readStatement 527 = .ok (.lastore, 1) := by decide +kernel
theorem dX14_readStatement_528 : decode cX14_readStatement 528 = .ok (.aload_n 0, 1) := by decide +kernel
theorem dX14_readStatement_529 : decode cX14_readStatement 529 = .ok (.invokevirtual 185, 3) := by decide +kernel
theorem dX14_readStatement_532 : decode cX14_readStatement 532 = .ok (.aload_n 0, 1) := by decide +kernel
theorem dX14_readStatement_533 : decode cX14_readStatement 533 = .ok (.bipush 59, 2) := by decide +kernel
theorem dX14_readStatement_535 : decode cX14_readStatement 535 = .ok (.invokevirtual 267, 3) := by decide +kernel
theorem dX14_readStatement_538 : decode cX14_readStatement 538 = .ok (.iload_n 3, 1) := by decide +kernel
theorem dX14_readStatement_539 : decode cX14_readStatement 539 = .ok (.ireturn, 1) := by decide +kernel
