theorem dX14_invoke_0 : decode cX14_invoke 0 = .ok (.aload_n 0, 1) := by decide +kernel
theorem dX14_invoke_1 : decode cX14_invoke 1 = .ok (.getfield 567, 3) := by decide +kernel
theorem dX14_invoke_4 : decode cX14_invoke 4 = .ok (.bipush 20, 2) := by decide +kernel
theorem dX14_invoke_6 : decode cX14_invoke 6 = .ok (.if_icmp .ne 8, 3) := by decide +kernel
theorem dX14_invoke_9 : decode cX14_invoke 9 = .ok (.aload_n 0, 1) := by decide +kernel
theorem dX14_invoke_10 : decode cX14_invoke 10 = .ok (.iconst 2, 1) := by decide +kernel
theorem dX14_invoke_11 : decode cX14_invoke 11 = .ok (.invokevirtual 562, 3) := by decide +kernel
theorem dX14_invoke_14 : decode cX14_invoke 14 = .ok (.aload_n 0, 1) := by decide +kernel
theorem dX14_invoke_15 : decode cX14_invoke 15 = .ok (.dup, 1) := by decide +kernel
theorem dX14_invoke_16 : decode cX14_invoke 16 = .ok (.getfield 567, 3) := by decide +kernel
theorem dX14_invoke_19 : decode cX14_invoke 19 = .ok (.iconst 1, 1) := by decide +kernel
theorem dX14_invoke_20 : decode cX14_invoke 20 = .ok (.iadd, 1) := by decide +kernel
theorem dX14_invoke_21 : decode cX14_invoke 21 = .ok (.putfield 567, 3) := by decide +kernel
theorem dX14_invoke_24 : decode cX14_invoke 24 = .ok (.aload_n 0, 1) := by decide +kernel
theorem dX14_invoke_25 : decode cX14_invoke 25 = .ok (.getfield 57, 3) := by decide +kernel
theorem dX14_invoke_28 : decode cX14_invoke 28 = .ok (.aload_n 0, 1) := by decide +kernel
theorem dX14_invoke_29 : decode cX14_invoke 29 = .ok (.getfield 567, 3) := by decide +kernel
theorem dX14_invoke_32 : decode cX14_invoke 32 = .ok (.iload_n 2, 1) := by decide +kernel
theorem dX14_invoke_33 : decode cX14_invoke 33 = .ok (.iastore, 1) := by decide +kernel
theorem dX14_invoke_34 : decode cX14_invoke 34 = .ok (.aload_n 0, 1) := by decide +kernel
theorem dX14_invoke_35 : decode cX14_invoke 35 = .ok (.iconst 0, 1) := by decide +kernel
theorem dX14_invoke_36 : decode cX14_invoke 36 = .ok (.putfield 570, 3) := by decide +kernel
theorem dX14_invoke_39 : decode cX14_invoke 39 = .ok (.aload_n 0, 1) := by decide +kernel
theorem dX14_invoke_40 : decode cX14_invoke 40 = .ok (.getfield 60, 3) := by decide +kernel
theorem dX14_invoke_43 : decode cX14_invoke 43 = .ok (.aload_n 0, 1) := by decide +kernel
theorem dX14_invoke_44 : decode cX14_invoke 44 = .ok (.getfield 567, 3) := by decide +kernel
theorem dX14_invoke_47 : decode cX14_invoke 47 = .ok (.iconst 0, 1) := by decide +kernel
theorem dX14_invoke_48 : decode cX14_invoke 48 = .ok (.iastore, 1) := by decide +kernel
theorem dX14_invoke_49 : decode cX14_invoke 49 = .ok (.aload_n 0, 1) := by decide +kernel
theorem dX14_invoke_50 : decode cX14_invoke 50 = .ok (.aload_n 0, 1) := by decide +kernel
theorem dX14_invoke_51 : decode cX14_invoke 51 = .ok (.getfield 19, 3) := by decide +kernel
theorem dX14_invoke_54 : decode cX14_invoke 54 = .ok (.getfield 468, 3) := by decide +kernel
theorem dX14_invoke_57 : decode cX14_invoke 57 = .ok (.iload_n 1, 1) := by decide +kernel
theorem dX14_invoke_58 : decode cX14_invoke 58 = .ok (.iaload, 1) := by decide +kernel
theorem dX14_invoke_59 : decode cX14_invoke 59 = .ok (.invokevirtual 573, 3) := by decide +kernel
theorem dX14_invoke_62 : decode cX14_invoke 62 = .ok (.aload_n 0, 1) := by decide +kernel
theorem dX14_invoke_63 : decode cX14_invoke 63 = .ok (.getfield 60, 3) := by decide +kernel
theorem dX14_invoke_66 : decode cX14_invoke 66 = .ok (.aload_n 0, 1) := by decide +kernel
theorem dX14_invoke_67 : decode cX14_invoke 67 = .ok (.getfield 567, 3) := by decide +kernel
theorem dX14_invoke_70 : decode cX14_invoke 70 = .ok (.iaload, 1) := by decide +kernel
theorem dX14_invoke_71 : decode cX14_invoke 71 = .ok (.istore_n 3, 1) := by decide +kernel
theorem dX14_invoke_72 : decode cX14_invoke 72 = .ok (.aload_n 0, 1) := by decide +kernel
theorem dX14_invoke_73 : decode cX14_invoke 73 = .ok (.dup, 1) := by decide +kernel
theorem dX14_invoke_74 : decode cX14_invoke 74 = .ok (.getfield 567, 3) := by decide +kernel
theorem dX14_invoke_77 : decode cX14_invoke 77 = .ok (.iconst 1, 1) := by decide +kernel
theorem dX14_invoke_78 : decode cX14_invoke 78 = .ok (.isub, 1) := by decide +kernel
theorem dX14_invoke_79 : decode cX14_invoke 79 = .ok (.putfield 567, 3) := by decide +kernel
theorem dX14_invoke_82 : decode cX14_invoke 82 = .ok (.aload_n 0, 1) := by decide +kernel
theorem dX14_invoke_83 : decode cX14_invoke 83 = .ok (.iconst 0, 1) := by decide +kernel
theorem dX14_invoke_84 : decode cX14_invoke 84 = .ok (.putfield 570, 3) := by decide +kernel
theorem dX14_invoke_87 : decode cX14_invoke 87 = .ok (.iload_n 3, 1) := by decide +kernel
theorem dX14_invoke_88 : decode cX14_invoke 88 = .ok (.ireturn, 1) := by decide +kernel
theorem dX14_runBlock_0 : decode cX14_runBlock 0 = .ok (.iload_n 1, 1) := by decide +kernel
theorem dX14_runBlock_1 : decode cX14_runBlock 1 = .ok (.istore_n 2, 1) := by decide +kernel
theorem dX14_runBlock_2 : decode cX14_runBlock 2 = .ok (.iload_n 2, 1) := by decide +kernel
theorem dX14_runBlock_3 : decode cX14_runBlock 3 = .ok (.iconst (-1), 1) := by decide +kernel
theorem dX14_runBlock_4 : decode cX14_runBlock 4 = .ok (.if_icmp .eq 28, 3) := by decide +kernel
theorem dX14_runBlock_7 : decode cX14_runBlock 7 = .ok (.aload_n 0, 1) := by decide +kernel
theorem dX14_runBlock_8 : decode cX14_runBlock 8 = .ok (.getfield 570, 3) := by decide +kernel
theorem dX14_runBlock_11 : decode cX14_runBlock 11 = .ok (.ifCond .ne 21, 3) := by decide +kernel
theorem dX14_runBlock_14 : decode cX14_runBlock 14 = .ok (.aload_n 0, 1) := by decide +kernel
theorem dX14_runBlock_15 : decode cX14_runBlock 15 = .ok (.iload_n 2, 1) := by decide +kernel
theorem dX14_runBlock_16 : decode cX14_runBlock 16 = .ok (.invokevirtual 576, 3) := by decide +kernel
theorem dX14_runBlock_19 : decode cX14_runBlock 19 = .ok (.aload_n 0, 1) := by decide +kernel
theorem dX14_runBlock_20 : decode cX14_runBlock 20 = .ok (.getfield 19, 3) := by decide +kernel
theorem dX14_runBlock_23 : decode cX14_runBlock 23 = .ok (.getfield 354, 3) := by decide +kernel
theorem dX14_runBlock_26 : decode cX14_runBlock 26 = .ok (.iload_n 2, 1) := by decide +kernel
theorem dX14_runBlock_27 : decode cX14_runBlock 27 = .ok (.iaload, 1) := by decide +kernel
theorem dX14_runBlock_28 : decode cX14_runBlock 28 = .ok (.istore_n 2, 1) := by decide +kernel
theorem dX14_runBlock_29 : decode cX14_runBlock 29 = .ok (.goto (-27), 3) := by decide +kernel
theorem dX14_runBlock_32 : decode cX14_runBlock 32 = .ok (.return_, 1) := by decide +kernel
theorem dX14_runStatement_0 : decode cX14_runStatement 0 = .ok (.aload_n 0, 1) := by decide +kernel
theorem dX14_runStatement_1 : decode cX14_runStatement 1 = .ok (.invokevirtual 579, 3) := by decide +kernel
theorem dX14_runStatement_4 : decode cX14_runStatement 4 = .ok (.aload_n 0, 1) := by decide +kernel
theorem dX14_runStatement_5 : decode cX14_runStatement 5 = .ok (.getfield 19, 3) := by decide +kernel
theorem dX14_runStatement_8 : decode cX14_runStatement 8 = .ok (.getfield 360, 3) := by decide +kernel
theorem dX14_runStatement_11 : decode cX14_runStatement 11 = .ok (.iload_n 1, 1) := by decide +kernel
theorem dX14_runStatement_12 : decode cX14_runStatement 12 = .ok (.iconst 1, 1) := by decide +kernel
theorem dX14_runStatement_13 : decode cX14_runStatement 13 = .ok (.bastore, 1) := by decide +kernel
theorem dX14_runStatement_14 : decode cX14_runStatement 14 = .ok (.aload_n 0, 1) := by decide +kernel
theorem dX14_runStatement_15 : decode cX14_runStatement 15 = .ok (.getfield 19, 3) := by decide +kernel
theorem dX14_runStatement_18 : decode cX14_runStatement 18 = .ok (.getfield 333, 3) := by decide +kernel
theorem dX14_runStatement_21 : decode cX14_runStatement 21 = .ok (.iload_n 1, 1) := by decide +kernel
theorem dX14_runStatement_22 : decode cX14_runStatement 22 = .ok (.iaload, 1) := by decide +kernel
theorem dX14_runStatement_23 : decode cX14_runStatement 23 = .ok (.tableswitch 238 1 6 #[37, 75, 83, 127, 181, 213], 37) := by decide +kernel
theorem dX14_runStatement_60 : decode cX14_runStatement 60 = .ok (.aload_n 0, 1) := by decide +kernel
theorem dX14_runStatement_61 : decode cX14_runStatement 61 = .ok (.getfield 54, 3) := by decide +kernel
theorem dX14_runStatement_64 : decode cX14_runStatement 64 = .ok (.bipush 8, 2) := by decide +kernel
theorem dX14_runStatement_66 : decode cX14_runStatement 66 = .ok (.aload_n 0, 1) := by decide +kernel
theorem dX14_runStatement_67 : decode cX14_runStatement 67 = .ok (.getfield 567, 3) := by decide +kernel
theorem dX14_runStatement_70 : decode cX14_runStatement 70 = .ok (.imul, 1) := by decide +kernel
theorem dX14_runStatement_71 : decode cX14_runStatement 71 = .ok (.aload_n 0, 1) := by decide +kernel
theorem dX14_runStatement_72 : decode cX14_runStatement 72 = .ok (.getfield 19, 3) := by decide +kernel
theorem dX14_runStatement_75 : decode cX14_runStatement 75 = .ok (.getfield 336, 3) := by decide +kernel
theorem dX14_runStatement_78 : decode cX14_runStatement 78 = .ok (.iload_n 1, 1) := by decide +kernel
theorem dX14_runStatement_79 : decode cX14_runStatement 79 = .ok (.iaload, 1) := by decide +kernel
theorem dX14_runStatement_80 : decode cX14_runStatement 80 = .ok (.iadd, 1) := by decide +kernel
theorem dX14_runStatement_81 : decode cX14_runStatement 81 = .ok (.aload_n 0, 1) := by decide +kernel
theorem dX14_runStatement_82 : decode cX14_runStatement 82 = .ok (.aload_n 0, 1) := by decide +kernel
theorem dX14_runStatement_83 : decode cX14_runStatement 83 = .ok (.getfield 19, 3) := by decide +kernel
theorem dX14_runStatement_86 : decode cX14_runStatement 86 = .ok (.getfield 345, 3) := by decide +kernel
theorem dX14_runStatement_89 : decode cX14_runStatement 89 = .ok (.iload_n 1, 1) := by decide +kernel
theorem dX14_runStatement_90 : decode cX14_runStatement 90 = .ok (.iaload, 1) := by decide +kernel
theorem dX14_runStatement_91 : decode cX14_runStatement 91 = .ok (.invokevirtual 582, 3) := by decide +kernel
theorem dX14_runStatement_94 : decode cX14_runStatement 94 = .ok (.iastore, 1) := by decide +kernel
theorem dX14_runStatement_95 : decode cX14_runStatement 95 = .ok (.goto 181, 3) := by decide +kernel
theorem dX14_runStatement_98 : decode cX14_runStatement 98 = .ok (.aload_n 0, 1) := by decide +kernel
theorem dX14_runStatement_99 : decode cX14_runStatement 99 = .ok (.iload_n 1, 1) := by decide +kernel
theorem dX14_runStatement_100 : decode cX14_runStatement 100 = .ok (.invokevirtual 585, 3) := by decide +kernel
theorem dX14_runStatement_103 : decode cX14_runStatement 103 = .ok (.goto 173, 3) := by decide +kernel
theorem dX14_runStatement_106 : decode cX14_runStatement 106 = .ok (.aload_n 0, 1) := by decide +kernel
theorem dX14_runStatement_107 : decode cX14_runStatement 107 = .ok (.aload_n 0, 1) := by decide +kernel
theorem dX14_runStatement_108 : decode cX14_runStatement 108 = .ok (.aload_n 0, 1) := by decide +kernel
theorem dX14_runStatement_109 : decode cX14_runStatement 109 = .ok (.getfield 19, 3) := by decide +kernel
theorem dX14_runStatement_112 : decode cX14_runStatement 112 = .ok (.getfield 345, 3) := by decide +kernel
theorem dX14_runStatement_115 : decode cX14_runStatement 115 = .ok (.iload_n 1, 1) := by decide +kernel
theorem dX14_runStatement_116 : decode cX14_runStatement 116 = .ok (.iaload, 1) := by decide +kernel
theorem dX14_runStatement_117 : decode cX14_runStatement 117 = .ok (.invokevirtual 582, 3) := by decide +kernel
theorem dX14_runStatement_120 : decode cX14_runStatement 120 = .ok (.ifCond .eq 15, 3) := by decide +kernel
theorem dX14_runStatement_123 : decode cX14_runStatement 123 = .ok (.aload_n 0, 1) := by decide +kernel
theorem dX14_runStatement_124 : decode cX14_runStatement 124 = .ok (.getfield 19, 3) := by decide +kernel
theorem dX14_runStatement_127 : decode cX14_runStatement 127 = .ok (.getfield 348, 3) := by decide +kernel
theorem dX14_runStatement_130 : decode cX14_runStatement 130 = .ok (.iload_n 1, 1) := by decide +kernel
theorem dX14_runStatement_131 : decode cX14_runStatement 131 = .ok (.iaload, 1) := by decide +kernel
theorem dX14_runStatement_132 : decode cX14_runStatement 132 = .ok (.goto 12, 3) := by decide +kernel
theorem dX14_runStatement_135 : decode cX14_runStatement 135 = .ok (.aload_n 0, 1) := by decide +kernel
theorem dX14_runStatement_136 : decode cX14_runStatement 136 = .ok (.getfield 19, 3) := by decide +kernel
theorem dX14_runStatement_139 : decode cX14_runStatement 139 = .ok (.getfield 351, 3) := by decide +kernel
theorem dX14_runStatement_142 : decode cX14_runStatement 142 = .ok (.iload_n 1, 1) := by decide +kernel
theorem dX14_runStatement_143 : decode cX14_runStatement 143 = .ok (.iaload, 1) := by decide +kernel
theorem dX14_runStatement_144 : decode cX14_runStatement 144 = .ok (.invokevirtual 573, 3) := by decide +kernel
theorem dX14_runStatement_147 : decode cX14_runStatement 147 = .ok (.goto 129, 3) := by decide +kernel
theorem dX14_runStatement_150 : decode cX14_runStatement 150 = .ok (.aload_n 0, 1) := by decide +kernel
theorem dX14_runStatement_151 : decode cX14_runStatement 151 = .ok (.invokevirtual 579, 3) := by decide +kernel
theorem dX14_runStatement_154 : decode cX14_runStatement 154 = .ok (.aload_n 0, 1) := by decide +kernel
theorem dX14_runStatement_155 : decode cX14_runStatement 155 = .ok (.getfield 570, 3) := by decide +kernel
theorem dX14_runStatement_158 : decode cX14_runStatement 158 = .ok (.ifCond .ne 118, 3) := by decide +kernel
theorem dX14_runStatement_161 : decode cX14_runStatement 161 = .ok (.aload_n 0, 1) := by decide +kernel
theorem dX14_runStatement_162 : decode cX14_runStatement 162 = .ok (.aload_n 0, 1) := by decide +kernel
theorem dX14_runStatement_163 : decode cX14_runStatement 163 = .ok (.getfield 19, 3) := by decide +kernel
theorem dX14_runStatement_166 : decode cX14_runStatement 166 = .ok (.getfield 345, 3) := by decide +kernel
theorem dX14_runStatement_169 : decode cX14_runStatement 169 = .ok (.iload_n 1, 1) := by decide +kernel
theorem dX14_runStatement_170 : decode cX14_runStatement 170 = .ok (.iaload, 1) := by decide +kernel
theorem dX14_runStatement_171 : decode cX14_runStatement 171 = .ok (.invokevirtual 582, 3) := by decide +kernel
theorem dX14_runStatement_174 : decode cX14_runStatement 174 = .ok (.ifCond .eq 102, 3) := by decide +kernel
theorem dX14_runStatement_177 : decode cX14_runStatement 177 = .ok (.aload_n 0, 1) := by decide +kernel
theorem dX14_runStatement_178 : decode cX14_runStatement 178 = .ok (.aload_n 0, 1) := by decide +kernel
theorem dX14_runStatement_179 : decode cX14_runStatement 179 = .ok (.getfield 19, 3) := by decide +kernel
theorem dX14_runStatement_182 : decode cX14_runStatement 182 = .ok (.getfield 348, 3) := by decide +kernel
theorem dX14_runStatement_185 : decode cX14_runStatement 185 = .ok (.iload_n 1, 1) := by decide +kernel
theorem dX14_runStatement_186 : decode cX14_runStatement 186 = .ok (.iaload, 1) := by decide +kernel
theorem dX14_runStatement_187 : decode cX14_runStatement 187 = .ok (.invokevirtual 573, 3) := by decide +kernel
theorem dX14_runStatement_190 : decode cX14_runStatement 190 = .ok (.aload_n 0, 1) := by decide +kernel
theorem dX14_runStatement_191 : decode cX14_runStatement 191 = .ok (.getfield 570, 3) := by decide +kernel
theorem dX14_runStatement_194 : decode cX14_runStatement 194 = .ok (.ifCond .ne (-40), 3) := by decide +kernel
theorem dX14_runStatement_197 : decode cX14_runStatement 197 = .ok (.aload_n 0, 1) := by decide +kernel
theorem dX14_runStatement_198 : decode cX14_runStatement 198 = .ok (.invokevirtual 579, 3) := by decide +kernel
theorem dX14_runStatement_201 : decode cX14_runStatement 201 = .ok (.goto (-47), 3) := by decide +kernel
theorem dX14_runStatement_204 : decode cX14_runStatement 204 = .ok (.aload_n 0, 1) := by decide +kernel
theorem dX14_runStatement_205 : decode cX14_runStatement 205 = .ok (.aload_n 0, 1) := by decide +kernel
theorem dX14_runStatement_206 : decode cX14_runStatement 206 = .ok (.getfield 19, 3) := by decide +kernel
theorem dX14_runStatement_209 : decode cX14_runStatement 209 = .ok (.getfield 345, 3) := by decide +kernel
theorem dX14_runStatement_212 : decode cX14_runStatement 212 = .ok (.iload_n 1, 1) := by decide +kernel
theorem dX14_runStatement_213 : decode cX14_runStatement 213 = .ok (.iaload, 1) := by decide +kernel
theorem dX14_runStatement_214 : decode cX14_runStatement 214 = .ok (.invokevirtual 582, 3) := by decide +kernel
theorem dX14_runStatement_217 : decode cX14_runStatement 217 = .ok (.istore_n 2, 1) := by decide +kernel
theorem dX14_runStatement_218 : decode cX14_runStatement 218 = .ok (.aload_n 0, 1) := by decide +kernel
theorem dX14_runStatement_219 : decode cX14_runStatement 219 = .ok (.getfield 60, 3) := by decide +kernel
theorem dX14_runStatement_222 : decode cX14_runStatement 222 = .ok (.aload_n 0, 1) := by decide +kernel
theorem dX14_runStatement_223 : decode cX14_runStatement 223 = .ok (.getfield 567, 3) := by decide +kernel
theorem dX14_runStatement_226 : decode cX14_runStatement 226 = .ok (.iload_n 2, 1) := by decide +kernel
theorem dX14_runStatement_227 : decode cX14_runStatement 227 = .ok (.iastore, 1) := by decide +kernel
theorem dX14_runStatement_228 : decode cX14_runStatement 228 = .ok (.aload_n 0, 1) := by decide +kernel
theorem dX14_runStatement_229 : decode cX14_runStatement 229 = .ok (.iconst 1, 1) := by decide +kernel
theorem dX14_runStatement_230 : decode cX14_runStatement 230 = .ok (.putfield 570, 3) := by decide +kernel
theorem dX14_runStatement_233 : decode cX14_runStatement 233 = .ok (.goto 43, 3) := by decide +kernel
theorem dX14_runStatement_236 : decode cX14_runStatement 236 = .ok (.aload_n 0, 1) := by decide +kernel
theorem dX14_runStatement_237 : decode cX14_runStatement 237 = .ok (.aload_n 0, 1) := by decide +kernel
theorem dX14_runStatement_238 : decode cX14_runStatement 238 = .ok (.getfield 19, 3) := by decide +kernel
theorem dX14_runStatement_241 : decode cX14_runStatement 241 = .ok (.getfield 384, 3) := by decide +kernel
theorem dX14_runStatement_244 : decode cX14_runStatement 244 = .ok (.iload_n 1, 1) := by decide +kernel
theorem dX14_runStatement_245 : decode cX14_runStatement 245 = .ok (.laload, 1) := by decide +kernel
theorem dX14_runStatement_246 : decode cX14_runStatement 246 = .ok (.aload_n 0, 1) := by decide +kernel
theorem dX14_runStatement_247 : decode cX14_runStatement 247 = .ok (.getfield 19, 3) := by decide +kernel
theorem dX14_runStatement_250 : decode cX14_runStatement 250 = .ok (.getfield 387, 3) := by decide +kernel
theorem dX14_runStatement_253 : decode cX14_runStatement 253 = .ok (.iload_n 1, 1) := by decide +kernel
theorem dX14_runStatement_254 : decode cX14_runStatement 254 = .ok (.laload, 1) := by decide +kernel
theorem dX14_runStatement_255 : decode cX14_runStatement 255 = .ok (.invokevirtual 588, 3) := by decide +kernel
theorem dX14_runStatement_258 : decode cX14_runStatement 258 = .ok (.goto 18, 3) := by decide +kernel
theorem dX14_runStatement_261 : decode cX14_runStatement 261 = .ok (.aload_n 0, 1) := by decide +kernel
theorem dX14_runStatement_262 : decode cX14_runStatement 262 = .ok (.aload_n 0, 1) := by decide +kernel
theorem dX14_runStatement_263 : decode cX14_runStatement 263 = .ok (.getfield 19, 3) := by decide +kernel
theorem dX14_runStatement_266 : decode cX14_runStatement 266 = .ok (.getfield 339, 3) := by decide +kernel
theorem dX14_runStatement_269 : decode cX14_runStatement 269 = .ok (.iload_n 1, 1) := by decide +kernel
theorem dX14_runStatement_270 : decode cX14_runStatement 270 = .ok (.iaload, 1) := by decide +kernel
theorem dX14_runStatement_271 : decode cX14_runStatement 271 = .ok (.iconst 0, 1) := by decide +kernel
theorem dX14_runStatement_272 : decode cX14_runStatement 272 = .ok (.invokevirtual 592, 3) := by decide +kernel
theorem dX14_runStatement_275 : decode cX14_runStatement 275 = .ok (.istore_n 2, 1) := by decide +kernel
theorem dX14_runStatement_276 : decode cX14_runStatement 276 = .ok (.return_, 1) := by decide +kernel
theorem dX14_assign_0 : decode cX14_assign 0 = .ok (.aload_n 0, 1) := by decide +kernel
theorem dX14_assign_1 : decode cX14_assign 1 = .ok (.getfield 19, 3) := by decide +kernel
theorem dX14_assign_4 : decode cX14_assign 4 = .ok (.getfield 336, 3) := by decide +kernel
theorem dX14_assign_7 : decode cX14_assign 7 = .ok (.iload_n 1, 1) := by decide +kernel
theorem dX14_assign_8 : decode cX14_assign 8 = .ok (.iaload, 1) := by decide +kernel
theorem dX14_assign_9 : decode cX14_assign 9 = .ok (.istore_n 2, 1) := by decide +kernel
theorem dX14_assign_10 : decode cX14_assign 10 = .ok (.aload_n 0, 1) := by decide +kernel
theorem dX14_assign_11 : decode cX14_assign 11 = .ok (.getfield 19, 3) := by decide +kernel
theorem dX14_assign_14 : decode cX14_assign 14 = .ok (.getfield 342, 3) := by decide +kernel
theorem dX14_assign_17 : decode cX14_assign 17 = .ok (.iload_n 1, 1) := by decide +kernel
theorem dX14_assign_18 : decode cX14_assign 18 = .ok (.iaload, 1) := by decide +kernel
theorem dX14_assign_19 : decode cX14_assign 19 = .ok (.iconst (-1), 1) := by decide +kernel
theorem dX14_assign_20 : decode cX14_assign 20 = .ok (.if_icmp .ne 7, 3) := by decide +kernel
theorem dX14_assign_23 : decode cX14_assign 23 = .ok (.iconst 0, 1) := by decide +kernel
theorem dX14_assign_24 : decode cX14_assign 24 = .ok (.goto 16, 3) := by decide +kernel
theorem dX14_assign_27 : decode cX14_assign 27 = .ok (.aload_n 0, 1) := by decide +kernel
theorem dX14_assign_28 : decode cX14_assign 28 = .ok (.aload_n 0, 1) := by decide +kernel
theorem dX14_assign_29 : decode cX14_assign 29 = .ok (.getfield 19, 3) := by decide +kernel
theorem dX14_assign_32 : decode cX14_assign 32 = .ok (.getfield 342, 3) := by decide +kernel
theorem dX14_assign_35 : decode cX14_assign 35 = .ok (.iload_n 1, 1) := by decide +kernel
theorem dX14_assign_36 : decode cX14_assign 36 = .ok (.iaload, 1) := by decide +kernel
theorem dX14_assign_37 : decode cX14_assign 37 = .ok (.invokevirtual 582, 3) := by decide +kernel
theorem dX14_assign_40 : decode cX14_assign 40 = .ok (.istore_n 3, 1) := by decide +kernel
theorem dX14_assign_41 : decode cX14_assign 41 = .ok (.iload_n 2, 1) := by decide +kernel
theorem dX14_assign_42 : decode cX14_assign 42 = .ok (.sipush 1000, 3) := by decide +kernel
theorem dX14_assign_45 : decode cX14_assign 45 = .ok (.idiv, 1) := by decide +kernel
theorem dX14_assign_46 : decode cX14_assign 46 = .ok (.istore 4, 2) := by decide +kernel
theorem dX14_assign_48 : decode cX14_assign 48 = .ok (.aload_n 0, 1) := by decide +kernel
theorem dX14_assign_49 : decode cX14_assign 49 = .ok (.invokevirtual 596, 3) := by decide +kernel
theorem dX14_assign_52 : decode cX14_assign 52 = .ok (.istore 5, 2) := by decide +kernel
theorem dX14_assign_54 : decode cX14_assign 54 = .ok (.iload 4, 2) := by decide +kernel
theorem dX14_assign_56 : decode cX14_assign 56 = .ok (.ifCond .ne 51, 3) := by decide +kernel
theorem dX14_assign_59 : decode cX14_assign 59 = .ok (.aload_n 0, 1) := by decide +kernel
theorem dX14_assign_60 : decode cX14_assign 60 = .ok (.getfield 19, 3) := by decide +kernel
theorem dX14_assign_63 : decode cX14_assign 63 = .ok (.getfield 342, 3) := by decide +kernel
theorem dX14_assign_66 : decode cX14_assign 66 = .ok (.iload_n 1, 1) := by decide +kernel
theorem dX14_assign_67 : decode cX14_assign 67 = .ok (.iaload, 1) := by decide +kernel
theorem dX14_assign_68 : decode cX14_assign 68 = .ok (.iconst (-1), 1) := by decide +kernel
theorem dX14_assign_69 : decode cX14_assign 69 = .ok (.if_icmp .eq 38, 3) := by decide +kernel
theorem dX14_assign_72 : decode cX14_assign 72 = .ok (.iload_n 3, 1) := by decide +kernel
theorem dX14_assign_73 : decode cX14_assign 73 = .ok (.i2l, 1) := by decide +kernel
theorem dX14_assign_74 : decode cX14_assign 74 = .ok (.lconst 0, 1) := by decide +kernel
theorem dX14_assign_75 : decode cX14_assign 75 = .ok (.aload_n 0, 1) := by decide +kernel
theorem dX14_assign_76 : decode cX14_assign 76 = .ok (.getfield 19, 3) := by decide +kernel
theorem dX14_assign_79 : decode cX14_assign 79 = .ok (.getfield 290, 3) := by decide +kernel
theorem dX14_assign_82 : decode cX14_assign 82 = .ok (.bipush 10, 2) := by decide +kernel
theorem dX14_assign_84 : decode cX14_assign 84 = .ok (.iload 5, 2) := by decide +kernel
theorem dX14_assign_86 : decode cX14_assign 86 = .ok (.imul, 1) := by decide +kernel
theorem dX14_assign_87 : decode cX14_assign 87 = .ok (.iload_n 2, 1) := by decide +kernel
theorem dX14_assign_88 : decode cX14_assign 88 = .ok (.iadd, 1) := by decide +kernel
theorem dX14_assign_89 : decode cX14_assign 89 = .ok (.iaload, 1) := by decide +kernel
theorem dX14_assign_90 : decode cX14_assign 90 = .ok (.iconst 1, 1) := by decide +kernel
theorem dX14_assign_91 : decode cX14_assign 91 = .ok (.isub, 1) := by decide +kernel
theorem dX14_assign_92 : decode cX14_assign 92 = .ok (.i2l, 1) := by decide +kernel
theorem dX14_assign_93 : decode cX14_assign 93 = .ok (.invokestatic 395, 3) := by decide +kernel
theorem dX14_assign_96 : decode cX14_assign 96 = .ok (.ifCond .ne 11, 3) := by decide +kernel
theorem dX14_assign_99 : decode cX14_assign 99 = .ok (.aload_n 0, 1) := by decide +kernel
theorem dX14_assign_100 : decode cX14_assign 100 = .ok (.ldc2_w 599, 3) := by decide +kernel
theorem dX14_assign_103 : decode cX14_assign 103 = .ok (.lconst 0, 1) := by decide +kernel
theorem dX14_assign_104 : decode cX14_assign 104 = .ok (.invokevirtual 588, 3) := by decide +kernel
theorem dX14_assign_107 : decode cX14_assign 107 = .ok (.aload_n 0, 1) := by decide +kernel
theorem dX14_assign_108 : decode cX14_assign 108 = .ok (.aload_n 0, 1) := by decide +kernel
theorem dX14_assign_109 : decode cX14_assign 109 = .ok (.getfield 19, 3) := by decide +kernel
theorem dX14_assign_112 : decode cX14_assign 112 = .ok (.getfield 345, 3) := by decide +kernel
theorem dX14_assign_115 : decode cX14_assign 115 = .ok (.iload_n 1, 1) := by decide +kernel
theorem dX14_assign_116 : decode cX14_assign 116 = .ok (.iaload, 1) := by decide +kernel
theorem dX14_assign_117 : decode cX14_assign 117 = .ok (.invokevirtual 582, 3) := by decide +kernel
theorem dX14_assign_120 : decode cX14_assign 120 = .ok (.istore 6, 2) := by decide +kernel
theorem dX14_assign_122 : decode cX14_assign 122 = .ok (.iload 4, 2) := by decide +kernel
theorem dX14_assign_124 : decode cX14_assign 124 = .ok (.iconst 1, 1) := by decide +kernel
theorem dX14_assign_125 : decode cX14_assign 125 = .ok (.if_icmp .ne 25, 3) := by decide +kernel
theorem dX14_assign_128 : decode cX14_assign 128 = .ok (.aload_n 0, 1) := by decide +kernel
theorem dX14_assign_129 : decode cX14_assign 129 = .ok (.getfield 51, 3) := by decide +kernel
theorem dX14_assign_132 : decode cX14_assign 132 = .ok (.iconst 3, 1) := by decide +kernel
theorem dX14_assign_133 : decode cX14_assign 133 = .ok (.aload_n 0, 1) := by decide +kernel
theorem dX14_assign_134 : decode cX14_assign 134 = .ok (.getfield 567, 3) := by decide +kernel
theorem dX14_assign_137 : decode cX14_assign 137 = .ok (.imul, 1) := by decide +kernel
theorem dX14_assign_138 : decode cX14_assign 138 = .ok (.iload_n 2, 1) := by decide +kernel
theorem dX14_assign_139 : decode cX14_assign 139 = .ok (.sipush 1000, 3) := by decide +kernel
theorem dX14_assign_142 : decode cX14_assign 142 = .ok (.irem, 1) := by decide +kernel
theorem dX14_assign_143 : decode cX14_assign 143 = .ok (.iadd, 1) := by decide +kernel
theorem dX14_assign_144 : decode cX14_assign 144 = .ok (.iload 6, 2) := by decide +kernel
theorem dX14_assign_146 : decode cX14_assign 146 = .ok (.iastore, 1) := by decide +kernel
theorem dX14_assign_147 : decode cX14_assign 147 = .ok (.goto 81, 3) := by decide +kernel
theorem dX14_assign_150 : decode cX14_assign 150 = .ok (.iload 4, 2) := by decide +kernel
theorem dX14_assign_152 : decode cX14_assign 152 = .ok (.iconst 2, 1) := by decide +kernel
theorem dX14_assign_153 : decode cX14_assign 153 = .ok (.if_icmp .ne 26, 3) := by decide +kernel
theorem dX14_assign_156 : decode cX14_assign 156 = .ok (.aload_n 0, 1) := by decide +kernel
theorem dX14_assign_157 : decode cX14_assign 157 = .ok (.getfield 54, 3) := by decide +kernel
theorem dX14_assign_160 : decode cX14_assign 160 = .ok (.bipush 8, 2) := by decide +kernel
theorem dX14_assign_162 : decode cX14_assign 162 = .ok (.aload_n 0, 1) := by decide +kernel
theorem dX14_assign_163 : decode cX14_assign 163 = .ok (.getfield 567, 3) := by decide +kernel
theorem dX14_assign_166 : decode cX14_assign 166 = .ok (.imul, 1) := by decide +kernel
theorem dX14_assign_167 : decode cX14_assign 167 = .ok (.iload_n 2, 1) := by decide +kernel
theorem dX14_assign_168 : decode cX14_assign 168 = .ok (.sipush 1000, 3) := by decide +kernel
theorem dX14_assign_171 : decode cX14_assign 171 = .ok (.irem, 1) := by decide +kernel
theorem dX14_assign_172 : decode cX14_assign 172 = .ok (.iadd, 1) := by decide +kernel
theorem dX14_assign_173 : decode cX14_assign 173 = .ok (.iload 6, 2) := by decide +kernel
theorem dX14_assign_175 : decode cX14_assign 175 = .ok (.iastore, 1) := by decide +kernel
theorem dX14_assign_176 : decode cX14_assign 176 = .ok (.goto 52, 3) := by decide +kernel
theorem dX14_assign_179 : decode cX14_assign 179 = .ok (.aload_n 0, 1) := by decide +kernel
theorem dX14_assign_180 : decode cX14_assign 180 = .ok (.getfield 601, 3) := by decide +kernel
theorem dX14_assign_183 : decode cX14_assign 183 = .ok (.ifCond .eq 8, 3) := by decide +kernel
theorem dX14_assign_186 : decode cX14_assign 186 = .ok (.aload_n 0, 1) := by decide +kernel
theorem dX14_assign_187 : decode cX14_assign 187 = .ok (.iconst 3, 1) := by decide +kernel
theorem dX14_assign_188 : decode cX14_assign 188 = .ok (.invokevirtual 562, 3) := by decide +kernel
theorem dX14_assign_191 : decode cX14_assign 191 = .ok (.aload_n 0, 1) := by decide +kernel
theorem dX14_assign_192 : decode cX14_assign 192 = .ok (.getfield 45, 3) := by decide +kernel
theorem dX14_assign_195 : decode cX14_assign 195 = .ok (.bipush 24, 2) := by decide +kernel
theorem dX14_assign_197 : decode cX14_assign 197 = .ok (.aload_n 0, 1) := by decide +kernel
theorem dX14_assign_198 : decode cX14_assign 198 = .ok (.getfield 57, 3) := by decide +kernel
theorem dX14_assign_201 : decode cX14_assign 201 = .ok (.aload_n 0, 1) := by decide +kernel
theorem dX14_assign_202 : decode cX14_assign 202 = .ok (.getfield 567, 3) := by decide +kernel
theorem dX14_assign_205 : decode cX14_assign 205 = .ok (.iaload, 1) := by decide +kernel
theorem dX14_assign_206 : decode cX14_assign 206 = .ok (.imul, 1) := by decide +kernel
theorem dX14_assign_207 : decode cX14_assign 207 = .ok (.aload_n 0, 1) := by decide +kernel
theorem dX14_assign_208 : decode cX14_assign 208 = .ok (.getfield 19, 3) := by decide +kernel
theorem dX14_assign_211 : decode cX14_assign 211 = .ok (.getfield 416, 3) := by decide +kernel
theorem dX14_assign_214 : decode cX14_assign 214 = .ok (.bipush 10, 2) := by decide +kernel
theorem dX14_assign_216 : decode cX14_assign 216 = .ok (.iload 5, 2) := by decide +kernel
theorem dX14_assign_218 : decode cX14_assign 218 = .ok (.imul, 1) := by decide +kernel
theorem dX14_assign_219 : decode cX14_assign 219 = .ok (.iload_n 2, 1) := by decide +kernel
theorem dX14_assign_220 : decode cX14_assign 220 = .ok (.iadd, 1) := by decide +kernel
theorem dX14_assign_221 : decode cX14_assign 221 = .ok (.iaload, 1) := by decide +kernel
theorem dX14_assign_222 : decode cX14_assign 222 = .ok (.iadd, 1) := by decide +kernel
theorem dX14_assign_223 : decode cX14_assign 223 = .ok (.iload_n 3, 1) := by decide +kernel
theorem dX14_assign_224 : decode cX14_assign 224 = .ok (.iadd, 1) := by decide +kernel
theorem dX14_assign_225 : decode cX14_assign 225 = .ok (.iload 6, 2) := by decide +kernel
theorem dX14_assign_227 : decode cX14_assign 227 = .ok (.iastore, 1) := by decide +kernel
theorem dX14_assign_228 : decode cX14_assign 228 = .ok (.return_, 1) := by decide +kernel
theorem dX14_place_0 : decode cX14_place 0 = .ok (.aload_n 0, 1) := by decide +kernel
theorem dX14_place_1 : decode cX14_place 1 = .ok (.getfield 19, 3) := by decide +kernel
theorem dX14_place_4 : decode cX14_place 4 = .ok (.getfield 223, 3) := by decide +kernel
theorem dX14_place_7 : decode cX14_place 7 = .ok (.iload_n 1, 1) := by decide +kernel
theorem dX14_place_8 : decode cX14_place 8 = .ok (.iaload, 1) := by decide +kernel
theorem dX14_place_9 : decode cX14_place 9 = .ok (.istore_n 3, 1) := by decide +kernel
theorem dX14_place_10 : decode cX14_place 10 = .ok (.iload_n 3, 1) := by decide +kernel
theorem dX14_place_11 : decode cX14_place 11 = .ok (.sipush 1000, 3) := by decide +kernel
theorem dX14_place_14 : decode cX14_place 14 = .ok (.idiv, 1) := by decide +kernel
theorem dX14_place_15 : decode cX14_place 15 = .ok (.istore 4, 2) := by decide +kernel
theorem dX14_place_17 : decode cX14_place 17 = .ok (.iload 4, 2) := by decide +kernel
theorem dX14_place_19 : decode cX14_place 19 = .ok (.iconst 1, 1) := by decide +kernel
theorem dX14_place_20 : decode cX14_place 20 = .ok (.if_icmp .ne 21, 3) := by decide +kernel
theorem dX14_place_23 : decode cX14_place 23 = .ok (.aload_n 0, 1) := by decide +kernel
theorem dX14_place_24 : decode cX14_place 24 = .ok (.getfield 51, 3) := by decide +kernel
theorem dX14_place_27 : decode cX14_place 27 = .ok (.iconst 3, 1) := by decide +kernel
theorem dX14_place_28 : decode cX14_place 28 = .ok (.aload_n 0, 1) := by decide +kernel
theorem dX14_place_29 : decode cX14_place 29 = .ok (.getfield 567, 3) := by decide +kernel
theorem dX14_place_32 : decode cX14_place 32 = .ok (.imul, 1) := by decide +kernel
theorem dX14_place_33 : decode cX14_place 33 = .ok (.iload_n 3, 1) := by decide +kernel
theorem dX14_place_34 : decode cX14_place 34 = .ok (.sipush 1000, 3) := by decide +kernel
theorem dX14_place_37 : decode cX14_place 37 = .ok (.irem, 1) := by decide +kernel
theorem dX14_place_38 : decode cX14_place 38 = .ok (.iadd, 1) := by decide +kernel
theorem dX14_place_39 : decode cX14_place 39 = .ok (.iaload, 1) := by decide +kernel
theorem dX14_place_40 : decode cX14_place 40 = .ok (.ireturn, 1) := by decide +kernel
theorem dX14_place_41 : decode cX14_place 41 = .ok (.iload 4, 2) := by decide +kernel
theorem dX14_place_43 : decode cX14_place 43 = .ok (.iconst 2, 1) := by decide +kernel
theorem dX14_place_44 : decode cX14_place 44 = .ok (.if_icmp .ne 22, 3) := by decide +kernel
theorem dX14_place_47 : decode cX14_place 47 = .ok (.aload_n 0, 1) := by decide +kernel
theorem dX14_place_48 : decode cX14_place 48 = .ok (.getfield 54, 3) := by decide +kernel
theorem dX14_place_51 : decode cX14_place 51 = .ok (.bipush 8, 2) := by decide +kernel
theorem dX14_place_53 : decode cX14_place 53 = .ok (.aload_n 0, 1) := by decide +kernel
theorem dX14_place_54 : decode cX14_place 54 = .ok (.getfield 567, 3) := by decide +kernel
theorem dX14_place_57 : decode cX14_place 57 = .ok (.imul, 1) := by decide +kernel
theorem dX14_place_58 : decode cX14_place 58 = .ok (.iload_n 3, 1) := by decide +kernel
theorem dX14_place_59 : decode cX14_place 59 = .ok (.sipush 1000, 3) := by decide +kernel
theorem dX14_place_62 : decode cX14_place 62 = .ok (.irem, 1) := by decide +kernel
theorem dX14_place_63 : decode cX14_place 63 = .ok (.iadd, 1) := by decide +kernel
theorem dX14_place_64 : decode cX14_place 64 = .ok (.iaload, 1) := by decide +kernel
theorem dX14_place_65 : decode cX14_place 65 = .ok (.ireturn, 1) := by decide +kernel
theorem dX14_place_66 : decode cX14_place 66 = .ok (.aload_n 0, 1) := by decide +kernel
theorem dX14_place_67 : decode cX14_place 67 = .ok (.invokevirtual 596, 3) := by decide +kernel
theorem dX14_place_70 : decode cX14_place 70 = .ok (.istore 5, 2) := by decide +kernel
theorem dX14_place_72 : decode cX14_place 72 = .ok (.aload_n 0, 1) := by decide +kernel
theorem dX14_place_73 : decode cX14_place 73 = .ok (.getfield 19, 3) := by decide +kernel
theorem dX14_place_76 : decode cX14_place 76 = .ok (.getfield 217, 3) := by decide +kernel
theorem dX14_place_79 : decode cX14_place 79 = .ok (.iload_n 1, 1) := by decide +kernel
theorem dX14_place_80 : decode cX14_place 80 = .ok (.iaload, 1) := by decide +kernel
theorem dX14_place_81 : decode cX14_place 81 = .ok (.iconst (-1), 1) := by decide +kernel
theorem dX14_place_82 : decode cX14_place 82 = .ok (.if_icmp .ne 7, 3) := by decide +kernel
theorem dX14_place_85 : decode cX14_place 85 = .ok (.iconst 0, 1) := by decide +kernel
theorem dX14_place_86 : decode cX14_place 86 = .ok (.goto 16, 3) := by decide +kernel
theorem dX14_place_89 : decode cX14_place 89 = .ok (.aload_n 0, 1) := by decide +kernel
theorem dX14_place_90 : decode cX14_place 90 = .ok (.aload_n 0, 1) := by decide +kernel
theorem dX14_place_91 : decode cX14_place 91 = .ok (.getfield 19, 3) := by decide +kernel
theorem dX14_place_94 : decode cX14_place 94 = .ok (.getfield 217, 3) := by decide +kernel
theorem dX14_place_97 : decode cX14_place 97 = .ok (.iload_n 1, 1) := by decide +kernel
theorem dX14_place_98 : decode cX14_place 98 = .ok (.iaload, 1) := by decide +kernel
theorem dX14_place_99 : decode cX14_place 99 = .ok (.invokevirtual 582, 3) := by decide +kernel
theorem dX14_place_102 : decode cX14_place 102 = .ok (.istore 6, 2) := by decide +kernel
theorem dX14_place_104 : decode cX14_place 104 = .ok (.aload_n 0, 1) := by decide +kernel
theorem dX14_place_105 : decode cX14_place 105 = .ok (.getfield 19, 3) := by decide +kernel
theorem dX14_place_108 : decode cX14_place 108 = .ok (.getfield 217, 3) := by decide +kernel
theorem dX14_place_111 : decode cX14_place 111 = .ok (.iload_n 1, 1) := by decide +kernel
theorem dX14_place_112 : decode cX14_place 112 = .ok (.iaload, 1) := by decide +kernel
theorem dX14_place_113 : decode cX14_place 113 = .ok (.iconst (-1), 1) := by decide +kernel
theorem dX14_place_114 : decode cX14_place 114 = .ok (.if_icmp .eq 39, 3) := by decide +kernel
theorem dX14_place_117 : decode cX14_place 117 = .ok (.iload 6, 2) := by decide +kernel
theorem dX14_place_119 : decode cX14_place 119 = .ok (.i2l, 1) := by decide +kernel
theorem dX14_place_120 : decode cX14_place 120 = .ok (.lconst 0, 1) := by decide +kernel
theorem dX14_place_121 : decode cX14_place 121 = .ok (.aload_n 0, 1) := by decide +kernel
theorem dX14_place_122 : decode cX14_place 122 = .ok (.getfield 19, 3) := by decide +kernel
theorem dX14_place_125 : decode cX14_place 125 = .ok (.getfield 290, 3) := by decide +kernel
theorem dX14_place_128 : decode cX14_place 128 = .ok (.bipush 10, 2) := by decide +kernel
theorem dX14_place_130 : decode cX14_place 130 = .ok (.iload 5, 2) := by decide +kernel
theorem dX14_place_132 : decode cX14_place 132 = .ok (.imul, 1) := by decide +kernel
theorem dX14_place_133 : decode cX14_place 133 = .ok (.iload_n 3, 1) := by decide +kernel
theorem dX14_place_134 : decode cX14_place 134 = .ok (.iadd, 1) := by decide +kernel
theorem dX14_place_135 : decode cX14_place 135 = .ok (.iaload, 1) := by decide +kernel
theorem dX14_place_136 : decode cX14_place 136 = .ok (.iconst 1, 1) := by decide +kernel
theorem dX14_place_137 : decode cX14_place 137 = .ok (.isub, 1) := by decide +kernel
theorem dX14_place_138 : decode cX14_place 138 = .ok (.i2l, 1) := by decide +kernel
theorem dX14_place_139 : decode cX14_place 139 = .ok (.invokestatic 395, 3) := by decide +kernel
theorem dX14_place_142 : decode cX14_place 142 = .ok (.ifCond .ne 11, 3) := by decide +kernel
theorem dX14_place_145 : decode cX14_place 145 = .ok (.aload_n 0, 1) := by decide +kernel
theorem dX14_place_146 : decode cX14_place 146 = .ok (.ldc2_w 599, 3) := by decide +kernel
theorem dX14_place_149 : decode cX14_place 149 = .ok (.lconst 0, 1) := by decide +kernel
theorem dX14_place_150 : decode cX14_place 150 = .ok (.invokevirtual 588, 3) := by decide +kernel
theorem dX14_place_153 : decode cX14_place 153 = .ok (.aload_n 0, 1) := by decide +kernel
theorem dX14_place_154 : decode cX14_place 154 = .ok (.getfield 19, 3) := by decide +kernel
theorem dX14_place_157 : decode cX14_place 157 = .ok (.getfield 416, 3) := by decide +kernel
theorem dX14_place_160 : decode cX14_place 160 = .ok (.bipush 10, 2) := by decide +kernel
theorem dX14_place_162 : decode cX14_place 162 = .ok (.iload 5, 2) := by decide +kernel
theorem dX14_place_164 : decode cX14_place 164 = .ok (.imul, 1) := by decide +kernel
theorem dX14_place_165 : decode cX14_place 165 = .ok (.iload_n 3, 1) := by decide +kernel
theorem dX14_place_166 : decode cX14_place 166 = .ok (.iadd, 1) := by decide +kernel
theorem dX14_place_167 : decode cX14_place 167 = .ok (.iaload, 1) := by decide +kernel
theorem dX14_place_168 : decode cX14_place 168 = .ok (.iload 6, 2) := by decide +kernel
theorem dX14_place_170 : decode cX14_place 170 = .ok (.iadd, 1) := by decide +kernel
theorem dX14_place_171 : decode cX14_place 171 = .ok (.istore 7, 2) := by decide +kernel
theorem dX14_place_173 : decode cX14_place 173 = .ok (.iload_n 2, 1) := by decide +kernel
theorem dX14_place_174 : decode cX14_place 174 = .ok (.ifCond .ne 10, 3) := by decide +kernel
theorem dX14_place_177 : decode cX14_place 177 = .ok (.aload_n 0, 1) := by decide +kernel
theorem dX14_place_178 : decode cX14_place 178 = .ok (.getfield 604, 3) := by decide +kernel
theorem dX14_place_181 : decode cX14_place 181 = .ok (.ifCond .eq 13, 3) := by decide +kernel
theorem dX14_place_184 : decode cX14_place 184 = .ok (.aload_n 0, 1) := by decide +kernel
theorem dX14_place_185 : decode cX14_place 185 = .ok (.getfield 48, 3) := by decide +kernel
theorem dX14_place_188 : decode cX14_place 188 = .ok (.iload 7, 2) := by decide +kernel
theorem dX14_place_190 : decode cX14_place 190 = .ok (.iaload, 1) := by decide +kernel
theorem dX14_place_191 : decode cX14_place 191 = .ok (.goto 23, 3) := by decide +kernel
theorem dX14_place_194 : decode cX14_place 194 = .ok (.aload_n 0, 1) := by decide +kernel
theorem dX14_place_195 : decode cX14_place 195 = .ok (.getfield 45, 3) := by decide +kernel
theorem dX14_place_198 : decode cX14_place 198 = .ok (.bipush 24, 2) := by decide +kernel
theorem dX14_place_200 : decode cX14_place 200 = .ok (.aload_n 0, 1) := by decide +kernel
theorem dX14_place_201 : decode cX14_place 201 = .ok (.getfield 57, 3) := by decide +kernel
theorem dX14_place_204 : decode cX14_place 204 = .ok (.aload_n 0, 1) := by decide +kernel
theorem dX14_place_205 : decode cX14_place 205 = .ok (.getfield 567, 3) := by decide +kernel
theorem dX14_place_208 : decode cX14_place 208 = .ok (.iaload, 1) := by decide +kernel
theorem dX14_place_209 : decode cX14_place 209 = .ok (.imul, 1) := by decide +kernel
theorem dX14_place_210 : decode cX14_place 210 = .ok (.iload 7, 2) := by decide +kernel
theorem dX14_place_212 : decode cX14_place 212 = .ok (.iadd, 1) := by decide +kernel
theorem dX14_place_213 : decode cX14_place 213 = .ok (.iaload, 1) := by decide +kernel
theorem dX14_place_214 : decode cX14_place 214 = .ok (.ireturn, 1) := by decide +kernel
theorem dX14_callOf_0 : decode cX14_callOf 0 = .ok (.aload_n 0, 1) := by decide +kernel
theorem dX14_callOf_1 : decode cX14_callOf 1 = .ok (.invokevirtual 596, 3) := by decide +kernel
theorem dX14_callOf_4 : decode cX14_callOf 4 = .ok (.istore_n 3, 1) := by decide +kernel
theorem dX14_callOf_5 : decode cX14_callOf 5 = .ok (.aload_n 0, 1) := by decide +kernel
theorem dX14_callOf_6 : decode cX14_callOf 6 = .ok (.getfield 19, 3) := by decide +kernel
theorem dX14_callOf_9 : decode cX14_callOf 9 = .ok (.getfield 214, 3) := by decide +kernel
theorem dX14_callOf_12 : decode cX14_callOf 12 = .ok (.iload_n 1, 1) := by decide +kernel
theorem dX14_callOf_13 : decode cX14_callOf 13 = .ok (.iaload, 1) := by decide +kernel
theorem dX14_callOf_14 : decode cX14_callOf 14 = .ok (.bipush 9, 2) := by decide +kernel
theorem dX14_callOf_16 : decode cX14_callOf 16 = .ok (.if_icmp .ne 48, 3) := by decide +kernel
theorem dX14_callOf_19 : decode cX14_callOf 19 = .ok (.aload_n 0, 1) := by decide +kernel
theorem dX14_callOf_20 : decode cX14_callOf 20 = .ok (.getfield 19, 3) := by decide +kernel
theorem dX14_callOf_23 : decode cX14_callOf 23 = .ok (.aload_n 0, 1) := by decide +kernel
theorem dX14_callOf_24 : decode cX14_callOf 24 = .ok (.getfield 19, 3) := by decide +kernel
theorem dX14_callOf_27 : decode cX14_callOf 27 = .ok (.getfield 297, 3) := by decide +kernel
theorem dX14_callOf_30 : decode cX14_callOf 30 = .ok (.aload_n 0, 1) := by decide +kernel
theorem dX14_callOf_31 : decode cX14_callOf 31 = .ok (.getfield 19, 3) := by decide +kernel
theorem dX14_callOf_34 : decode cX14_callOf 34 = .ok (.getfield 232, 3) := by decide +kernel
theorem dX14_callOf_37 : decode cX14_callOf 37 = .ok (.iload_n 1, 1) := by decide +kernel
theorem dX14_callOf_38 : decode cX14_callOf 38 = .ok (.iaload, 1) := by decide +kernel
theorem dX14_callOf_39 : decode cX14_callOf 39 = .ok (.iaload, 1) := by decide +kernel
theorem dX14_callOf_40 : decode cX14_callOf 40 = .ok (.aload_n 0, 1) := by decide +kernel
theorem dX14_callOf_41 : decode cX14_callOf 41 = .ok (.getfield 19, 3) := by decide +kernel
theorem dX14_callOf_44 : decode cX14_callOf 44 = .ok (.getfield 235, 3) := by decide +kernel
theorem dX14_callOf_47 : decode cX14_callOf 47 = .ok (.iload_n 1, 1) := by decide +kernel
theorem dX14_callOf_48 : decode cX14_callOf 48 = .ok (.laload, 1) := by decide +kernel
theorem dX14_callOf_49 : decode cX14_callOf 49 = .ok (.aload_n 0, 1) := by decide +kernel
theorem dX14_callOf_50 : decode cX14_callOf 50 = .ok (.getfield 19, 3) := by decide +kernel
theorem dX14_callOf_53 : decode cX14_callOf 53 = .ok (.getfield 238, 3) := by decide +kernel
theorem dX14_callOf_56 : decode cX14_callOf 56 = .ok (.iload_n 1, 1) := by decide +kernel
theorem dX14_callOf_57 : decode cX14_callOf 57 = .ok (.laload, 1) := by decide +kernel
theorem dX14_callOf_58 : decode cX14_callOf 58 = .ok (.invokevirtual 300, 3) := by decide +kernel
theorem dX14_callOf_61 : decode cX14_callOf 61 = .ok (.goto 29, 3) := by decide +kernel
theorem dX14_callOf_64 : decode cX14_callOf 64 = .ok (.aload_n 0, 1) := by decide +kernel
theorem dX14_callOf_65 : decode cX14_callOf 65 = .ok (.getfield 19, 3) := by decide +kernel
theorem dX14_callOf_68 : decode cX14_callOf 68 = .ok (.iload_n 3, 1) := by decide +kernel
theorem dX14_callOf_69 : decode cX14_callOf 69 = .ok (.aload_n 0, 1) := by decide +kernel
theorem dX14_callOf_70 : decode cX14_callOf 70 = .ok (.getfield 19, 3) := by decide +kernel
theorem dX14_callOf_73 : decode cX14_callOf 73 = .ok (.getfield 235, 3) := by decide +kernel
theorem dX14_callOf_76 : decode cX14_callOf 76 = .ok (.iload_n 1, 1) := by decide +kernel
theorem dX14_callOf_77 : decode cX14_callOf 77 = .ok (.laload, 1) := by decide +kernel
theorem dX14_callOf_78 : decode cX14_callOf 78 = .ok (.aload_n 0, 1) := by decide +kernel
theorem dX14_callOf_79 : decode cX14_callOf 79 = .ok (.getfield 19, 3) := by decide +kernel
theorem dX14_callOf_82 : decode cX14_callOf 82 = .ok (.getfield 238, 3) := by decide +kernel
theorem dX14_callOf_85 : decode cX14_callOf 85 = .ok (.iload_n 1, 1) := by decide +kernel
theorem dX14_callOf_86 : decode cX14_callOf 86 = .ok (.laload, 1) := by decide +kernel
theorem dX14_callOf_87 : decode cX14_callOf 87 = .ok (.invokevirtual 300, 3) := by decide +kernel
theorem dX14_callOf_90 : decode cX14_callOf 90 = .ok (.istore 4, 2) := by decide +kernel
theorem dX14_callOf_92 : decode cX14_callOf 92 = .ok (.aload_n 0, 1) := by decide +kernel
theorem dX14_callOf_93 : decode cX14_callOf 93 = .ok (.getfield 19, 3) := by decide +kernel
theorem dX14_callOf_96 : decode cX14_callOf 96 = .ok (.getfield 229, 3) := by decide +kernel
theorem dX14_callOf_99 : decode cX14_callOf 99 = .ok (.iload_n 1, 1) := by decide +kernel
theorem dX14_callOf_100 : decode cX14_callOf 100 = .ok (.iaload, 1) := by decide +kernel
theorem dX14_callOf_101 : decode cX14_callOf 101 = .ok (.istore 5, 2) := by decide +kernel
theorem dX14_callOf_103 : decode cX14_callOf 103 = .ok (.iload 5, 2) := by decide +kernel
theorem dX14_callOf_105 : decode cX14_callOf 105 = .ok (.ifCond .le 21, 3) := by decide +kernel
theorem dX14_callOf_108 : decode cX14_callOf 108 = .ok (.aload_n 0, 1) := by decide +kernel
theorem dX14_callOf_109 : decode cX14_callOf 109 = .ok (.aload_n 0, 1) := by decide +kernel
theorem dX14_callOf_110 : decode cX14_callOf 110 = .ok (.getfield 19, 3) := by decide +kernel
theorem dX14_callOf_113 : decode cX14_callOf 113 = .ok (.getfield 327, 3) := by decide +kernel
theorem dX14_callOf_116 : decode cX14_callOf 116 = .ok (.iconst 3, 1) := by decide +kernel
theorem dX14_callOf_117 : decode cX14_callOf 117 = .ok (.iload_n 1, 1) := by decide +kernel
theorem dX14_callOf_118 : decode cX14_callOf 118 = .ok (.imul, 1) := by decide +kernel
theorem dX14_callOf_119 : decode cX14_callOf 119 = .ok (.iaload, 1) := by decide +kernel
theorem dX14_callOf_120 : decode cX14_callOf 120 = .ok (.invokevirtual 582, 3) := by decide +kernel
theorem dX14_callOf_123 : decode cX14_callOf 123 = .ok (.goto 4, 3) := by decide +kernel
theorem dX14_callOf_126 : decode cX14_callOf 126 = .ok (.iconst 0, 1) := by decide +kernel
theorem dX14_callOf_127 : decode cX14_callOf 127 = .ok (.istore 6, 2) := by decide +kernel
theorem dX14_callOf_129 : decode cX14_callOf 129 = .ok (.iload 5, 2) := by decide +kernel
theorem dX14_callOf_131 : decode cX14_callOf 131 = .ok (.iconst 1, 1) := by decide +kernel
theorem dX14_callOf_132 : decode cX14_callOf 132 = .ok (.if_icmp .le 23, 3) := by decide +kernel
theorem dX14_callOf_135 : decode cX14_callOf 135 = .ok (.aload_n 0, 1) := by decide +kernel
theorem dX14_callOf_136 : decode cX14_callOf 136 = .ok (.aload_n 0, 1) := by decide +kernel
theorem dX14_callOf_137 : decode cX14_callOf 137 = .ok (.getfield 19, 3) := by decide +kernel
theorem dX14_callOf_140 : decode cX14_callOf 140 = .ok (.getfield 327, 3) := by decide +kernel
theorem dX14_callOf_143 : decode cX14_callOf 143 = .ok (.iconst 3, 1) := by decide +kernel
theorem dX14_callOf_144 : decode cX14_callOf 144 = .ok (.iload_n 1, 1) := by decide +kernel
theorem dX14_callOf_145 : decode cX14_callOf 145 = .ok (.imul, 1) := by decide +kernel
theorem dX14_callOf_146 : decode cX14_callOf 146 = .ok (.iconst 1, 1) := by decide +kernel
theorem dX14_callOf_147 : decode cX14_callOf 147 = .ok (.iadd, 1) := by decide +kernel
theorem dX14_callOf_148 : decode cX14_callOf 148 = .ok (.iaload, 1) := by decide +kernel
theorem dX14_callOf_149 : decode cX14_callOf 149 = .ok (.invokevirtual 582, 3) := by decide +kernel
theorem dX14_callOf_152 : decode cX14_callOf 152 = .ok (.goto 4, 3) := by decide +kernel
theorem dX14_callOf_155 : decode cX14_callOf 155 = .ok (.iconst 0, 1) := by decide +kernel
theorem dX14_callOf_156 : decode cX14_callOf 156 = .ok (.istore 7, 2) := by decide +kernel
theorem dX14_callOf_158 : decode cX14_callOf 158 = .ok (.iload 5, 2) := by decide +kernel
theorem dX14_callOf_160 : decode cX14_callOf 160 = .ok (.iconst 2, 1) := by decide +kernel
theorem dX14_callOf_161 : decode cX14_callOf 161 = .ok (.if_icmp .le 23, 3) := by decide +kernel
theorem dX14_callOf_164 : decode cX14_callOf 164 = .ok (.aload_n 0, 1) := by decide +kernel
theorem dX14_callOf_165 : decode cX14_callOf 165 = .ok (.aload_n 0, 1) := by decide +kernel
theorem dX14_callOf_166 : decode cX14_callOf 166 = .ok (.getfield 19, 3) := by decide +kernel
theorem dX14_callOf_169 : decode cX14_callOf 169 = .ok (.getfield 327, 3) := by decide +kernel
theorem dX14_callOf_172 : decode cX14_callOf 172 = .ok (.iconst 3, 1) := by decide +kernel
theorem dX14_callOf_173 : decode cX14_callOf 173 = .ok (.iload_n 1, 1) := by decide +kernel
theorem dX14_callOf_174 : decode cX14_callOf 174 = .ok (.imul, 1) := by decide +kernel
theorem dX14_callOf_175 : decode cX14_callOf 175 = .ok (.iconst 2, 1) := by decide +kernel
theorem dX14_callOf_176 : decode cX14_callOf 176 = .ok (.iadd, 1) := by decide +kernel
theorem dX14_callOf_177 : decode cX14_callOf 177 = .ok (.iaload, 1) := by decide +kernel
theorem dX14_callOf_178 : decode cX14_callOf 178 = .ok (.invokevirtual 582, 3) := by decide +kernel
theorem dX14_callOf_181 : decode cX14_callOf 181 = .ok (.goto 4, 3) := by decide +kernel
theorem dX14_callOf_184 : decode cX14_callOf 184 = .ok (.iconst 0, 1) := by decide +kernel
theorem dX14_callOf_185 : decode cX14_callOf 185 = .ok (.istore 8, 2) := by decide +kernel
theorem dX14_callOf_187 : decode cX14_callOf 187 = .ok (.iload_n 2, 1) := by decide +kernel
theorem dX14_callOf_188 : decode cX14_callOf 188 = .ok (.ifCond .eq 7, 3) := by decide +kernel
theorem dX14_callOf_191 : decode cX14_callOf 191 = .ok (.aload_n 0, 1) := by decide +kernel
theorem dX14_callOf_192 : decode cX14_callOf 192 = .ok (.invokevirtual 579, 3) := by decide +kernel
theorem dX14_callOf_195 : decode cX14_callOf 195 = .ok (.aload_n 0, 1) := by decide +kernel
theorem dX14_callOf_196 : decode cX14_callOf 196 = .ok (.getfield 567, 3) := by decide +kernel
theorem dX14_callOf_199 : decode cX14_callOf 199 = .ok (.bipush 20, 2) := by decide +kernel
theorem dX14_callOf_201 : decode cX14_callOf 201 = .ok (.if_icmp .ne 8, 3) := by decide +kernel
theorem dX14_callOf_204 : decode cX14_callOf 204 = .ok (.aload_n 0, 1) := by decide +kernel
theorem dX14_callOf_205 : decode cX14_callOf 205 = .ok (.iconst 2, 1) := by decide +kernel
theorem dX14_callOf_206 : decode cX14_callOf 206 = .ok (.invokevirtual 562, 3) := by decide +kernel
theorem dX14_callOf_209 : decode cX14_callOf 209 = .ok (.iconst 3, 1) := by decide +kernel
theorem dX14_callOf_210 : decode cX14_callOf 210 = .ok (.aload_n 0, 1) := by decide +kernel
theorem dX14_callOf_211 : decode cX14_callOf 211 = .ok (.getfield 567, 3) := by decide +kernel
theorem dX14_callOf_214 : decode cX14_callOf 214 = .ok (.iconst 1, 1) := by decide +kernel
theorem dX14_callOf_215 : decode cX14_callOf 215 = .ok (.iadd, 1) := by decide +kernel
theorem dX14_callOf_216 : decode cX14_callOf 216 = .ok (.imul, 1) := by decide +kernel
theorem dX14_callOf_217 : decode cX14_callOf 217 = .ok (.istore 9, 2) := by decide +kernel
theorem dX14_callOf_219 : decode cX14_callOf 219 = .ok (.aload_n 0, 1) := by decide +kernel
theorem dX14_callOf_220 : decode cX14_callOf 220 = .ok (.getfield 51, 3) := by decide +kernel
theorem dX14_callOf_223 : decode cX14_callOf 223 = .ok (.iload 9, 2) := by decide +kernel
theorem dX14_callOf_225 : decode cX14_callOf 225 = .ok (.iload 6, 2) := by decide +kernel
theorem dX14_callOf_227 : decode cX14_callOf 227 = .ok (.iastore, 1) := by decide +kernel
theorem dX14_callOf_228 : decode cX14_callOf 228 = .ok (.aload_n 0, 1) := by decide +kernel
theorem dX14_callOf_229 : decode cX14_callOf 229 = .ok (.getfield 51, 3) := by decide +kernel
theorem dX14_callOf_232 : decode cX14_callOf 232 = .ok (.iload 9, 2) := by decide +kernel
theorem dX14_callOf_234 : decode cX14_callOf 234 = .ok (.iconst 1, 1) := by decide +kernel
theorem dX14_callOf_235 : decode cX14_callOf 235 = .ok (.iadd, 1) := by decide +kernel
theorem dX14_callOf_236 : decode cX14_callOf 236 = .ok (.iload 7, 2) := by decide +kernel
theorem dX14_callOf_238 : decode cX14_callOf 238 = .ok (.iastore, 1) := by decide +kernel
theorem dX14_callOf_239 : decode cX14_callOf 239 = .ok (.aload_n 0, 1) := by decide +kernel
theorem dX14_callOf_240 : decode cX14_callOf 240 = .ok (.getfield 51, 3) := by decide +kernel
theorem dX14_callOf_243 : decode cX14_callOf 243 = .ok (.iload 9, 2) := by decide +kernel
theorem dX14_callOf_245 : decode cX14_callOf 245 = .ok (.iconst 2, 1) := by decide +kernel
theorem dX14_callOf_246 : decode cX14_callOf 246 = .ok (.iadd, 1) := by decide +kernel
theorem dX14_callOf_247 : decode cX14_callOf 247 = .ok (.iload 8, 2) := by decide +kernel
theorem dX14_callOf_249 : decode cX14_callOf 249 = .ok (.iastore, 1) := by decide +kernel
theorem dX14_callOf_250 : decode cX14_callOf 250 = .ok (.aload_n 0, 1) := by decide +kernel
theorem dX14_callOf_251 : decode cX14_callOf 251 = .ok (.iload 4, 2) := by decide +kernel
theorem dX14_callOf_253 : decode cX14_callOf 253 = .ok (.aload_n 0, 1) := by decide +kernel
theorem dX14_callOf_254 : decode cX14_callOf 254 = .ok (.getfield 57, 3) := by decide +kernel
theorem dX14_callOf_257 : decode cX14_callOf 257 = .ok (.aload_n 0, 1) := by decide +kernel
theorem dX14_callOf_258 : decode cX14_callOf 258 = .ok (.getfield 567, 3) := by decide +kernel
theorem dX14_callOf_261 : decode cX14_callOf 261 = .ok (.iaload, 1) := by decide +kernel
theorem dX14_callOf_262 : decode cX14_callOf 262 = .ok (.invokevirtual 607, 3) := by decide +kernel
theorem dX14_callOf_265 : decode cX14_callOf 265 = .ok (.ireturn, 1) := by decide +kernel
theorem dX14_eval_0 : decode cX14_eval 0 = .ok (.aload_n 0, 1) := by decide +kernel
theorem dX14_eval_1 : decode cX14_eval 1 = .ok (.getfield 19, 3) := by decide +kernel
theorem dX14_eval_4 : decode cX14_eval 4 = .ok (.getfield 214, 3) := by decide +kernel
theorem dX14_eval_7 : decode cX14_eval 7 = .ok (.iload_n 1, 1) := by decide +kernel
theorem dX14_eval_8 : decode cX14_eval 8 = .ok (.iaload, 1) := by decide +kernel
theorem dX14_eval_9 : decode cX14_eval 9 = .ok (.istore_n 2, 1) := by decide +kernel
theorem dX14_eval_10 : decode cX14_eval 10 = .ok (.iload_n 2, 1) := by decide +kernel
theorem dX14_eval_11 : decode cX14_eval 11 = .ok (.tableswitch 157 1 9 #[49, 60, 67, 74, 89, 94, 120, 135, 67], 49) := by decide +kernel
theorem dX14_eval_60 : decode cX14_eval 60 = .ok (.aload_n 0, 1) := by decide +kernel
theorem dX14_eval_61 : decode cX14_eval 61 = .ok (.getfield 19, 3) := by decide +kernel
theorem dX14_eval_64 : decode cX14_eval 64 = .ok (.getfield 235, 3) := by decide +kernel
theorem dX14_eval_67 : decode cX14_eval 67 = .ok (.iload_n 1, 1) := by decide +kernel
theorem dX14_eval_68 : decode cX14_eval 68 = .ok (.laload, 1) := by decide +kernel
theorem dX14_eval_69 : decode cX14_eval 69 = .ok (.l2i, 1) := by decide +kernel
theorem dX14_eval_70 : decode cX14_eval 70 = .ok (.ireturn, 1) := by decide +kernel
theorem dX14_eval_71 : decode cX14_eval 71 = .ok (.aload_n 0, 1) := by decide +kernel
theorem dX14_eval_72 : decode cX14_eval 72 = .ok (.iload_n 1, 1) := by decide +kernel
theorem dX14_eval_73 : decode cX14_eval 73 = .ok (.iconst 0, 1) := by decide +kernel
theorem dX14_eval_74 : decode cX14_eval 74 = .ok (.invokevirtual 610, 3) := by decide +kernel
theorem dX14_eval_77 : decode cX14_eval 77 = .ok (.ireturn, 1) := by decide +kernel
theorem dX14_eval_78 : decode cX14_eval 78 = .ok (.aload_n 0, 1) := by decide +kernel
theorem dX14_eval_79 : decode cX14_eval 79 = .ok (.iload_n 1, 1) := by decide +kernel
theorem dX14_eval_80 : decode cX14_eval 80 = .ok (.iconst 1, 1) := by decide +kernel
theorem dX14_eval_81 : decode cX14_eval 81 = .ok (.invokevirtual 592, 3) := by decide +kernel
theorem dX14_eval_84 : decode cX14_eval 84 = .ok (.ireturn, 1) := by decide +kernel
theorem dX14_eval_85 : decode cX14_eval 85 = .ok (.aload_n 0, 1) := by decide +kernel
theorem dX14_eval_86 : decode cX14_eval 86 = .ok (.aload_n 0, 1) := by decide +kernel
theorem dX14_eval_87 : decode cX14_eval 87 = .ok (.getfield 19, 3) := by decide +kernel
theorem dX14_eval_90 : decode cX14_eval 90 = .ok (.getfield 217, 3) := by decide +kernel
theorem dX14_eval_93 : decode cX14_eval 93 = .ok (.iload_n 1, 1) := by decide +kernel
theorem dX14_eval_94 : decode cX14_eval 94 = .ok (.iaload, 1) := by decide +kernel
theorem dX14_eval_95 : decode cX14_eval 95 = .ok (.iconst 1, 1) := by decide +kernel
theorem dX14_eval_96 : decode cX14_eval 96 = .ok (.invokevirtual 610, 3) := by decide +kernel
theorem dX14_eval_99 : decode cX14_eval 99 = .ok (.ireturn, 1) := by decide +kernel
theorem dX14_eval_100 : decode cX14_eval 100 = .ok (.aload_n 0, 1) := by decide +kernel
theorem dX14_eval_101 : decode cX14_eval 101 = .ok (.getfield 613, 3) := by decide +kernel
theorem dX14_eval_104 : decode cX14_eval 104 = .ok (.ireturn, 1) := by decide +kernel
theorem dX14_eval_105 : decode cX14_eval 105 = .ok (.aload_n 0, 1) := by decide +kernel
theorem dX14_eval_106 : decode cX14_eval 106 = .ok (.getfield 19, 3) := by decide +kernel
theorem dX14_eval_109 : decode cX14_eval 109 = .ok (.getfield 290, 3) := by decide +kernel
theorem dX14_eval_112 : decode cX14_eval 112 = .ok (.bipush 10, 2) := by decide +kernel
theorem dX14_eval_114 : decode cX14_eval 114 = .ok (.aload_n 0, 1) := by decide +kernel
theorem dX14_eval_115 : decode cX14_eval 115 = .ok (.invokevirtual 596, 3) := by decide +kernel
theorem dX14_eval_118 : decode cX14_eval 118 = .ok (.imul, 1) := by decide +kernel
theorem dX14_eval_119 : decode cX14_eval 119 = .ok (.aload_n 0, 1) := by decide +kernel
theorem dX14_eval_120 : decode cX14_eval 120 = .ok (.getfield 19, 3) := by decide +kernel
theorem dX14_eval_123 : decode cX14_eval 123 = .ok (.getfield 223, 3) := by decide +kernel
theorem dX14_eval_126 : decode cX14_eval 126 = .ok (.iload_n 1, 1) := by decide +kernel
theorem dX14_eval_127 : decode cX14_eval 127 = .ok (.iaload, 1) := by decide +kernel
theorem dX14_eval_128 : decode cX14_eval 128 = .ok (.iadd, 1) := by decide +kernel
theorem dX14_eval_129 : decode cX14_eval 129 = .ok (.iaload, 1) := by decide +kernel
theorem dX14_eval_130 : decode cX14_eval 130 = .ok (.ireturn, 1) := by decide +kernel
theorem dX14_eval_131 : decode cX14_eval 131 = .ok (.aload_n 0, 1) := by decide +kernel
theorem dX14_eval_132 : decode cX14_eval 132 = .ok (.aload_n 0, 1) := by decide +kernel
theorem dX14_eval_133 : decode cX14_eval 133 = .ok (.getfield 19, 3) := by decide +kernel
theorem dX14_eval_136 : decode cX14_eval 136 = .ok (.getfield 217, 3) := by decide +kernel
theorem dX14_eval_139 : decode cX14_eval 139 = .ok (.iload_n 1, 1) := by decide +kernel
theorem dX14_eval_140 : decode cX14_eval 140 = .ok (.iaload, 1) := by decide +kernel
theorem dX14_eval_141 : decode cX14_eval 141 = .ok (.invokevirtual 582, 3) := by decide +kernel
theorem dX14_eval_144 : decode cX14_eval 144 = .ok (.ineg, 1) := by decide +kernel
theorem dX14_eval_145 : decode cX14_eval 145 = .ok (.ireturn, 1) := by decide +kernel
theorem dX14_eval_146 : decode cX14_eval 146 = .ok (.aload_n 0, 1) := by decide +kernel
theorem dX14_eval_147 : decode cX14_eval 147 = .ok (.aload_n 0, 1) := by decide +kernel
theorem dX14_eval_148 : decode cX14_eval 148 = .ok (.getfield 19, 3) := by decide +kernel
theorem dX14_eval_151 : decode cX14_eval 151 = .ok (.getfield 217, 3) := by decide +kernel
theorem dX14_eval_154 : decode cX14_eval 154 = .ok (.iload_n 1, 1) := by decide +kernel
theorem dX14_eval_155 : decode cX14_eval 155 = .ok (.iaload, 1) := by decide +kernel
theorem dX14_eval_156 : decode cX14_eval 156 = .ok (.invokevirtual 582, 3) := by decide +kernel
theorem dX14_eval_159 : decode cX14_eval 159 = .ok (.ifCond .ne 7, 3) := by decide +kernel
theorem dX14_eval_162 : decode cX14_eval 162 = .ok (.iconst 1, 1) := by decide +kernel
theorem dX14_eval_163 : decode cX14_eval 163 = .ok (.goto 4, 3) := by decide +kernel
theorem dX14_eval_166 : decode cX14_eval 166 = .ok (.iconst 0, 1) := by decide +kernel
theorem dX14_eval_167 : decode cX14_eval 167 = .ok (.ireturn, 1) := by decide +kernel
theorem dX14_eval_168 : decode cX14_eval 168 = .ok (.aload_n 0, 1) := by decide +kernel
theorem dX14_eval_169 : decode cX14_eval 169 = .ok (.aload_n 0, 1) := by decide +kernel
theorem dX14_eval_170 : decode cX14_eval 170 = .ok (.getfield 19, 3) := by decide +kernel
theorem dX14_eval_173 : decode cX14_eval 173 = .ok (.getfield 217, 3) := by decide +kernel
theorem dX14_eval_176 : decode cX14_eval 176 = .ok (.iload_n 1, 1) := by decide +kernel
theorem dX14_eval_177 : decode cX14_eval 177 = .ok (.iaload, 1) := by decide +kernel
theorem dX14_eval_178 : decode cX14_eval 178 = .ok (.invokevirtual 582, 3) := by decide +kernel
theorem dX14_eval_181 : decode cX14_eval 181 = .ok (.istore_n 3, 1) := by decide +kernel
theorem dX14_eval_182 : decode cX14_eval 182 = .ok (.iload_n 2, 1) := by decide +kernel
theorem dX14_eval_183 : decode cX14_eval 183 = .ok (.sipush 9766, 3) := by decide +kernel
theorem dX14_eval_186 : decode cX14_eval 186 = .ok (.if_icmp .ne 29, 3) := by decide +kernel
theorem dX14_eval_189 : decode cX14_eval 189 = .ok (.iload_n 3, 1) := by decide +kernel
theorem dX14_eval_190 : decode cX14_eval 190 = .ok (.ifCond .eq 23, 3) := by decide +kernel
theorem dX14_eval_193 : decode cX14_eval 193 = .ok (.aload_n 0, 1) := by decide +kernel
theorem dX14_eval_194 : decode cX14_eval 194 = .ok (.aload_n 0, 1) := by decide +kernel
theorem dX14_eval_195 : decode cX14_eval 195 = .ok (.getfield 19, 3) := by decide +kernel
theorem dX14_eval_198 : decode cX14_eval 198 = .ok (.getfield 220, 3) := by decide +kernel
theorem dX14_eval_201 : decode cX14_eval 201 = .ok (.iload_n 1, 1) := by decide +kernel
theorem dX14_eval_202 : decode cX14_eval 202 = .ok (.iaload, 1) := by decide +kernel
theorem dX14_eval_203 : decode cX14_eval 203 = .ok (.invokevirtual 582, 3) := by decide +kernel
theorem dX14_eval_206 : decode cX14_eval 206 = .ok (.ifCond .eq 7, 3) := by decide +kernel
theorem dX14_eval_209 : decode cX14_eval 209 = .ok (.iconst 1, 1) := by decide +kernel
theorem dX14_eval_210 : decode cX14_eval 210 = .ok (.goto 4, 3) := by decide +kernel
theorem dX14_eval_213 : decode cX14_eval 213 = .ok (.iconst 0, 1) := by decide +kernel
theorem dX14_eval_214 : decode cX14_eval 214 = .ok (.ireturn, 1) := by decide +kernel
theorem dX14_eval_215 : decode cX14_eval 215 = .ok (.iload_n 2, 1) := by decide +kernel
theorem dX14_eval_216 : decode cX14_eval 216 = .ok (.sipush 31868, 3) := by decide +kernel
theorem dX14_eval_219 : decode cX14_eval 219 = .ok (.if_icmp .ne 29, 3) := by decide +kernel
theorem dX14_eval_222 : decode cX14_eval 222 = .ok (.iload_n 3, 1) := by decide +kernel
theorem dX14_eval_223 : decode cX14_eval 223 = .ok (.ifCond .ne 19, 3) := by decide +kernel
theorem dX14_eval_226 : decode cX14_eval 226 = .ok (.aload_n 0, 1) := by decide +kernel
theorem dX14_eval_227 : decode cX14_eval 227 = .ok (.aload_n 0, 1) := by decide +kernel
theorem dX14_eval_228 : decode cX14_eval 228 = .ok (.getfield 19, 3) := by decide +kernel
theorem dX14_eval_231 : decode cX14_eval 231 = .ok (.getfield 220, 3) := by decide +kernel
theorem dX14_eval_234 : decode cX14_eval 234 = .ok (.iload_n 1, 1) := by decide +kernel
theorem dX14_eval_235 : decode cX14_eval 235 = .ok (.iaload, 1) := by decide +kernel
theorem dX14_eval_236 : decode cX14_eval 236 = .ok (.invokevirtual 582, 3) := by decide +kernel
theorem dX14_eval_239 : decode cX14_eval 239 = .ok (.ifCond .eq 7, 3) := by decide +kernel
theorem dX14_eval_242 : decode cX14_eval 242 = .ok (.iconst 1, 1) := by decide +kernel
theorem dX14_eval_243 : decode cX14_eval 243 = .ok (.goto 4, 3) := by decide +kernel
theorem dX14_eval_246 : decode cX14_eval 246 = .ok (.iconst 0, 1) := by decide +kernel
theorem dX14_eval_247 : decode cX14_eval 247 = .ok (.ireturn, 1) := by decide +kernel
theorem dX14_eval_248 : decode cX14_eval 248 = .ok (.aload_n 0, 1) := by decide +kernel
theorem dX14_eval_249 : decode cX14_eval 249 = .ok (.aload_n 0, 1) := by decide +kernel
theorem dX14_eval_250 : decode cX14_eval 250 = .ok (.getfield 19, 3) := by decide +kernel
theorem dX14_eval_253 : decode cX14_eval 253 = .ok (.getfield 220, 3) := by decide +kernel
theorem dX14_eval_256 : decode cX14_eval 256 = .ok (.iload_n 1, 1) := by decide +kernel
theorem dX14_eval_257 : decode cX14_eval 257 = .ok (.iaload, 1) := by decide +kernel
theorem dX14_eval_258 : decode cX14_eval 258 = .ok (.invokevirtual 582, 3) := by decide +kernel
theorem dX14_eval_261 : decode cX14_eval 261 = .ok (.istore 4, 2) := by decide +kernel
theorem dX14_eval_263 : decode cX14_eval 263 = .ok (.iload_n 2, 1) := by decide +kernel
theorem dX14_eval_264 : decode cX14_eval 264 = .ok (.lookupswitch 171 #[(42, 166), (43, 156), (45, 161), (60, 108), (62, 120), (8509, 96), (15421, 132), (15677, 84), (15933, 144)], 84) := by decide +kernel
theorem dX14_eval_348 : decode cX14_eval 348 = .ok (.iload_n 3, 1) := by decide +kernel
theorem dX14_eval_349 : decode cX14_eval 349 = .ok (.iload 4, 2) := by decide +kernel
theorem dX14_eval_351 : decode cX14_eval 351 = .ok (.if_icmp .ne 7, 3) := by decide +kernel
theorem dX14_eval_354 : decode cX14_eval 354 = .ok (.iconst 1, 1) := by decide +kernel
theorem dX14_eval_355 : decode cX14_eval 355 = .ok (.goto 4, 3) := by decide +kernel
theorem dX14_eval_358 : decode cX14_eval 358 = .ok (.iconst 0, 1) := by decide +kernel
theorem dX14_eval_359 : decode cX14_eval 359 = .ok (.ireturn, 1) := by decide +kernel
theorem dX14_eval_360 : decode cX14_eval 360 = .ok (.iload_n 3, 1) := by decide +kernel
theorem dX14_eval_361 : decode cX14_eval 361 = .ok (.iload 4, 2) := by decide +kernel
theorem dX14_eval_363 : decode cX14_eval 363 = .ok (.if_icmp .eq 7, 3) := by decide +kernel
theorem dX14_eval_366 : decode cX14_eval 366 = .ok (.iconst 1, 1) := by decide +kernel
theorem dX14_eval_367 : decode cX14_eval 367 = .ok (.goto 4, 3) := by decide +kernel
theorem dX14_eval_370 : decode cX14_eval 370 = .ok (.iconst 0, 1) := by decide +kernel
theorem dX14_eval_371 : decode cX14_eval 371 = .ok (.ireturn, 1) := by decide +kernel
theorem dX14_eval_372 : decode cX14_eval 372 = .ok (.iload_n 3, 1) := by decide +kernel
theorem dX14_eval_373 : decode cX14_eval 373 = .ok (.iload 4, 2) := by decide +kernel
theorem dX14_eval_375 : decode cX14_eval 375 = .ok (.if_icmp .ge 7, 3) := by decide +kernel
theorem dX14_eval_378 : decode cX14_eval 378 = .ok (.iconst 1, 1) := by decide +kernel
theorem dX14_eval_379 : decode cX14_eval 379 = .ok (.goto 4, 3) := by decide +kernel
theorem dX14_eval_382 : decode cX14_eval 382 = .ok (.iconst 0, 1) := by decide +kernel
theorem dX14_eval_383 : decode cX14_eval 383 = .ok (.ireturn, 1) := by decide +kernel
theorem dX14_eval_384 : decode cX14_eval 384 = .ok (.iload_n 3, 1) := by decide +kernel
theorem dX14_eval_385 : decode cX14_eval 385 = .ok (.iload 4, 2) := by decide +kernel
theorem dX14_eval_387 : decode cX14_eval 387 = .ok (.if_icmp .le 7, 3) := by decide +kernel
theorem dX14_eval_390 : decode cX14_eval 390 = .ok (.iconst 1, 1) := by decide +kernel
theorem dX14_eval_391 : decode cX14_eval 391 = .ok (.goto 4, 3) := by decide +kernel
theorem dX14_eval_394 : decode cX14_eval 394 = .ok (.iconst 0, 1) := by decide +kernel
theorem dX14_eval_395 : decode cX14_eval 395 = .ok (.ireturn, 1) := by decide +kernel
theorem dX14_eval_396 : decode cX14_eval 396 = .ok (.iload_n 3, 1) := by decide +kernel
theorem dX14_eval_397 : decode cX14_eval 397 = .ok (.iload 4, 2) := by decide +kernel
theorem dX14_eval_399 : decode cX14_eval 399 = .ok (.if_icmp .gt 7, 3) := by decide +kernel
theorem dX14_eval_402 : decode cX14_eval 402 = .ok (.iconst 1, 1) := by decide +kernel
theorem dX14_eval_403 : decode cX14_eval 403 = .ok (.goto 4, 3) := by decide +kernel
theorem dX14_eval_406 : decode cX14_eval 406 = .ok (.iconst 0, 1) := by decide +kernel
theorem dX14_eval_407 : decode cX14_eval 407 = .ok (.ireturn, 1) := by decide +kernel
theorem dX14_eval_408 : decode cX14_eval 408 = .ok (.iload_n 3, 1) := by decide +kernel
theorem dX14_eval_409 : decode cX14_eval 409 = .ok (.iload 4, 2) := by decide +kernel
theorem dX14_eval_411 : decode cX14_eval 411 = .ok (.if_icmp .lt 7, 3) := by decide +kernel
theorem dX14_eval_414 : decode cX14_eval 414 = .ok (.iconst 1, 1) := by decide +kernel
theorem dX14_eval_415 : decode cX14_eval 415 = .ok (.goto 4, 3) := by decide +kernel
theorem dX14_eval_418 : decode cX14_eval 418 = .ok (.iconst 0, 1) := by decide +kernel
theorem dX14_eval_419 : decode cX14_eval 419 = .ok (.ireturn, 1) := by decide +kernel
theorem dX14_eval_420 : decode cX14_eval 420 = .ok (.iload_n 3, 1) := by decide +kernel
theorem dX14_eval_421 : decode cX14_eval 421 = .ok (.iload 4, 2) := by decide +kernel
theorem dX14_eval_423 : decode cX14_eval 423 = .ok (.iadd, 1) := by decide +kernel
theorem dX14_eval_424 : decode cX14_eval 424 = .ok (.ireturn, 1) := by decide +kernel
theorem dX14_eval_425 : decode cX14_eval 425 = .ok (.iload_n 3, 1) := by decide +kernel
theorem dX14_eval_426 : decode cX14_eval 426 = .ok (.iload 4, 2) := by decide +kernel
theorem dX14_eval_428 : decode cX14_eval 428 = .ok (.isub, 1) := by decide +kernel
theorem dX14_eval_429 : decode cX14_eval 429 = .ok (.ireturn, 1) := by decide +kernel
theorem dX14_eval_430 : decode cX14_eval 430 = .ok (.iload_n 3, 1) := by decide +kernel
theorem dX14_eval_431 : decode cX14_eval 431 = .ok (.iload 4, 2) := by decide +kernel
theorem dX14_eval_433 : decode cX14_eval 433 = .ok (.imul, 1) := by decide +kernel
theorem dX14_eval_434 : decode cX14_eval 434 = .ok (.ireturn, 1) := by decide +kernel
theorem dX14_eval_435 : decode cX14_eval 435 = .ok (.iload 4, 2) := by decide +kernel
theorem dX14_eval_437 : decode cX14_eval 437 = .ok (.ifCond .ne 11, 3) := by decide +kernel
theorem dX14_eval_440 : decode cX14_eval 440 = .ok (.aload_n 0, 1) := by decide +kernel
theorem dX14_eval_441 : decode cX14_eval 441 = .ok (.ldc2_w 616, 3) := by decide +kernel
theorem dX14_eval_444 : decode cX14_eval 444 = .ok (.lconst 0, 1) := by decide +kernel
theorem dX14_eval_445 : decode cX14_eval 445 = .ok (.invokevirtual 588, 3) := by decide +kernel
theorem dX14_eval_448 : decode cX14_eval 448 = .ok (.iload 4, 2) := by decide +kernel
theorem dX14_eval_450 : decode cX14_eval 450 = .ok (.iconst (-1), 1) := by decide +kernel
theorem dX14_eval_451 : decode cX14_eval 451 = .ok (.if_icmp .ne 16, 3) := by decide +kernel
theorem dX14_eval_454 : decode cX14_eval 454 = .ok (.iload_n 2, 1) := by decide +kernel
theorem dX14_eval_455 : decode cX14_eval 455 = .ok (.bipush 47, 2) := by decide +kernel
theorem dX14_eval_457 : decode cX14_eval 457 = .ok (.if_icmp .ne 8, 3) := by decide +kernel
theorem dX14_eval_460 : decode cX14_eval 460 = .ok (.iload_n 3, 1) := by decide +kernel
theorem dX14_eval_461 : decode cX14_eval 461 = .ok (.ineg, 1) := by decide +kernel
theorem dX14_eval_462 : decode cX14_eval 462 = .ok (.goto 4, 3) := by decide +kernel
theorem dX14_eval_465 : decode cX14_eval 465 = .ok (.iconst 0, 1) := by decide +kernel
theorem dX14_eval_466 : decode cX14_eval 466 = .ok (.ireturn, 1) := by decide +kernel
theorem dX14_eval_467 : decode cX14_eval 467 = .ok (.iload_n 2, 1) := by decide +kernel
theorem dX14_eval_468 : decode cX14_eval 468 = .ok (.bipush 47, 2) := by decide +kernel
theorem dX14_eval_470 : decode cX14_eval 470 = .ok (.if_icmp .ne 10, 3) := by decide +kernel
theorem dX14_eval_473 : decode cX14_eval 473 = .ok (.iload_n 3, 1) := by decide +kernel
theorem dX14_eval_474 : decode cX14_eval 474 = .ok (.iload 4, 2) := by decide +kernel
theorem dX14_eval_476 : decode cX14_eval 476 = .ok (.idiv, 1) := by decide +kernel
theorem dX14_eval_477 : decode cX14_eval 477 = .ok (.goto 7, 3) := by decide +kernel
theorem dX14_eval_480 : decode cX14_eval 480 = .ok (.iload_n 3, 1) := by decide +kernel
theorem dX14_eval_481 : decode cX14_eval 481 = .ok (.iload 4, 2) := by decide +kernel
theorem dX14_eval_483 : decode cX14_eval 483 = .ok (.irem, 1) := by decide +kernel
theorem dX14_eval_484 : decode cX14_eval 484 = .ok (.ireturn, 1) := by decide +kernel
