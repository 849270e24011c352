theorem t_0 : Cond.selects RX8 yX8_packWords yX8_packWords ∈ lw_g := gg_ (i := 0) (by decide +kernel) (by decide +kernel)
theorem t_184 : Cond.initialized RX8 ∈ lw_g := gg_ (i := 184) (by decide +kernel) (by decide +kernel)
theorem t_185 : Cond.initialized RJ0 ∈ lw_g := gg_ (i := 185) (by decide +kernel) (by decide +kernel)
theorem t_186 : Cond.initialized RJ1 ∈ lw_g := gg_ (i := 186) (by decide +kernel) (by decide +kernel)
theorem t_187 : Cond.initialized RJ3 ∈ lw_g := gg_ (i := 187) (by decide +kernel) (by decide +kernel)
theorem t_225 : Cond.code yX8_init cX8_init 2 none ∈ lw_g := gg_ (i := 225) (by decide +kernel) (by decide +kernel)
theorem t_226 : Cond.methodLink RX8 3 objectInit ∈ lw_g := gg_ (i := 226) (by decide +kernel) (by decide +kernel)
theorem t_228 : Cond.methodLink RX8 35 yX8_packWords ∈ lw_g := gg_ (i := 228) (by decide +kernel) (by decide +kernel)
theorem t_230 : Cond.instanceMethod yX8_packWords ∈ lw_g := gg_ (i := 230) (by decide +kernel) (by decide +kernel)
theorem t_231 : Cond.code yX8_packWords cX8_packWords 8 (some .int) ∈ lw_g := gg_ (i := 231) (by decide +kernel) (by decide +kernel)
theorem t_232 : Cond.methodLink RX8 41 yJ0_length_8abf5 ∈ lw_g := gg_ (i := 232) (by decide +kernel) (by decide +kernel)
theorem t_233 : Cond.instanceMethod yJ0_length_8abf5 ∈ lw_g := gg_ (i := 233) (by decide +kernel) (by decide +kernel)
theorem t_234 : Cond.selects RJ0 yJ0_length_8abf5 yJ0_length_8abf5 ∈ lw_g := gg_ (i := 234) (by decide +kernel) (by decide +kernel)
theorem t_235 : Cond.code yJ0_length_8abf5 cJ0_length_8abf5 1 (some .int) ∈ lw_g := gg_ (i := 235) (by decide +kernel) (by decide +kernel)
theorem t_236 : Cond.methodLink RJ0 335 yJ0_coder_7d493 ∈ lw_g := gg_ (i := 236) (by decide +kernel) (by decide +kernel)
theorem t_237 : Cond.instanceMethod yJ0_coder_7d493 ∈ lw_g := gg_ (i := 237) (by decide +kernel) (by decide +kernel)
theorem t_238 : Cond.selects RJ0 yJ0_coder_7d493 yJ0_coder_7d493 ∈ lw_g := gg_ (i := 238) (by decide +kernel) (by decide +kernel)
theorem t_239 : Cond.code yJ0_coder_7d493 cJ0_coder_7d493 1 (some .byte) ∈ lw_g := gg_ (i := 239) (by decide +kernel) (by decide +kernel)
theorem t_240 : Cond.fieldLink RJ0 38 "java/lang/String" "COMPACT_STRINGS" "Z" ∈ lw_g := gg_ (i := 240) (by decide +kernel) (by decide +kernel)
theorem t_242 : Cond.methodLink RX8 47 yJ0_charAt_5068e ∈ lw_g := gg_ (i := 242) (by decide +kernel) (by decide +kernel)
theorem t_243 : Cond.instanceMethod yJ0_charAt_5068e ∈ lw_g := gg_ (i := 243) (by decide +kernel) (by decide +kernel)
theorem t_244 : Cond.selects RJ0 yJ0_charAt_5068e yJ0_charAt_5068e ∈ lw_g := gg_ (i := 244) (by decide +kernel) (by decide +kernel)
theorem t_245 : Cond.code yJ0_charAt_5068e cJ0_charAt_5068e 2 (some .char) ∈ lw_g := gg_ (i := 245) (by decide +kernel) (by decide +kernel)
theorem t_246 : Cond.methodLink RJ0 492 yJ0_isLatin1_aae02 ∈ lw_g := gg_ (i := 246) (by decide +kernel) (by decide +kernel)
theorem t_247 : Cond.instanceMethod yJ0_isLatin1_aae02 ∈ lw_g := gg_ (i := 247) (by decide +kernel) (by decide +kernel)
theorem t_248 : Cond.selects RJ0 yJ0_isLatin1_aae02 yJ0_isLatin1_aae02 ∈ lw_g := gg_ (i := 248) (by decide +kernel) (by decide +kernel)
theorem t_249 : Cond.code yJ0_isLatin1_aae02 cJ0_isLatin1_aae02 1 (some .boolean) ∈ lw_g := gg_ (i := 249) (by decide +kernel) (by decide +kernel)
theorem t_250 : Cond.methodLink RJ0 495 yJ1_charAt_3b067 ∈ lw_g := gg_ (i := 250) (by decide +kernel) (by decide +kernel)
theorem t_251 : Cond.static yJ1_charAt_3b067 ∈ lw_g := gg_ (i := 251) (by decide +kernel) (by decide +kernel)
theorem t_252 : Cond.code yJ1_charAt_3b067 cJ1_charAt_3b067 2 (some .char) ∈ lw_g := gg_ (i := 252) (by decide +kernel) (by decide +kernel)
theorem t_253 : Cond.methodLink RJ1 9 yJ0_checkIndex_df160 ∈ lw_g := gg_ (i := 253) (by decide +kernel) (by decide +kernel)
theorem t_254 : Cond.static yJ0_checkIndex_df160 ∈ lw_g := gg_ (i := 254) (by decide +kernel) (by decide +kernel)
theorem t_255 : Cond.code yJ0_checkIndex_df160 cJ0_checkIndex_df160 2 none ∈ lw_g := gg_ (i := 255) (by decide +kernel) (by decide +kernel)
theorem t_256 : Cond.fieldLink RJ0 1053 "jdk/internal/util/Preconditions" "SIOOBE_FORMATTER" "Ljava/util/function/BiFunction;" ∈ lw_g := gg_ (i := 256) (by decide +kernel) (by decide +kernel)
theorem t_258 : Cond.methodLink RJ0 1059 yJ3_checkIndex_8e157 ∈ lw_g := gg_ (i := 258) (by decide +kernel) (by decide +kernel)
theorem t_259 : Cond.static yJ3_checkIndex_8e157 ∈ lw_g := gg_ (i := 259) (by decide +kernel) (by decide +kernel)
theorem t_260 : Cond.code yJ3_checkIndex_8e157 cJ3_checkIndex_8e157 3 (some .int) ∈ lw_g := gg_ (i := 260) (by decide +kernel) (by decide +kernel)
theorem t_280 : Cond.methodLink RX8 51 yX8_codeOf ∈ lw_g := gg_ (i := 280) (by decide +kernel) (by decide +kernel)
theorem t_281 : Cond.static yX8_codeOf ∈ lw_g := gg_ (i := 281) (by decide +kernel) (by decide +kernel)
theorem t_282 : Cond.code yX8_codeOf cX8_codeOf 1 (some .int) ∈ lw_g := gg_ (i := 282) (by decide +kernel) (by decide +kernel)
theorem t_283 : Cond.constantLong RX8 55 (38) ∈ lw_g := gg_ (i := 283) (by decide +kernel) (by decide +kernel)
theorem t_285 : Cond.fieldLink RX8 11 "TrialGarden$Tokens" "kinds" "[I" ∈ lw_g := gg_ (i := 285) (by decide +kernel) (by decide +kernel)
theorem t_286 : Cond.fieldLink RX8 15 "TrialGarden$Tokens" "places" "[I" ∈ lw_g := gg_ (i := 286) (by decide +kernel) (by decide +kernel)
theorem t_287 : Cond.fieldLink RX8 18 "TrialGarden$Tokens" "values" "[J" ∈ lw_g := gg_ (i := 287) (by decide +kernel) (by decide +kernel)
theorem t_288 : Cond.fieldLink RX8 22 "TrialGarden$Tokens" "quoted" "[J" ∈ lw_g := gg_ (i := 288) (by decide +kernel) (by decide +kernel)
theorem t_289 : Cond.fieldLink RX8 25 "TrialGarden$Tokens" "tape" "[B" ∈ lw_g := gg_ (i := 289) (by decide +kernel) (by decide +kernel)
theorem t_296 : Cond.fieldLink RX8 29 "TrialGarden$Tokens" "faultPlace" "I" ∈ lw_g := gg_ (i := 296) (by decide +kernel) (by decide +kernel)
theorem t_319 : Cond.arrayClass .byte ∈ lw_g := gg_ (i := 319) (by decide +kernel) (by decide +kernel)
theorem t_2844 : Cond.fieldLink RJ0 9 "java/lang/String" "value" "[B" ∈ lw_g := gg_ (i := 2844) (by decide +kernel) (by decide +kernel)
theorem t_2845 : Cond.fieldLink RJ0 15 "java/lang/String" "coder" "B" ∈ lw_g := gg_ (i := 2845) (by decide +kernel) (by decide +kernel)
theorem dX8_init_0 : decode cX8_init 0 = .ok (.aload_n 0, 1) := by decide +kernel
theorem dX8_init_1 : decode cX8_init 1 = .ok (.invokespecial 3, 3) := by decide +kernel
theorem dX8_init_4 : decode cX8_init 4 = .ok (.aload_n 0, 1) := by decide +kernel
theorem dX8_init_5 : decode cX8_init 5 = .ok (.sipush 1202, 3) := by decide +kernel
theorem dX8_init_8 : decode cX8_init 8 = .ok (.newarray .int, 2) := by decide +kernel
theorem dX8_init_10 : decode cX8_init 10 = .ok (.putfield 11, 3) := by decide +kernel
theorem dX8_init_13 : decode cX8_init 13 = .ok (.aload_n 0, 1) := by decide +kernel
theorem dX8_init_14 : decode cX8_init 14 = .ok (.sipush 1202, 3) := by decide +kernel
theorem dX8_init_17 : decode cX8_init 17 = .ok (.newarray .int, 2) := by decide +kernel
theorem dX8_init_19 : decode cX8_init 19 = .ok (.putfield 15, 3) := by decide +kernel
theorem dX8_init_22 : decode cX8_init 22 = .ok (.aload_n 0, 1) := by decide +kernel
theorem dX8_init_23 : decode cX8_init 23 = .ok (.sipush 1202, 3) := by decide +kernel
theorem dX8_init_26 : decode cX8_init 26 = .ok (.newarray .long, 2) := by decide +kernel
theorem dX8_init_28 : decode cX8_init 28 = .ok (.putfield 18, 3) := by decide +kernel
theorem dX8_init_31 : decode cX8_init 31 = .ok (.aload_n 0, 1) := by decide +kernel
theorem dX8_init_32 : decode cX8_init 32 = .ok (.bipush 21, 2) := by decide +kernel
theorem dX8_init_34 : decode cX8_init 34 = .ok (.newarray .long, 2) := by decide +kernel
theorem dX8_init_36 : decode cX8_init 36 = .ok (.putfield 22, 3) := by decide +kernel
theorem dX8_init_39 : decode cX8_init 39 = .ok (.aload_n 0, 1) := by decide +kernel
theorem dX8_init_40 : decode cX8_init 40 = .ok (.iconst 0, 1) := by decide +kernel
theorem dX8_init_41 : decode cX8_init 41 = .ok (.newarray .byte, 2) := by decide +kernel
theorem dX8_init_43 : decode cX8_init 43 = .ok (.putfield 25, 3) := by decide +kernel
theorem dX8_init_46 : decode cX8_init 46 = .ok (.aload_n 0, 1) := by decide +kernel
theorem dX8_init_47 : decode cX8_init 47 = .ok (.iconst (-1), 1) := by decide +kernel
theorem dX8_init_48 : decode cX8_init 48 = .ok (.putfield 29, 3) := by decide +kernel
theorem dX8_init_51 : decode cX8_init 51 = .ok (.aload_n 0, 1) := by decide +kernel
theorem dX8_init_52 : decode cX8_init 52 = .ok (.ldc 33, 2) := by decide +kernel
theorem dX8_init_54 : decode cX8_init 54 = .ok (.iconst 0, 1) := by decide +kernel
theorem dX8_init_55 : decode cX8_init 55 = .ok (.invokevirtual 35, 3) := by decide +kernel
theorem dX8_init_58 : decode cX8_init 58 = .ok (.istore_n 1, 1) := by decide +kernel
theorem dX8_init_59 : decode cX8_init 59 = .ok (.aload_n 0, 1) := by decide +kernel
theorem dX8_init_60 : decode cX8_init 60 = .ok (.ldc 39, 2) := by decide +kernel
theorem dX8_init_62 : decode cX8_init 62 = .ok (.iload_n 1, 1) := by decide +kernel
theorem dX8_init_63 : decode cX8_init 63 = .ok (.invokevirtual 35, 3) := by decide +kernel
theorem dX8_init_66 : decode cX8_init 66 = .ok (.pop, 1) := by decide +kernel
theorem dX8_init_67 : decode cX8_init 67 = .ok (.return_, 1) := by decide +kernel
theorem dX8_packWords_0 : decode cX8_packWords 0 = .ok (.iload_n 2, 1) := by decide +kernel
theorem dX8_packWords_1 : decode cX8_packWords 1 = .ok (.istore_n 3, 1) := by decide +kernel
theorem dX8_packWords_2 : decode cX8_packWords 2 = .ok (.lconst 0, 1) := by decide +kernel
theorem dX8_packWords_3 : decode cX8_packWords 3 = .ok (.lstore 4, 2) := by decide +kernel
theorem dX8_packWords_5 : decode cX8_packWords 5 = .ok (.iconst 0, 1) := by decide +kernel
theorem dX8_packWords_6 : decode cX8_packWords 6 = .ok (.istore 6, 2) := by decide +kernel
theorem dX8_packWords_8 : decode cX8_packWords 8 = .ok (.iload 6, 2) := by decide +kernel
theorem dX8_packWords_10 : decode cX8_packWords 10 = .ok (.aload_n 1, 1) := by decide +kernel
theorem dX8_packWords_11 : decode cX8_packWords 11 = .ok (.invokevirtual 41, 3) := by decide +kernel
theorem dX8_packWords_14 : decode cX8_packWords 14 = .ok (.if_icmp .ge 60, 3) := by decide +kernel
theorem dX8_packWords_17 : decode cX8_packWords 17 = .ok (.iload_n 3, 1) := by decide +kernel
theorem dX8_packWords_18 : decode cX8_packWords 18 = .ok (.bipush 21, 2) := by decide +kernel
theorem dX8_packWords_20 : decode cX8_packWords 20 = .ok (.if_icmp .ge 54, 3) := by decide +kernel
theorem dX8_packWords_23 : decode cX8_packWords 23 = .ok (.aload_n 1, 1) := by decide +kernel
theorem dX8_packWords_24 : decode cX8_packWords 24 = .ok (.iload 6, 2) := by decide +kernel
theorem dX8_packWords_26 : decode cX8_packWords 26 = .ok (.invokevirtual 47, 3) := by decide +kernel
theorem dX8_packWords_29 : decode cX8_packWords 29 = .ok (.invokestatic 51, 3) := by decide +kernel
theorem dX8_packWords_32 : decode cX8_packWords 32 = .ok (.istore 7, 2) := by decide +kernel
theorem dX8_packWords_34 : decode cX8_packWords 34 = .ok (.iload 7, 2) := by decide +kernel
theorem dX8_packWords_36 : decode cX8_packWords 36 = .ok (.ifCond .le 18, 3) := by decide +kernel
theorem dX8_packWords_39 : decode cX8_packWords 39 = .ok (.lload 4, 2) := by decide +kernel
theorem dX8_packWords_41 : decode cX8_packWords 41 = .ok (.ldc2_w 55, 3) := by decide +kernel
theorem dX8_packWords_44 : decode cX8_packWords 44 = .ok (.lmul, 1) := by decide +kernel
theorem dX8_packWords_45 : decode cX8_packWords 45 = .ok (.iload 7, 2) := by decide +kernel
theorem dX8_packWords_47 : decode cX8_packWords 47 = .ok (.i2l, 1) := by decide +kernel
theorem dX8_packWords_48 : decode cX8_packWords 48 = .ok (.ladd, 1) := by decide +kernel
theorem dX8_packWords_49 : decode cX8_packWords 49 = .ok (.lstore 4, 2) := by decide +kernel
theorem dX8_packWords_51 : decode cX8_packWords 51 = .ok (.goto 17, 3) := by decide +kernel
theorem dX8_packWords_54 : decode cX8_packWords 54 = .ok (.aload_n 0, 1) := by decide +kernel
theorem dX8_packWords_55 : decode cX8_packWords 55 = .ok (.getfield 22, 3) := by decide +kernel
theorem dX8_packWords_58 : decode cX8_packWords 58 = .ok (.iload_n 3, 1) := by decide +kernel
theorem dX8_packWords_59 : decode cX8_packWords 59 = .ok (.lload 4, 2) := by decide +kernel
theorem dX8_packWords_61 : decode cX8_packWords 61 = .ok (.lastore, 1) := by decide +kernel
theorem dX8_packWords_62 : decode cX8_packWords 62 = .ok (.iinc 3 1, 3) := by decide +kernel
theorem dX8_packWords_65 : decode cX8_packWords 65 = .ok (.lconst 0, 1) := by decide +kernel
theorem dX8_packWords_66 : decode cX8_packWords 66 = .ok (.lstore 4, 2) := by decide +kernel
theorem dX8_packWords_68 : decode cX8_packWords 68 = .ok (.iinc 6 1, 3) := by decide +kernel
theorem dX8_packWords_71 : decode cX8_packWords 71 = .ok (.goto (-63), 3) := by decide +kernel
theorem dX8_packWords_74 : decode cX8_packWords 74 = .ok (.iload_n 3, 1) := by decide +kernel
theorem dX8_packWords_75 : decode cX8_packWords 75 = .ok (.ireturn, 1) := by decide +kernel
theorem dX8_codeOf_0 : decode cX8_codeOf 0 = .ok (.iload_n 0, 1) := by decide +kernel
theorem dX8_codeOf_1 : decode cX8_codeOf 1 = .ok (.bipush 97, 2) := by decide +kernel
theorem dX8_codeOf_3 : decode cX8_codeOf 3 = .ok (.if_icmp .lt 16, 3) := by decide +kernel
theorem dX8_codeOf_6 : decode cX8_codeOf 6 = .ok (.iload_n 0, 1) := by decide +kernel
theorem dX8_codeOf_7 : decode cX8_codeOf 7 = .ok (.bipush 122, 2) := by decide +kernel
theorem dX8_codeOf_9 : decode cX8_codeOf 9 = .ok (.if_icmp .gt 10, 3) := by decide +kernel
theorem dX8_codeOf_12 : decode cX8_codeOf 12 = .ok (.iload_n 0, 1) := by decide +kernel
theorem dX8_codeOf_13 : decode cX8_codeOf 13 = .ok (.bipush 97, 2) := by decide +kernel
theorem dX8_codeOf_15 : decode cX8_codeOf 15 = .ok (.isub, 1) := by decide +kernel
theorem dX8_codeOf_16 : decode cX8_codeOf 16 = .ok (.iconst 1, 1) := by decide +kernel
theorem dX8_codeOf_17 : decode cX8_codeOf 17 = .ok (.iadd, 1) := by decide +kernel
theorem dX8_codeOf_18 : decode cX8_codeOf 18 = .ok (.ireturn, 1) := by decide +kernel
theorem dX8_codeOf_19 : decode cX8_codeOf 19 = .ok (.iload_n 0, 1) := by decide +kernel
theorem dX8_codeOf_20 : decode cX8_codeOf 20 = .ok (.bipush 48, 2) := by decide +kernel
theorem dX8_codeOf_22 : decode cX8_codeOf 22 = .ok (.if_icmp .lt 17, 3) := by decide +kernel
theorem dX8_codeOf_25 : decode cX8_codeOf 25 = .ok (.iload_n 0, 1) := by decide +kernel
theorem dX8_codeOf_26 : decode cX8_codeOf 26 = .ok (.bipush 57, 2) := by decide +kernel
theorem dX8_codeOf_28 : decode cX8_codeOf 28 = .ok (.if_icmp .gt 11, 3) := by decide +kernel
theorem dX8_codeOf_31 : decode cX8_codeOf 31 = .ok (.iload_n 0, 1) := by decide +kernel
theorem dX8_codeOf_32 : decode cX8_codeOf 32 = .ok (.bipush 48, 2) := by decide +kernel
theorem dX8_codeOf_34 : decode cX8_codeOf 34 = .ok (.isub, 1) := by decide +kernel
theorem dX8_codeOf_35 : decode cX8_codeOf 35 = .ok (.bipush 27, 2) := by decide +kernel
theorem dX8_codeOf_37 : decode cX8_codeOf 37 = .ok (.iadd, 1) := by decide +kernel
theorem dX8_codeOf_38 : decode cX8_codeOf 38 = .ok (.ireturn, 1) := by decide +kernel
theorem dX8_codeOf_39 : decode cX8_codeOf 39 = .ok (.iload_n 0, 1) := by decide +kernel
theorem dX8_codeOf_40 : decode cX8_codeOf 40 = .ok (.bipush 95, 2) := by decide +kernel
theorem dX8_codeOf_42 : decode cX8_codeOf 42 = .ok (.if_icmp .ne 8, 3) := by decide +kernel
theorem dX8_codeOf_45 : decode cX8_codeOf 45 = .ok (.bipush 37, 2) := by decide +kernel
theorem dX8_codeOf_47 : decode cX8_codeOf 47 = .ok (.goto 4, 3) := by decide +kernel
theorem dX8_codeOf_50 : decode cX8_codeOf 50 = .ok (.iconst 0, 1) := by decide +kernel
theorem dX8_codeOf_51 : decode cX8_codeOf 51 = .ok (.ireturn, 1) := by decide +kernel
theorem dJ0_length_8abf5_0 : decode cJ0_length_8abf5 0 = .ok (.aload_n 0, 1) := by decide +kernel
theorem dJ0_length_8abf5_1 : decode cJ0_length_8abf5 1 = .ok (.getfield 9, 3) := by decide +kernel
theorem dJ0_length_8abf5_4 : decode cJ0_length_8abf5 4 = .ok (.arraylength, 1) := by decide +kernel
theorem dJ0_length_8abf5_5 : decode cJ0_length_8abf5 5 = .ok (.aload_n 0, 1) := by decide +kernel
theorem dJ0_length_8abf5_6 : decode cJ0_length_8abf5 6 = .ok (.invokevirtual 335, 3) := by decide +kernel
theorem dJ0_length_8abf5_9 : decode cJ0_length_8abf5 9 = .ok (.ishr, 1) := by decide +kernel
theorem dJ0_length_8abf5_10 : decode cJ0_length_8abf5 10 = .ok (.ireturn, 1) := by decide +kernel
theorem dJ0_charAt_5068e_0 : decode cJ0_charAt_5068e 0 = .ok (.aload_n 0, 1) := by decide +kernel
theorem dJ0_charAt_5068e_1 : decode cJ0_charAt_5068e 1 = .ok (.invokevirtual 492, 3) := by decide +kernel
theorem dJ0_charAt_5068e_4 : decode cJ0_charAt_5068e 4 = .ok (.ifCond .eq 12, 3) := by decide +kernel
theorem dJ0_charAt_5068e_7 : decode cJ0_charAt_5068e 7 = .ok (.aload_n 0, 1) := by decide +kernel
theorem dJ0_charAt_5068e_8 : decode cJ0_charAt_5068e 8 = .ok (.getfield 9, 3) := by decide +kernel
theorem dJ0_charAt_5068e_11 : decode cJ0_charAt_5068e 11 = .ok (.iload_n 1, 1) := by decide +kernel
theorem dJ0_charAt_5068e_12 : decode cJ0_charAt_5068e 12 = .ok (.invokestatic 495, 3) := by decide +kernel
theorem dJ0_charAt_5068e_15 : decode cJ0_charAt_5068e 15 = .ok (.ireturn, 1) := by decide +kernel
theorem dJ0_charAt_5068e_16 : decode cJ0_charAt_5068e 16 = .ok (.aload_n 0, 1) := by decide +kernel
theorem dJ0_charAt_5068e_17 : decode cJ0_charAt_5068e 17 = .ok (.getfield 9, 3) := by decide +kernel
theorem dJ0_charAt_5068e_20 : decode cJ0_charAt_5068e 20 = .ok (.iload_n 1, 1) := by decide +kernel
theorem dJ0_charAt_5068e_21 : decode cJ0_charAt_5068e 21 = .ok (.invokestatic 498, 3) := by decide +kernel
theorem dJ0_charAt_5068e_24 : decode cJ0_charAt_5068e 24 = .ok (.ireturn, 1) := by decide +kernel
theorem dJ0_coder_7d493_0 : decode cJ0_coder_7d493 0 = .ok (.getstatic 38, 3) := by decide +kernel
theorem dJ0_coder_7d493_3 : decode cJ0_coder_7d493 3 = .ok (.ifCond .eq 10, 3) := by decide +kernel
theorem dJ0_coder_7d493_6 : decode cJ0_coder_7d493 6 = .ok (.aload_n 0, 1) := by decide +kernel
theorem dJ0_coder_7d493_7 : decode cJ0_coder_7d493 7 = .ok (.getfield 15, 3) := by decide +kernel
theorem dJ0_coder_7d493_10 : decode cJ0_coder_7d493 10 = .ok (.goto 4, 3) := by decide +kernel
theorem dJ0_coder_7d493_13 : decode cJ0_coder_7d493 13 = .ok (.iconst 1, 1) := by decide +kernel
theorem dJ0_coder_7d493_14 : decode cJ0_coder_7d493 14 = .ok (.ireturn, 1) := by decide +kernel
theorem dJ0_isLatin1_aae02_0 : decode cJ0_isLatin1_aae02 0 = .ok (.getstatic 38, 3) := by decide +kernel
theorem dJ0_isLatin1_aae02_3 : decode cJ0_isLatin1_aae02 3 = .ok (.ifCond .eq 14, 3) := by decide +kernel
theorem dJ0_isLatin1_aae02_6 : decode cJ0_isLatin1_aae02 6 = .ok (.aload_n 0, 1) := by decide +kernel
theorem dJ0_isLatin1_aae02_7 : decode cJ0_isLatin1_aae02 7 = .ok (.getfield 15, 3) := by decide +kernel
theorem dJ0_isLatin1_aae02_10 : decode cJ0_isLatin1_aae02 10 = .ok (.ifCond .ne 7, 3) := by decide +kernel
theorem dJ0_isLatin1_aae02_13 : decode cJ0_isLatin1_aae02 13 = .ok (.iconst 1, 1) := by decide +kernel
theorem dJ0_isLatin1_aae02_14 : decode cJ0_isLatin1_aae02 14 = .ok (.goto 4, 3) := by decide +kernel
theorem dJ0_isLatin1_aae02_17 : decode cJ0_isLatin1_aae02 17 = .ok (.iconst 0, 1) := by decide +kernel
theorem dJ0_isLatin1_aae02_18 : decode cJ0_isLatin1_aae02 18 = .ok (.ireturn, 1) := by decide +kernel
theorem dJ0_checkIndex_df160_0 : decode cJ0_checkIndex_df160 0 = .ok (.iload_n 0, 1) := by decide +kernel
theorem dJ0_checkIndex_df160_1 : decode cJ0_checkIndex_df160 1 = .ok (.iload_n 1, 1) := by decide +kernel
theorem dJ0_checkIndex_df160_2 : decode cJ0_checkIndex_df160 2 = .ok (.getstatic 1053, 3) := by decide +kernel
theorem dJ0_checkIndex_df160_5 : decode cJ0_checkIndex_df160 5 = .ok (.invokestatic 1059, 3) := by decide +kernel
theorem dJ0_checkIndex_df160_8 : decode cJ0_checkIndex_df160 8 = .ok (.pop, 1) := by decide +kernel
theorem dJ0_checkIndex_df160_9 : decode cJ0_checkIndex_df160 9 = .ok (.return_, 1) := by decide +kernel
theorem dJ1_charAt_3b067_0 : decode cJ1_charAt_3b067 0 = .ok (.iload_n 1, 1) := by decide +kernel
theorem dJ1_charAt_3b067_1 : decode cJ1_charAt_3b067 1 = .ok (.aload_n 0, 1) := by decide +kernel
theorem dJ1_charAt_3b067_2 : decode cJ1_charAt_3b067 2 = .ok (.arraylength, 1) := by decide +kernel
theorem dJ1_charAt_3b067_3 : decode cJ1_charAt_3b067 3 = .ok (.invokestatic 9, 3) := by decide +kernel
theorem dJ1_charAt_3b067_6 : decode cJ1_charAt_3b067 6 = .ok (.aload_n 0, 1) := by decide +kernel
theorem dJ1_charAt_3b067_7 : decode cJ1_charAt_3b067 7 = .ok (.iload_n 1, 1) := by decide +kernel
theorem dJ1_charAt_3b067_8 : decode cJ1_charAt_3b067 8 = .ok (.baload, 1) := by decide +kernel
theorem dJ1_charAt_3b067_9 : decode cJ1_charAt_3b067 9 = .ok (.sipush 255, 3) := by decide +kernel
theorem dJ1_charAt_3b067_12 : decode cJ1_charAt_3b067 12 = .ok (.iand, 1) := by decide +kernel
theorem dJ1_charAt_3b067_13 : decode cJ1_charAt_3b067 13 = .ok (.i2c, 1) := by decide +kernel
theorem dJ1_charAt_3b067_14 : decode cJ1_charAt_3b067 14 = .ok (.ireturn, 1) := by decide +kernel
theorem dJ3_checkIndex_8e157_0 : decode cJ3_checkIndex_8e157 0 = .ok (.iload_n 0, 1) := by decide +kernel
theorem dJ3_checkIndex_8e157_1 : decode cJ3_checkIndex_8e157 1 = .ok (.ifCond .lt 8, 3) := by decide +kernel
theorem dJ3_checkIndex_8e157_4 : decode cJ3_checkIndex_8e157 4 = .ok (.iload_n 0, 1) := by decide +kernel
theorem dJ3_checkIndex_8e157_5 : decode cJ3_checkIndex_8e157 5 = .ok (.iload_n 1, 1) := by decide +kernel
theorem dJ3_checkIndex_8e157_6 : decode cJ3_checkIndex_8e157 6 = .ok (.if_icmp .lt 10, 3) := by decide +kernel
theorem dJ3_checkIndex_8e157_9 : decode cJ3_checkIndex_8e157 9 = .ok (.aload_n 2, 1) := by decide +kernel
theorem dJ3_checkIndex_8e157_10 : decode cJ3_checkIndex_8e157 10 = .ok (.iload_n 0, 1) := by decide +kernel
theorem dJ3_checkIndex_8e157_11 : decode cJ3_checkIndex_8e157 11 = .ok (.iload_n 1, 1) := by decide +kernel
theorem dJ3_checkIndex_8e157_12 : decode cJ3_checkIndex_8e157 12 = .ok (.invokestatic 95, 3) := by decide +kernel
theorem dJ3_checkIndex_8e157_15 : decode cJ3_checkIndex_8e157 15 = .ok (.athrow, 1) := by decide +kernel
theorem dJ3_checkIndex_8e157_16 : decode cJ3_checkIndex_8e157 16 = .ok (.iload_n 0, 1) := by decide +kernel
theorem dJ3_checkIndex_8e157_17 : decode cJ3_checkIndex_8e157 17 = .ok (.ireturn, 1) := by decide +kernel
