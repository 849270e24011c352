theorem t_3 : Cond.selects RX8 yX8_byteAt yX8_byteAt ∈ lw_g := gg_ (i := 3) (by decide +kernel) (by decide +kernel)
theorem t_184 : Cond.initialized RX8 ∈ lw_g := gg_ (i := 184) (by decide +kernel) (by decide +kernel)
theorem t_282 : Cond.code yX8_codeOf cX8_codeOf 1 (some .int) ∈ lw_g := gg_ (i := 282) (by decide +kernel) (by decide +kernel)
theorem t_283 : Cond.constantLong RX8 55 (38) ∈ lw_g := gg_ (i := 283) (by decide +kernel) (by decide +kernel)
theorem t_285 : Cond.fieldLink RX8 11 "TrialGarden$Tokens" "kinds" "[I" ∈ lw_g := gg_ (i := 285) (by decide +kernel) (by decide +kernel)
theorem t_286 : Cond.fieldLink RX8 15 "TrialGarden$Tokens" "places" "[I" ∈ lw_g := gg_ (i := 286) (by decide +kernel) (by decide +kernel)
theorem t_287 : Cond.fieldLink RX8 18 "TrialGarden$Tokens" "values" "[J" ∈ lw_g := gg_ (i := 287) (by decide +kernel) (by decide +kernel)
theorem t_288 : Cond.fieldLink RX8 22 "TrialGarden$Tokens" "quoted" "[J" ∈ lw_g := gg_ (i := 288) (by decide +kernel) (by decide +kernel)
theorem t_289 : Cond.fieldLink RX8 25 "TrialGarden$Tokens" "tape" "[B" ∈ lw_g := gg_ (i := 289) (by decide +kernel) (by decide +kernel)
theorem t_290 : Cond.fieldLink RX8 63 "TrialGarden$Tokens" "length" "I" ∈ lw_g := gg_ (i := 290) (by decide +kernel) (by decide +kernel)
theorem t_291 : Cond.fieldLink RX8 65 "TrialGarden$Tokens" "at" "I" ∈ lw_g := gg_ (i := 291) (by decide +kernel) (by decide +kernel)
theorem t_292 : Cond.fieldLink RX8 80 "TrialGarden$Tokens" "bracketBehindAll" "Z" ∈ lw_g := gg_ (i := 292) (by decide +kernel) (by decide +kernel)
theorem t_295 : Cond.fieldLink RX8 68 "TrialGarden$Tokens" "faultKind" "I" ∈ lw_g := gg_ (i := 295) (by decide +kernel) (by decide +kernel)
theorem t_296 : Cond.fieldLink RX8 29 "TrialGarden$Tokens" "faultPlace" "I" ∈ lw_g := gg_ (i := 296) (by decide +kernel) (by decide +kernel)
theorem t_1003 : Cond.code yX8_behindBlanks cX8_behindBlanks 3 (some .int) ∈ lw_g := gg_ (i := 1003) (by decide +kernel) (by decide +kernel)
theorem t_1004 : Cond.methodLink RX8 77 yX8_byteAt ∈ lw_g := gg_ (i := 1004) (by decide +kernel) (by decide +kernel)
theorem t_1006 : Cond.instanceMethod yX8_byteAt ∈ lw_g := gg_ (i := 1006) (by decide +kernel) (by decide +kernel)
theorem t_1007 : Cond.code yX8_byteAt cX8_byteAt 2 (some .int) ∈ lw_g := gg_ (i := 1007) (by decide +kernel) (by decide +kernel)
theorem t_1020 : Cond.constantLong RX8 98 (10) ∈ lw_g := gg_ (i := 1020) (by decide +kernel) (by decide +kernel)
theorem t_1023 : Cond.code yX8_pairKind cX8_pairKind 2 (some .int) ∈ lw_g := gg_ (i := 1023) (by decide +kernel) (by decide +kernel)
theorem t_1101 : Cond.code yX8_take cX8_take 2 none ∈ lw_g := gg_ (i := 1101) (by decide +kernel) (by decide +kernel)
theorem t_1102 : Cond.methodLink RX8 100 yX8_next ∈ lw_g := gg_ (i := 1102) (by decide +kernel) (by decide +kernel)
theorem t_1103 : Cond.instanceMethod yX8_next ∈ lw_g := gg_ (i := 1103) (by decide +kernel) (by decide +kernel)
theorem t_1104 : Cond.selects RX8 yX8_next yX8_next ∈ lw_g := gg_ (i := 1104) (by decide +kernel) (by decide +kernel)
theorem t_1105 : Cond.code yX8_next cX8_next 1 none ∈ lw_g := gg_ (i := 1105) (by decide +kernel) (by decide +kernel)
theorem t_1106 : Cond.methodLink RX8 103 yX8_fail ∈ lw_g := gg_ (i := 1106) (by decide +kernel) (by decide +kernel)
theorem t_1107 : Cond.instanceMethod yX8_fail ∈ lw_g := gg_ (i := 1107) (by decide +kernel) (by decide +kernel)
theorem t_1108 : Cond.selects RX8 yX8_fail yX8_fail ∈ lw_g := gg_ (i := 1108) (by decide +kernel) (by decide +kernel)
theorem t_1109 : Cond.code yX8_fail cX8_fail 4 none ∈ lw_g := gg_ (i := 1109) (by decide +kernel) (by decide +kernel)
theorem t_1113 : Cond.code yX8_place cX8_place 1 (some .int) ∈ lw_g := gg_ (i := 1113) (by decide +kernel) (by decide +kernel)
theorem t_1117 : Cond.code yX8_value cX8_value 1 (some .long) ∈ lw_g := gg_ (i := 1117) (by decide +kernel) (by decide +kernel)
theorem t_1121 : Cond.code yX8_kind cX8_kind 1 (some .int) ∈ lw_g := gg_ (i := 1121) (by decide +kernel) (by decide +kernel)
theorem t_1242 : Cond.code yX8_atBracket cX8_atBracket 1 (some .boolean) ∈ lw_g := gg_ (i := 1242) (by decide +kernel) (by decide +kernel)
theorem dX8_codeOf_0 : decode cX8_codeOf 0 = .ok (.iload_n 0, 1) := by decide +kernel
theorem dX8_codeOf_1 : decode cX8_codeOf 1 = .ok (.bipush 97, 2) := by decide +kernel
theorem dX8_codeOf_3 : decode cX8_codeOf 3 = .ok (.if_icmp .lt 16, 3) := by decide +kernel
theorem dX8_codeOf_6 : decode cX8_codeOf 6 = .ok (.iload_n 0, 1) := by decide +kernel
theorem dX8_codeOf_7 : decode cX8_codeOf 7 = .ok (.bipush 122, 2) := by decide +kernel
theorem dX8_codeOf_9 : decode cX8_codeOf 9 = .ok (.if_icmp .gt 10, 3) := by decide +kernel
theorem dX8_codeOf_12 : decode cX8_codeOf 12 = .ok (.iload_n 0, 1) := by decide +kernel
theorem dX8_codeOf_13 : decode cX8_codeOf 13 = .ok (.bipush 97, 2) := by decide +kernel
theorem dX8_codeOf_15 : decode cX8_codeOf 15 = .ok (.isub, 1) := by decide +kernel
theorem dX8_codeOf_16 : decode cX8_codeOf 16 = .ok (.iconst 1, 1) := by decide +kernel
theorem dX8_codeOf_17 : decode cX8_codeOf 17 = .ok (.iadd, 1) := by decide +kernel
theorem dX8_codeOf_18 : decode cX8_codeOf 18 = .ok (.ireturn, 1) := by decide +kernel
theorem dX8_codeOf_19 : decode cX8_codeOf 19 = .ok (.iload_n 0, 1) := by decide +kernel
theorem dX8_codeOf_20 : decode cX8_codeOf 20 = .ok (.bipush 48, 2) := by decide +kernel
theorem dX8_codeOf_22 : decode cX8_codeOf 22 = .ok (.if_icmp .lt 17, 3) := by decide +kernel
theorem dX8_codeOf_25 : decode cX8_codeOf 25 = .ok (.iload_n 0, 1) := by decide +kernel
theorem dX8_codeOf_26 : decode cX8_codeOf 26 = .ok (.bipush 57, 2) := by decide +kernel
theorem dX8_codeOf_28 : decode cX8_codeOf 28 = .ok (.if_icmp .gt 11, 3) := by decide +kernel
theorem dX8_codeOf_31 : decode cX8_codeOf 31 = .ok (.iload_n 0, 1) := by decide +kernel
theorem dX8_codeOf_32 : decode cX8_codeOf 32 = .ok (.bipush 48, 2) := by decide +kernel
theorem dX8_codeOf_34 : decode cX8_codeOf 34 = .ok (.isub, 1) := by decide +kernel
theorem dX8_codeOf_35 : decode cX8_codeOf 35 = .ok (.bipush 27, 2) := by decide +kernel
theorem dX8_codeOf_37 : decode cX8_codeOf 37 = .ok (.iadd, 1) := by decide +kernel
theorem dX8_codeOf_38 : decode cX8_codeOf 38 = .ok (.ireturn, 1) := by decide +kernel
theorem dX8_codeOf_39 : decode cX8_codeOf 39 = .ok (.iload_n 0, 1) := by decide +kernel
theorem dX8_codeOf_40 : decode cX8_codeOf 40 = .ok (.bipush 95, 2) := by decide +kernel
theorem dX8_codeOf_42 : decode cX8_codeOf 42 = .ok (.if_icmp .ne 8, 3) := by decide +kernel
theorem dX8_codeOf_45 : decode cX8_codeOf 45 = .ok (.bipush 37, 2) := by decide +kernel
theorem dX8_codeOf_47 : decode cX8_codeOf 47 = .ok (.goto 4, 3) := by decide +kernel
theorem dX8_codeOf_50 : decode cX8_codeOf 50 = .ok (.iconst 0, 1) := by decide +kernel
theorem dX8_codeOf_51 : decode cX8_codeOf 51 = .ok (.ireturn, 1) := by decide +kernel
theorem dX8_letterOf_0 : decode cX8_letterOf 0 = .ok (.iconst 0, 1) := by decide +kernel
theorem dX8_letterOf_1 : decode cX8_letterOf 1 = .ok (.istore_n 3, 1) := by decide +kernel
theorem dX8_letterOf_2 : decode cX8_letterOf 2 = .ok (.lload_n 0, 1) := by decide +kernel
theorem dX8_letterOf_3 : decode cX8_letterOf 3 = .ok (.lstore 4, 2) := by decide +kernel
theorem dX8_letterOf_5 : decode cX8_letterOf 5 = .ok (.lload 4, 2) := by decide +kernel
theorem dX8_letterOf_7 : decode cX8_letterOf 7 = .ok (.lconst 0, 1) := by decide +kernel
theorem dX8_letterOf_8 : decode cX8_letterOf 8 = .ok (.lcmp, 1) := by decide +kernel
theorem dX8_letterOf_9 : decode cX8_letterOf 9 = .ok (.ifCond .le 23, 3) := by decide +kernel
theorem dX8_letterOf_12 : decode cX8_letterOf 12 = .ok (.iload_n 3, 1) := by decide +kernel
theorem dX8_letterOf_13 : decode cX8_letterOf 13 = .ok (.bipush 12, 2) := by decide +kernel
theorem dX8_letterOf_15 : decode cX8_letterOf 15 = .ok (.if_icmp .ge 17, 3) := by decide +kernel
theorem dX8_letterOf_18 : decode cX8_letterOf 18 = .ok (.iinc 3 1, 3) := by decide +kernel
theorem dX8_letterOf_21 : decode cX8_letterOf 21 = .ok (.lload 4, 2) := by decide +kernel
theorem dX8_letterOf_23 : decode cX8_letterOf 23 = .ok (.ldc2_w 55, 3) := by decide +kernel
theorem dX8_letterOf_26 : decode cX8_letterOf 26 = .ok (.ldiv, 1) := by decide +kernel
theorem dX8_letterOf_27 : decode cX8_letterOf 27 = .ok (.lstore 4, 2) := by decide +kernel
theorem dX8_letterOf_29 : decode cX8_letterOf 29 = .ok (.goto (-24), 3) := by decide +kernel
theorem dX8_letterOf_32 : decode cX8_letterOf 32 = .ok (.iload_n 2, 1) := by decide +kernel
theorem dX8_letterOf_33 : decode cX8_letterOf 33 = .ok (.ifCond .lt 8, 3) := by decide +kernel
theorem dX8_letterOf_36 : decode cX8_letterOf 36 = .ok (.iload_n 2, 1) := by decide +kernel
theorem dX8_letterOf_37 : decode cX8_letterOf 37 = .ok (.iload_n 3, 1) := by decide +kernel
theorem dX8_letterOf_38 : decode cX8_letterOf 38 = .ok (.if_icmp .lt 5, 3) := by decide +kernel
theorem dX8_letterOf_41 : decode cX8_letterOf 41 = .ok (.iconst (-1), 1) := by decide +kernel
theorem dX8_letterOf_42 : decode cX8_letterOf 42 = .ok (.ireturn, 1) := by decide +kernel
theorem dX8_letterOf_43 : decode cX8_letterOf 43 = .ok (.lload_n 0, 1) := by decide +kernel
theorem dX8_letterOf_44 : decode cX8_letterOf 44 = .ok (.lstore 4, 2) := by decide +kernel
theorem dX8_letterOf_46 : decode cX8_letterOf 46 = .ok (.iload_n 3, 1) := by decide +kernel
theorem dX8_letterOf_47 : decode cX8_letterOf 47 = .ok (.iconst 1, 1) := by decide +kernel
theorem dX8_letterOf_48 : decode cX8_letterOf 48 = .ok (.isub, 1) := by decide +kernel
theorem dX8_letterOf_49 : decode cX8_letterOf 49 = .ok (.istore 6, 2) := by decide +kernel
theorem dX8_letterOf_51 : decode cX8_letterOf 51 = .ok (.iload 6, 2) := by decide +kernel
theorem dX8_letterOf_53 : decode cX8_letterOf 53 = .ok (.iload_n 2, 1) := by decide +kernel
theorem dX8_letterOf_54 : decode cX8_letterOf 54 = .ok (.if_icmp .le 17, 3) := by decide +kernel
theorem dX8_letterOf_57 : decode cX8_letterOf 57 = .ok (.lload 4, 2) := by decide +kernel
theorem dX8_letterOf_59 : decode cX8_letterOf 59 = .ok (.ldc2_w 55, 3) := by decide +kernel
theorem dX8_letterOf_62 : decode cX8_letterOf 62 = .ok (.ldiv, 1) := by decide +kernel
theorem dX8_letterOf_63 : decode cX8_letterOf 63 = .ok (.lstore 4, 2) := by decide +kernel
theorem dX8_letterOf_65 : decode cX8_letterOf 65 = .ok (.iinc 6 (-1), 3) := by decide +kernel
theorem dX8_letterOf_68 : decode cX8_letterOf 68 = .ok (.goto (-17), 3) := by decide +kernel
theorem dX8_letterOf_71 : decode cX8_letterOf 71 = .ok (.lload 4, 2) := by decide +kernel
theorem dX8_letterOf_73 : decode cX8_letterOf 73 = .ok (.ldc2_w 55, 3) := by decide +kernel
theorem dX8_letterOf_76 : decode cX8_letterOf 76 = .ok (.lrem, 1) := by decide +kernel
theorem dX8_letterOf_77 : decode cX8_letterOf 77 = .ok (.l2i, 1) := by decide +kernel
theorem dX8_letterOf_78 : decode cX8_letterOf 78 = .ok (.istore 6, 2) := by decide +kernel
theorem dX8_letterOf_80 : decode cX8_letterOf 80 = .ok (.iload 6, 2) := by decide +kernel
theorem dX8_letterOf_82 : decode cX8_letterOf 82 = .ok (.bipush 37, 2) := by decide +kernel
theorem dX8_letterOf_84 : decode cX8_letterOf 84 = .ok (.if_icmp .ne 6, 3) := by decide +kernel
theorem dX8_letterOf_87 : decode cX8_letterOf 87 = .ok (.bipush 95, 2) := by decide +kernel
theorem dX8_letterOf_89 : decode cX8_letterOf 89 = .ok (.ireturn, 1) := by decide +kernel
theorem dX8_letterOf_90 : decode cX8_letterOf 90 = .ok (.iload 6, 2) := by decide +kernel
theorem dX8_letterOf_92 : decode cX8_letterOf 92 = .ok (.bipush 26, 2) := by decide +kernel
theorem dX8_letterOf_94 : decode cX8_letterOf 94 = .ok (.if_icmp .le 14, 3) := by decide +kernel
theorem dX8_letterOf_97 : decode cX8_letterOf 97 = .ok (.bipush 48, 2) := by decide +kernel
theorem dX8_letterOf_99 : decode cX8_letterOf 99 = .ok (.iload 6, 2) := by decide +kernel
theorem dX8_letterOf_101 : decode cX8_letterOf 101 = .ok (.iadd, 1) := by decide +kernel
theorem dX8_letterOf_102 : decode cX8_letterOf 102 = .ok (.bipush 27, 2) := by decide +kernel
theorem dX8_letterOf_104 : decode cX8_letterOf 104 = .ok (.isub, 1) := by decide +kernel
theorem dX8_letterOf_105 : decode cX8_letterOf 105 = .ok (.goto 10, 3) := by decide +kernel
theorem dX8_letterOf_108 : decode cX8_letterOf 108 = .ok (.bipush 97, 2) := by decide +kernel
theorem dX8_letterOf_110 : decode cX8_letterOf 110 = .ok (.iload 6, 2) := by decide +kernel
theorem dX8_letterOf_112 : decode cX8_letterOf 112 = .ok (.iadd, 1) := by decide +kernel
theorem dX8_letterOf_113 : decode cX8_letterOf 113 = .ok (.iconst 1, 1) := by decide +kernel
theorem dX8_letterOf_114 : decode cX8_letterOf 114 = .ok (.isub, 1) := by decide +kernel
theorem dX8_letterOf_115 : decode cX8_letterOf 115 = .ok (.ireturn, 1) := by decide +kernel
theorem dX8_behindBlanks_0 : decode cX8_behindBlanks 0 = .ok (.iload_n 1, 1) := by decide +kernel
theorem dX8_behindBlanks_1 : decode cX8_behindBlanks 1 = .ok (.istore_n 2, 1) := by decide +kernel
theorem dX8_behindBlanks_2 : decode cX8_behindBlanks 2 = .ok (.iload_n 2, 1) := by decide +kernel
theorem dX8_behindBlanks_3 : decode cX8_behindBlanks 3 = .ok (.aload_n 0, 1) := by decide +kernel
theorem dX8_behindBlanks_4 : decode cX8_behindBlanks 4 = .ok (.getfield 63, 3) := by decide +kernel
theorem dX8_behindBlanks_7 : decode cX8_behindBlanks 7 = .ok (.if_icmp .ge 29, 3) := by decide +kernel
theorem dX8_behindBlanks_10 : decode cX8_behindBlanks 10 = .ok (.aload_n 0, 1) := by decide +kernel
theorem dX8_behindBlanks_11 : decode cX8_behindBlanks 11 = .ok (.iload_n 2, 1) := by decide +kernel
theorem dX8_behindBlanks_12 : decode cX8_behindBlanks 12 = .ok (.invokevirtual 77, 3) := by decide +kernel
theorem dX8_behindBlanks_15 : decode cX8_behindBlanks 15 = .ok (.bipush 32, 2) := by decide +kernel
theorem dX8_behindBlanks_17 : decode cX8_behindBlanks 17 = .ok (.if_icmp .eq 13, 3) := by decide +kernel
theorem dX8_behindBlanks_20 : decode cX8_behindBlanks 20 = .ok (.aload_n 0, 1) := by decide +kernel
theorem dX8_behindBlanks_21 : decode cX8_behindBlanks 21 = .ok (.iload_n 2, 1) := by decide +kernel
theorem dX8_behindBlanks_22 : decode cX8_behindBlanks 22 = .ok (.invokevirtual 77, 3) := by decide +kernel
theorem dX8_behindBlanks_25 : decode cX8_behindBlanks 25 = .ok (.bipush 10, 2) := by decide +kernel
theorem dX8_behindBlanks_27 : decode cX8_behindBlanks 27 = .ok (.if_icmp .ne 9, 3) := by decide +kernel
theorem dX8_behindBlanks_30 : decode cX8_behindBlanks 30 = .ok (.iinc 2 1, 3) := by decide +kernel
theorem dX8_behindBlanks_33 : decode cX8_behindBlanks 33 = .ok (.goto (-31), 3) := by decide +kernel
theorem dX8_behindBlanks_36 : decode cX8_behindBlanks 36 = .ok (.iload_n 2, 1) := by decide +kernel
theorem dX8_behindBlanks_37 : decode cX8_behindBlanks 37 = .ok (.ireturn, 1) := by decide +kernel
theorem dX8_byteAt_0 : decode cX8_byteAt 0 = .ok (.iload_n 1, 1) := by decide +kernel
theorem dX8_byteAt_1 : decode cX8_byteAt 1 = .ok (.ifCond .lt 24, 3) := by decide +kernel
theorem dX8_byteAt_4 : decode cX8_byteAt 4 = .ok (.iload_n 1, 1) := by decide +kernel
theorem dX8_byteAt_5 : decode cX8_byteAt 5 = .ok (.aload_n 0, 1) := by decide +kernel
theorem dX8_byteAt_6 : decode cX8_byteAt 6 = .ok (.getfield 63, 3) := by decide +kernel
theorem dX8_byteAt_9 : decode cX8_byteAt 9 = .ok (.if_icmp .ge 16, 3) := by decide +kernel
theorem dX8_byteAt_12 : decode cX8_byteAt 12 = .ok (.aload_n 0, 1) := by decide +kernel
theorem dX8_byteAt_13 : decode cX8_byteAt 13 = .ok (.getfield 25, 3) := by decide +kernel
theorem dX8_byteAt_16 : decode cX8_byteAt 16 = .ok (.iload_n 1, 1) := by decide +kernel
theorem dX8_byteAt_17 : decode cX8_byteAt 17 = .ok (.baload, 1) := by decide +kernel
theorem dX8_byteAt_18 : decode cX8_byteAt 18 = .ok (.sipush 255, 3) := by decide +kernel
theorem dX8_byteAt_21 : decode cX8_byteAt 21 = .ok (.iand, 1) := by decide +kernel
theorem dX8_byteAt_22 : decode cX8_byteAt 22 = .ok (.goto 4, 3) := by decide +kernel
theorem dX8_byteAt_25 : decode cX8_byteAt 25 = .ok (.iconst 0, 1) := by decide +kernel
theorem dX8_byteAt_26 : decode cX8_byteAt 26 = .ok (.ireturn, 1) := by decide +kernel
theorem dX8_takeWord_0 : decode cX8_takeWord 0 = .ok (.iconst 0, 1) := by decide +kernel
theorem dX8_takeWord_1 : decode cX8_takeWord 1 = .ok (.istore_n 3, 1) := by decide +kernel
theorem dX8_takeWord_2 : decode cX8_takeWord 2 = .ok (.lconst 0, 1) := by decide +kernel
theorem dX8_takeWord_3 : decode cX8_takeWord 3 = .ok (.lstore 4, 2) := by decide +kernel
theorem dX8_takeWord_5 : decode cX8_takeWord 5 = .ok (.iload_n 2, 1) := by decide +kernel
theorem dX8_takeWord_6 : decode cX8_takeWord 6 = .ok (.istore 6, 2) := by decide +kernel
theorem dX8_takeWord_8 : decode cX8_takeWord 8 = .ok (.iload 6, 2) := by decide +kernel
theorem dX8_takeWord_10 : decode cX8_takeWord 10 = .ok (.aload_n 0, 1) := by decide +kernel
theorem dX8_takeWord_11 : decode cX8_takeWord 11 = .ok (.getfield 63, 3) := by decide +kernel
theorem dX8_takeWord_14 : decode cX8_takeWord 14 = .ok (.if_icmp .ge 54, 3) := by decide +kernel
theorem dX8_takeWord_17 : decode cX8_takeWord 17 = .ok (.aload_n 0, 1) := by decide +kernel
theorem dX8_takeWord_18 : decode cX8_takeWord 18 = .ok (.iload 6, 2) := by decide +kernel
theorem dX8_takeWord_20 : decode cX8_takeWord 20 = .ok (.invokevirtual 77, 3) := by decide +kernel
theorem dX8_takeWord_23 : decode cX8_takeWord 23 = .ok (.invokestatic 51, 3) := by decide +kernel
theorem dX8_takeWord_26 : decode cX8_takeWord 26 = .ok (.ifCond .le 42, 3) := by decide +kernel
theorem dX8_takeWord_29 : decode cX8_takeWord 29 = .ok (.iload_n 3, 1) := by decide +kernel
theorem dX8_takeWord_30 : decode cX8_takeWord 30 = .ok (.bipush 12, 2) := by decide +kernel
theorem dX8_takeWord_32 : decode cX8_takeWord 32 = .ok (.if_icmp .ge 23, 3) := by decide +kernel
theorem dX8_takeWord_35 : decode cX8_takeWord 35 = .ok (.lload 4, 2) := by decide +kernel
theorem dX8_takeWord_37 : decode cX8_takeWord 37 = .ok (.ldc2_w 55, 3) := by decide +kernel
theorem dX8_takeWord_40 : decode cX8_takeWord 40 = .ok (.lmul, 1) := by decide +kernel
theorem dX8_takeWord_41 : decode cX8_takeWord 41 = .ok (.aload_n 0, 1) := by decide +kernel
theorem dX8_takeWord_42 : decode cX8_takeWord 42 = .ok (.iload 6, 2) := by decide +kernel
theorem dX8_takeWord_44 : decode cX8_takeWord 44 = .ok (.invokevirtual 77, 3) := by decide +kernel
theorem dX8_takeWord_47 : decode cX8_takeWord 47 = .ok (.invokestatic 51, 3) := by decide +kernel
theorem dX8_takeWord_50 : decode cX8_takeWord 50 = .ok (.i2l, 1) := by decide +kernel
theorem dX8_takeWord_51 : decode cX8_takeWord 51 = .ok (.ladd, 1) := by decide +kernel
theorem dX8_takeWord_52 : decode cX8_takeWord 52 = .ok (.goto 5, 3) := by decide +kernel
theorem dX8_takeWord_55 : decode cX8_takeWord 55 = .ok (.lload 4, 2) := by decide +kernel
theorem dX8_takeWord_57 : decode cX8_takeWord 57 = .ok (.lstore 4, 2) := by decide +kernel
theorem dX8_takeWord_59 : decode cX8_takeWord 59 = .ok (.iinc 3 1, 3) := by decide +kernel
theorem dX8_takeWord_62 : decode cX8_takeWord 62 = .ok (.iinc 6 1, 3) := by decide +kernel
theorem dX8_takeWord_65 : decode cX8_takeWord 65 = .ok (.goto (-57), 3) := by decide +kernel
theorem dX8_takeWord_68 : decode cX8_takeWord 68 = .ok (.aload_n 0, 1) := by decide +kernel
theorem dX8_takeWord_69 : decode cX8_takeWord 69 = .ok (.getfield 18, 3) := by decide +kernel
theorem dX8_takeWord_72 : decode cX8_takeWord 72 = .ok (.iload_n 1, 1) := by decide +kernel
theorem dX8_takeWord_73 : decode cX8_takeWord 73 = .ok (.lload 4, 2) := by decide +kernel
theorem dX8_takeWord_75 : decode cX8_takeWord 75 = .ok (.lastore, 1) := by decide +kernel
theorem dX8_takeWord_76 : decode cX8_takeWord 76 = .ok (.aload_n 0, 1) := by decide +kernel
theorem dX8_takeWord_77 : decode cX8_takeWord 77 = .ok (.getfield 11, 3) := by decide +kernel
theorem dX8_takeWord_80 : decode cX8_takeWord 80 = .ok (.iload_n 1, 1) := by decide +kernel
theorem dX8_takeWord_81 : decode cX8_takeWord 81 = .ok (.iload_n 3, 1) := by decide +kernel
theorem dX8_takeWord_82 : decode cX8_takeWord 82 = .ok (.bipush 12, 2) := by decide +kernel
theorem dX8_takeWord_84 : decode cX8_takeWord 84 = .ok (.if_icmp .le 7, 3) := by decide +kernel
theorem dX8_takeWord_87 : decode cX8_takeWord 87 = .ok (.iconst 2, 1) := by decide +kernel
theorem dX8_takeWord_88 : decode cX8_takeWord 88 = .ok (.goto 4, 3) := by decide +kernel
theorem dX8_takeWord_91 : decode cX8_takeWord 91 = .ok (.iconst 3, 1) := by decide +kernel
theorem dX8_takeWord_92 : decode cX8_takeWord 92 = .ok (.iastore, 1) := by decide +kernel
theorem dX8_takeWord_93 : decode cX8_takeWord 93 = .ok (.iconst 0, 1) := by decide +kernel
theorem dX8_takeWord_94 : decode cX8_takeWord 94 = .ok (.istore 6, 2) := by decide +kernel
theorem dX8_takeWord_96 : decode cX8_takeWord 96 = .ok (.iload 6, 2) := by decide +kernel
theorem dX8_takeWord_98 : decode cX8_takeWord 98 = .ok (.bipush 21, 2) := by decide +kernel
theorem dX8_takeWord_100 : decode cX8_takeWord 100 = .ok (.if_icmp .ge 43, 3) := by decide +kernel
theorem dX8_takeWord_103 : decode cX8_takeWord 103 = .ok (.aload_n 0, 1) := by decide +kernel
theorem dX8_takeWord_104 : decode cX8_takeWord 104 = .ok (.getfield 11, 3) := by decide +kernel
theorem dX8_takeWord_107 : decode cX8_takeWord 107 = .ok (.iload_n 1, 1) := by decide +kernel
theorem dX8_takeWord_108 : decode cX8_takeWord 108 = .ok (.iaload, 1) := by decide +kernel
theorem dX8_takeWord_109 : decode cX8_takeWord 109 = .ok (.iconst 3, 1) := by decide +kernel
theorem dX8_takeWord_110 : decode cX8_takeWord 110 = .ok (.if_icmp .ne 33, 3) := by decide +kernel
theorem dX8_takeWord_113 : decode cX8_takeWord 113 = .ok (.aload_n 0, 1) := by decide +kernel
theorem dX8_takeWord_114 : decode cX8_takeWord 114 = .ok (.getfield 22, 3) := by decide +kernel
theorem dX8_takeWord_117 : decode cX8_takeWord 117 = .ok (.iload 6, 2) := by decide +kernel
theorem dX8_takeWord_119 : decode cX8_takeWord 119 = .ok (.laload, 1) := by decide +kernel
theorem dX8_takeWord_120 : decode cX8_takeWord 120 = .ok (.lload 4, 2) := by decide +kernel
theorem dX8_takeWord_122 : decode cX8_takeWord 122 = .ok (.lcmp, 1) := by decide +kernel
theorem dX8_takeWord_123 : decode cX8_takeWord 123 = .ok (.ifCond .ne 14, 3) := by decide +kernel
theorem dX8_takeWord_126 : decode cX8_takeWord 126 = .ok (.aload_n 0, 1) := by decide +kernel
theorem dX8_takeWord_127 : decode cX8_takeWord 127 = .ok (.getfield 11, 3) := by decide +kernel
theorem dX8_takeWord_130 : decode cX8_takeWord 130 = .ok (.iload_n 1, 1) := by decide +kernel
theorem dX8_takeWord_131 : decode cX8_takeWord 131 = .ok (.bipush 10, 2) := by decide +kernel
theorem dX8_takeWord_133 : decode cX8_takeWord 133 = .ok (.iload 6, 2) := by decide +kernel
theorem dX8_takeWord_135 : decode cX8_takeWord 135 = .ok (.iadd, 1) := by decide +kernel
theorem dX8_takeWord_136 : decode cX8_takeWord 136 = .ok (.iastore, 1) := by decide +kernel
theorem dX8_takeWord_137 : decode cX8_takeWord 137 = .ok (.iinc 6 1, 3) := by decide +kernel
theorem dX8_takeWord_140 : decode cX8_takeWord 140 = .ok (.goto (-44), 3) := by decide +kernel
theorem dX8_takeWord_143 : decode cX8_takeWord 143 = .ok (.iload_n 3, 1) := by decide +kernel
theorem dX8_takeWord_144 : decode cX8_takeWord 144 = .ok (.ireturn, 1) := by decide +kernel
theorem dX8_takeNumber_0 : decode cX8_takeNumber 0 = .ok (.iconst 0, 1) := by decide +kernel
theorem dX8_takeNumber_1 : decode cX8_takeNumber 1 = .ok (.istore_n 3, 1) := by decide +kernel
theorem dX8_takeNumber_2 : decode cX8_takeNumber 2 = .ok (.lconst 0, 1) := by decide +kernel
theorem dX8_takeNumber_3 : decode cX8_takeNumber 3 = .ok (.lstore 4, 2) := by decide +kernel
theorem dX8_takeNumber_5 : decode cX8_takeNumber 5 = .ok (.iload_n 2, 1) := by decide +kernel
theorem dX8_takeNumber_6 : decode cX8_takeNumber 6 = .ok (.istore 6, 2) := by decide +kernel
theorem dX8_takeNumber_8 : decode cX8_takeNumber 8 = .ok (.iload 6, 2) := by decide +kernel
theorem dX8_takeNumber_10 : decode cX8_takeNumber 10 = .ok (.aload_n 0, 1) := by decide +kernel
theorem dX8_takeNumber_11 : decode cX8_takeNumber 11 = .ok (.getfield 63, 3) := by decide +kernel
theorem dX8_takeNumber_14 : decode cX8_takeNumber 14 = .ok (.if_icmp .ge 64, 3) := by decide +kernel
theorem dX8_takeNumber_17 : decode cX8_takeNumber 17 = .ok (.aload_n 0, 1) := by decide +kernel
theorem dX8_takeNumber_18 : decode cX8_takeNumber 18 = .ok (.iload 6, 2) := by decide +kernel
theorem dX8_takeNumber_20 : decode cX8_takeNumber 20 = .ok (.invokevirtual 77, 3) := by decide +kernel
theorem dX8_takeNumber_23 : decode cX8_takeNumber 23 = .ok (.bipush 48, 2) := by decide +kernel
theorem dX8_takeNumber_25 : decode cX8_takeNumber 25 = .ok (.if_icmp .lt 53, 3) := by decide +kernel
theorem dX8_takeNumber_28 : decode cX8_takeNumber 28 = .ok (.aload_n 0, 1) := by decide +kernel
theorem dX8_takeNumber_29 : decode cX8_takeNumber 29 = .ok (.iload 6, 2) := by decide +kernel
theorem dX8_takeNumber_31 : decode cX8_takeNumber 31 = .ok (.invokevirtual 77, 3) := by decide +kernel
theorem dX8_takeNumber_34 : decode cX8_takeNumber 34 = .ok (.bipush 57, 2) := by decide +kernel
theorem dX8_takeNumber_36 : decode cX8_takeNumber 36 = .ok (.if_icmp .gt 42, 3) := by decide +kernel
theorem dX8_takeNumber_39 : decode cX8_takeNumber 39 = .ok (.iload_n 3, 1) := by decide +kernel
theorem dX8_takeNumber_40 : decode cX8_takeNumber 40 = .ok (.bipush 9, 2) := by decide +kernel
theorem dX8_takeNumber_42 : decode cX8_takeNumber 42 = .ok (.if_icmp .ge 23, 3) := by decide +kernel
theorem dX8_takeNumber_45 : decode cX8_takeNumber 45 = .ok (.lload 4, 2) := by decide +kernel
theorem dX8_takeNumber_47 : decode cX8_takeNumber 47 = .ok (.ldc2_w 98, 3) := by decide +kernel
theorem dX8_takeNumber_50 : decode cX8_takeNumber 50 = .ok (.lmul, 1) := by decide +kernel
theorem dX8_takeNumber_51 : decode cX8_takeNumber 51 = .ok (.aload_n 0, 1) := by decide +kernel
theorem dX8_takeNumber_52 : decode cX8_takeNumber 52 = .ok (.iload 6, 2) := by decide +kernel
theorem dX8_takeNumber_54 : decode cX8_takeNumber 54 = .ok (.invokevirtual 77, 3) := by decide +kernel
theorem dX8_takeNumber_57 : decode cX8_takeNumber 57 = .ok (.bipush 48, 2) := by decide +kernel
theorem dX8_takeNumber_59 : decode cX8_takeNumber 59 = .ok (.isub, 1) := by decide +kernel
theorem dX8_takeNumber_60 : decode cX8_takeNumber 60 = .ok (.i2l, 1) := by decide +kernel
theorem dX8_takeNumber_61 : decode cX8_takeNumber 61 = .ok (.ladd, 1) := by decide +kernel
theorem dX8_takeNumber_62 : decode cX8_takeNumber 62 = .ok (.goto 5, 3) := by decide +kernel
theorem dX8_takeNumber_65 : decode cX8_takeNumber 65 = .ok (.lload 4, 2) := by decide +kernel
theorem dX8_takeNumber_67 : decode cX8_takeNumber 67 = .ok (.lstore 4, 2) := by decide +kernel
theorem dX8_takeNumber_69 : decode cX8_takeNumber 69 = .ok (.iinc 3 1, 3) := by decide +kernel
theorem dX8_takeNumber_72 : decode cX8_takeNumber 72 = .ok (.iinc 6 1, 3) := by decide +kernel
theorem dX8_takeNumber_75 : decode cX8_takeNumber 75 = .ok (.goto (-67), 3) := by decide +kernel
theorem dX8_takeNumber_78 : decode cX8_takeNumber 78 = .ok (.aload_n 0, 1) := by decide +kernel
theorem dX8_takeNumber_79 : decode cX8_takeNumber 79 = .ok (.getfield 18, 3) := by decide +kernel
theorem dX8_takeNumber_82 : decode cX8_takeNumber 82 = .ok (.iload_n 1, 1) := by decide +kernel
theorem dX8_takeNumber_83 : decode cX8_takeNumber 83 = .ok (.lload 4, 2) := by decide +kernel
theorem dX8_takeNumber_85 : decode cX8_takeNumber 85 = .ok (.lastore, 1) := by decide +kernel
theorem dX8_takeNumber_86 : decode cX8_takeNumber 86 = .ok (.aload_n 0, 1) := by decide +kernel
theorem dX8_takeNumber_87 : decode cX8_takeNumber 87 = .ok (.getfield 11, 3) := by decide +kernel
theorem dX8_takeNumber_90 : decode cX8_takeNumber 90 = .ok (.iload_n 1, 1) := by decide +kernel
theorem dX8_takeNumber_91 : decode cX8_takeNumber 91 = .ok (.iload_n 3, 1) := by decide +kernel
theorem dX8_takeNumber_92 : decode cX8_takeNumber 92 = .ok (.bipush 9, 2) := by decide +kernel
theorem dX8_takeNumber_94 : decode cX8_takeNumber 94 = .ok (.if_icmp .le 7, 3) := by decide +kernel
theorem dX8_takeNumber_97 : decode cX8_takeNumber 97 = .ok (.iconst 2, 1) := by decide +kernel
theorem dX8_takeNumber_98 : decode cX8_takeNumber 98 = .ok (.goto 4, 3) := by decide +kernel
theorem dX8_takeNumber_101 : decode cX8_takeNumber 101 = .ok (.iconst 4, 1) := by decide +kernel
theorem dX8_takeNumber_102 : decode cX8_takeNumber 102 = .ok (.iastore, 1) := by decide +kernel
theorem dX8_takeNumber_103 : decode cX8_takeNumber 103 = .ok (.iload_n 3, 1) := by decide +kernel
theorem dX8_takeNumber_104 : decode cX8_takeNumber 104 = .ok (.ireturn, 1) := by decide +kernel
theorem dX8_pairKind_0 : decode cX8_pairKind 0 = .ok (.iload_n 1, 1) := by decide +kernel
theorem dX8_pairKind_1 : decode cX8_pairKind 1 = .ok (.bipush 61, 2) := by decide +kernel
theorem dX8_pairKind_3 : decode cX8_pairKind 3 = .ok (.if_icmp .ne 63, 3) := by decide +kernel
theorem dX8_pairKind_6 : decode cX8_pairKind 6 = .ok (.iload_n 0, 1) := by decide +kernel
theorem dX8_pairKind_7 : decode cX8_pairKind 7 = .ok (.lookupswitch 57 #[(33, 45), (60, 49), (61, 41), (62, 53)], 41) := by decide +kernel
theorem dX8_pairKind_48 : decode cX8_pairKind 48 = .ok (.sipush 201, 3) := by decide +kernel
theorem dX8_pairKind_51 : decode cX8_pairKind 51 = .ok (.ireturn, 1) := by decide +kernel
theorem dX8_pairKind_52 : decode cX8_pairKind 52 = .ok (.sipush 202, 3) := by decide +kernel
theorem dX8_pairKind_55 : decode cX8_pairKind 55 = .ok (.ireturn, 1) := by decide +kernel
theorem dX8_pairKind_56 : decode cX8_pairKind 56 = .ok (.sipush 203, 3) := by decide +kernel
theorem dX8_pairKind_59 : decode cX8_pairKind 59 = .ok (.ireturn, 1) := by decide +kernel
theorem dX8_pairKind_60 : decode cX8_pairKind 60 = .ok (.sipush 204, 3) := by decide +kernel
theorem dX8_pairKind_63 : decode cX8_pairKind 63 = .ok (.ireturn, 1) := by decide +kernel
theorem dX8_pairKind_64 : decode cX8_pairKind 64 = .ok (.iconst 2, 1) := by decide +kernel
theorem dX8_pairKind_65 : decode cX8_pairKind 65 = .ok (.ireturn, 1) := by decide +kernel
theorem dX8_pairKind_66 : decode cX8_pairKind 66 = .ok (.iload_n 0, 1) := by decide +kernel
theorem dX8_pairKind_67 : decode cX8_pairKind 67 = .ok (.iload_n 1, 1) := by decide +kernel
theorem dX8_pairKind_68 : decode cX8_pairKind 68 = .ok (.if_icmp .eq 5, 3) := by decide +kernel
theorem dX8_pairKind_71 : decode cX8_pairKind 71 = .ok (.iconst 2, 1) := by decide +kernel
theorem dX8_pairKind_72 : decode cX8_pairKind 72 = .ok (.ireturn, 1) := by decide +kernel
theorem dX8_pairKind_73 : decode cX8_pairKind 73 = .ok (.iload_n 0, 1) := by decide +kernel
theorem dX8_pairKind_74 : decode cX8_pairKind 74 = .ok (.lookupswitch 46 #[(38, 38), (46, 34), (124, 42)], 34) := by decide +kernel
theorem dX8_pairKind_108 : decode cX8_pairKind 108 = .ok (.sipush 200, 3) := by decide +kernel
theorem dX8_pairKind_111 : decode cX8_pairKind 111 = .ok (.ireturn, 1) := by decide +kernel
theorem dX8_pairKind_112 : decode cX8_pairKind 112 = .ok (.sipush 205, 3) := by decide +kernel
theorem dX8_pairKind_115 : decode cX8_pairKind 115 = .ok (.ireturn, 1) := by decide +kernel
theorem dX8_pairKind_116 : decode cX8_pairKind 116 = .ok (.sipush 206, 3) := by decide +kernel
theorem dX8_pairKind_119 : decode cX8_pairKind 119 = .ok (.ireturn, 1) := by decide +kernel
theorem dX8_pairKind_120 : decode cX8_pairKind 120 = .ok (.iconst 2, 1) := by decide +kernel
theorem dX8_pairKind_121 : decode cX8_pairKind 121 = .ok (.ireturn, 1) := by decide +kernel
theorem dX8_kind_0 : decode cX8_kind 0 = .ok (.aload_n 0, 1) := by decide +kernel
theorem dX8_kind_1 : decode cX8_kind 1 = .ok (.getfield 11, 3) := by decide +kernel
theorem dX8_kind_4 : decode cX8_kind 4 = .ok (.aload_n 0, 1) := by decide +kernel
theorem dX8_kind_5 : decode cX8_kind 5 = .ok (.getfield 65, 3) := by decide +kernel
theorem dX8_kind_8 : decode cX8_kind 8 = .ok (.iaload, 1) := by decide +kernel
theorem dX8_kind_9 : decode cX8_kind 9 = .ok (.ireturn, 1) := by decide +kernel
theorem dX8_place_0 : decode cX8_place 0 = .ok (.aload_n 0, 1) := by decide +kernel
theorem dX8_place_1 : decode cX8_place 1 = .ok (.getfield 15, 3) := by decide +kernel
theorem dX8_place_4 : decode cX8_place 4 = .ok (.aload_n 0, 1) := by decide +kernel
theorem dX8_place_5 : decode cX8_place 5 = .ok (.getfield 65, 3) := by decide +kernel
theorem dX8_place_8 : decode cX8_place 8 = .ok (.iaload, 1) := by decide +kernel
theorem dX8_place_9 : decode cX8_place 9 = .ok (.ireturn, 1) := by decide +kernel
theorem dX8_value_0 : decode cX8_value 0 = .ok (.aload_n 0, 1) := by decide +kernel
theorem dX8_value_1 : decode cX8_value 1 = .ok (.getfield 18, 3) := by decide +kernel
theorem dX8_value_4 : decode cX8_value 4 = .ok (.aload_n 0, 1) := by decide +kernel
theorem dX8_value_5 : decode cX8_value 5 = .ok (.getfield 65, 3) := by decide +kernel
theorem dX8_value_8 : decode cX8_value 8 = .ok (.laload, 1) := by decide +kernel
theorem dX8_value_9 : decode cX8_value 9 = .ok (.lreturn, 1) := by decide +kernel
theorem dX8_atBracket_0 : decode cX8_atBracket 0 = .ok (.aload_n 0, 1) := by decide +kernel
theorem dX8_atBracket_1 : decode cX8_atBracket 1 = .ok (.getfield 65, 3) := by decide +kernel
theorem dX8_atBracket_4 : decode cX8_atBracket 4 = .ok (.sipush 1200, 3) := by decide +kernel
theorem dX8_atBracket_7 : decode cX8_atBracket 7 = .ok (.if_icmp .le 10, 3) := by decide +kernel
theorem dX8_atBracket_10 : decode cX8_atBracket 10 = .ok (.aload_n 0, 1) := by decide +kernel
theorem dX8_atBracket_11 : decode cX8_atBracket 11 = .ok (.getfield 80, 3) := by decide +kernel
theorem dX8_atBracket_14 : decode cX8_atBracket 14 = .ok (.goto 22, 3) := by decide +kernel
theorem dX8_atBracket_17 : decode cX8_atBracket 17 = .ok (.aload_n 0, 1) := by decide +kernel
theorem dX8_atBracket_18 : decode cX8_atBracket 18 = .ok (.getfield 11, 3) := by decide +kernel
theorem dX8_atBracket_21 : decode cX8_atBracket 21 = .ok (.aload_n 0, 1) := by decide +kernel
theorem dX8_atBracket_22 : decode cX8_atBracket 22 = .ok (.getfield 65, 3) := by decide +kernel
theorem dX8_atBracket_25 : decode cX8_atBracket 25 = .ok (.iaload, 1) := by decide +kernel
theorem dX8_atBracket_26 : decode cX8_atBracket 26 = .ok (.bipush 40, 2) := by decide +kernel
theorem dX8_atBracket_28 : decode cX8_atBracket 28 = .ok (.if_icmp .ne 7, 3) := by decide +kernel
theorem dX8_atBracket_31 : decode cX8_atBracket 31 = .ok (.iconst 1, 1) := by decide +kernel
theorem dX8_atBracket_32 : decode cX8_atBracket 32 = .ok (.goto 4, 3) := by decide +kernel
theorem dX8_atBracket_35 : decode cX8_atBracket 35 = .ok (.iconst 0, 1) := by decide +kernel
theorem dX8_atBracket_36 : decode cX8_atBracket 36 = .ok (.ireturn, 1) := by decide +kernel
theorem dX8_next_0 : decode cX8_next 0 = .ok (.aload_n 0, 1) := by decide +kernel
theorem dX8_next_1 : decode cX8_next 1 = .ok (.getfield 65, 3) := by decide +kernel
theorem dX8_next_4 : decode cX8_next 4 = .ok (.sipush 1200, 3) := by decide +kernel
theorem dX8_next_7 : decode cX8_next 7 = .ok (.if_icmp .gt 13, 3) := by decide +kernel
theorem dX8_next_10 : decode cX8_next 10 = .ok (.aload_n 0, 1) := by decide +kernel
theorem dX8_next_11 : decode cX8_next 11 = .ok (.dup, 1) := by decide +kernel
theorem dX8_next_12 : decode cX8_next 12 = .ok (.getfield 65, 3) := by decide +kernel
theorem dX8_next_15 : decode cX8_next 15 = .ok (.iconst 1, 1) := by decide +kernel
theorem dX8_next_16 : decode cX8_next 16 = .ok (.iadd, 1) := by decide +kernel
theorem dX8_next_17 : decode cX8_next 17 = .ok (.putfield 65, 3) := by decide +kernel
theorem dX8_next_20 : decode cX8_next 20 = .ok (.return_, 1) := by decide +kernel
theorem dX8_fail_0 : decode cX8_fail 0 = .ok (.aload_n 0, 1) := by decide +kernel
theorem dX8_fail_1 : decode cX8_fail 1 = .ok (.getfield 65, 3) := by decide +kernel
theorem dX8_fail_4 : decode cX8_fail 4 = .ok (.sipush 1200, 3) := by decide +kernel
theorem dX8_fail_7 : decode cX8_fail 7 = .ok (.if_icmp .le 24, 3) := by decide +kernel
theorem dX8_fail_10 : decode cX8_fail 10 = .ok (.iload_n 1, 1) := by decide +kernel
theorem dX8_fail_11 : decode cX8_fail 11 = .ok (.iconst 4, 1) := by decide +kernel
theorem dX8_fail_12 : decode cX8_fail 12 = .ok (.if_icmp .gt 15, 3) := by decide +kernel
theorem dX8_fail_15 : decode cX8_fail 15 = .ok (.iload_n 2, 1) := by decide +kernel
theorem dX8_fail_16 : decode cX8_fail 16 = .ok (.aload_n 0, 1) := by decide +kernel
theorem dX8_fail_17 : decode cX8_fail 17 = .ok (.getfield 15, 3) := by decide +kernel
theorem dX8_fail_20 : decode cX8_fail 20 = .ok (.sipush 1200, 3) := by decide +kernel
theorem dX8_fail_23 : decode cX8_fail 23 = .ok (.iaload, 1) := by decide +kernel
theorem dX8_fail_24 : decode cX8_fail 24 = .ok (.if_icmp .eq 7, 3) := by decide +kernel
theorem dX8_fail_27 : decode cX8_fail 27 = .ok (.iconst 1, 1) := by decide +kernel
theorem dX8_fail_28 : decode cX8_fail 28 = .ok (.goto 4, 3) := by decide +kernel
theorem dX8_fail_31 : decode cX8_fail 31 = .ok (.iconst 0, 1) := by decide +kernel
theorem dX8_fail_32 : decode cX8_fail 32 = .ok (.istore_n 3, 1) := by decide +kernel
theorem dX8_fail_33 : decode cX8_fail 33 = .ok (.aload_n 0, 1) := by decide +kernel
theorem dX8_fail_34 : decode cX8_fail 34 = .ok (.getfield 68, 3) := by decide +kernel
theorem dX8_fail_37 : decode cX8_fail 37 = .ok (.ifCond .ne 36, 3) := by decide +kernel
theorem dX8_fail_40 : decode cX8_fail 40 = .ok (.aload_n 0, 1) := by decide +kernel
theorem dX8_fail_41 : decode cX8_fail 41 = .ok (.iload_n 3, 1) := by decide +kernel
theorem dX8_fail_42 : decode cX8_fail 42 = .ok (.ifCond .eq 7, 3) := by decide +kernel
theorem dX8_fail_45 : decode cX8_fail 45 = .ok (.iconst 4, 1) := by decide +kernel
theorem dX8_fail_46 : decode cX8_fail 46 = .ok (.goto 4, 3) := by decide +kernel
theorem dX8_fail_49 : decode cX8_fail 49 = .ok (.iload_n 1, 1) := by decide +kernel
theorem dX8_fail_50 : decode cX8_fail 50 = .ok (.putfield 68, 3) := by decide +kernel
theorem dX8_fail_53 : decode cX8_fail 53 = .ok (.aload_n 0, 1) := by decide +kernel
theorem dX8_fail_54 : decode cX8_fail 54 = .ok (.iload_n 3, 1) := by decide +kernel
theorem dX8_fail_55 : decode cX8_fail 55 = .ok (.ifCond .eq 14, 3) := by decide +kernel
theorem dX8_fail_58 : decode cX8_fail 58 = .ok (.aload_n 0, 1) := by decide +kernel
theorem dX8_fail_59 : decode cX8_fail 59 = .ok (.getfield 15, 3) := by decide +kernel
theorem dX8_fail_62 : decode cX8_fail 62 = .ok (.sipush 1200, 3) := by decide +kernel
theorem dX8_fail_65 : decode cX8_fail 65 = .ok (.iaload, 1) := by decide +kernel
theorem dX8_fail_66 : decode cX8_fail 66 = .ok (.goto 4, 3) := by decide +kernel
theorem dX8_fail_69 : decode cX8_fail 69 = .ok (.iload_n 2, 1) := by decide +kernel
theorem dX8_fail_70 : decode cX8_fail 70 = .ok (.putfield 29, 3) := by decide +kernel
theorem dX8_fail_73 : decode cX8_fail 73 = .ok (.aload_n 0, 1) := by decide +kernel
theorem dX8_fail_74 : decode cX8_fail 74 = .ok (.sipush 1201, 3) := by decide +kernel
theorem dX8_fail_77 : decode cX8_fail 77 = .ok (.putfield 65, 3) := by decide +kernel
theorem dX8_fail_80 : decode cX8_fail 80 = .ok (.return_, 1) := by decide +kernel
theorem dX8_take_0 : decode cX8_take 0 = .ok (.aload_n 0, 1) := by decide +kernel
theorem dX8_take_1 : decode cX8_take 1 = .ok (.getfield 11, 3) := by decide +kernel
theorem dX8_take_4 : decode cX8_take 4 = .ok (.aload_n 0, 1) := by decide +kernel
theorem dX8_take_5 : decode cX8_take 5 = .ok (.getfield 65, 3) := by decide +kernel
theorem dX8_take_8 : decode cX8_take 8 = .ok (.iaload, 1) := by decide +kernel
theorem dX8_take_9 : decode cX8_take 9 = .ok (.iload_n 1, 1) := by decide +kernel
theorem dX8_take_10 : decode cX8_take 10 = .ok (.if_icmp .ne 10, 3) := by decide +kernel
theorem dX8_take_13 : decode cX8_take 13 = .ok (.aload_n 0, 1) := by decide +kernel
theorem dX8_take_14 : decode cX8_take 14 = .ok (.invokevirtual 100, 3) := by decide +kernel
theorem dX8_take_17 : decode cX8_take 17 = .ok (.goto 17, 3) := by decide +kernel
theorem dX8_take_20 : decode cX8_take 20 = .ok (.aload_n 0, 1) := by decide +kernel
theorem dX8_take_21 : decode cX8_take 21 = .ok (.iconst 1, 1) := by decide +kernel
theorem dX8_take_22 : decode cX8_take 22 = .ok (.aload_n 0, 1) := by decide +kernel
theorem dX8_take_23 : decode cX8_take 23 = .ok (.getfield 15, 3) := by decide +kernel
theorem dX8_take_26 : decode cX8_take 26 = .ok (.aload_n 0, 1) := by decide +kernel
theorem dX8_take_27 : decode cX8_take 27 = .ok (.getfield 65, 3) := by decide +kernel
theorem dX8_take_30 : decode cX8_take 30 = .ok (.iaload, 1) := by decide +kernel
theorem dX8_take_31 : decode cX8_take 31 = .ok (.invokevirtual 103, 3) := by decide +kernel
theorem dX8_take_34 : decode cX8_take 34 = .ok (.return_, 1) := by decide +kernel
