theorem t_285 : Cond.fieldLink RX8 11 "TrialGarden$Tokens" "kinds" "[I" ∈ lw_g := gg_ (i := 285) (by decide +kernel) (by decide +kernel)
theorem t_286 : Cond.fieldLink RX8 15 "TrialGarden$Tokens" "places" "[I" ∈ lw_g := gg_ (i := 286) (by decide +kernel) (by decide +kernel)
theorem t_287 : Cond.fieldLink RX8 18 "TrialGarden$Tokens" "values" "[J" ∈ lw_g := gg_ (i := 287) (by decide +kernel) (by decide +kernel)
theorem t_289 : Cond.fieldLink RX8 25 "TrialGarden$Tokens" "tape" "[B" ∈ lw_g := gg_ (i := 289) (by decide +kernel) (by decide +kernel)
theorem t_290 : Cond.fieldLink RX8 63 "TrialGarden$Tokens" "length" "I" ∈ lw_g := gg_ (i := 290) (by decide +kernel) (by decide +kernel)
theorem t_291 : Cond.fieldLink RX8 65 "TrialGarden$Tokens" "at" "I" ∈ lw_g := gg_ (i := 291) (by decide +kernel) (by decide +kernel)
theorem t_292 : Cond.fieldLink RX8 80 "TrialGarden$Tokens" "bracketBehindAll" "Z" ∈ lw_g := gg_ (i := 292) (by decide +kernel) (by decide +kernel)
theorem t_295 : Cond.fieldLink RX8 68 "TrialGarden$Tokens" "faultKind" "I" ∈ lw_g := gg_ (i := 295) (by decide +kernel) (by decide +kernel)
theorem t_296 : Cond.fieldLink RX8 29 "TrialGarden$Tokens" "faultPlace" "I" ∈ lw_g := gg_ (i := 296) (by decide +kernel) (by decide +kernel)
theorem t_1007 : Cond.code yX8_byteAt cX8_byteAt 2 (some .int) ∈ lw_g := gg_ (i := 1007) (by decide +kernel) (by decide +kernel)
theorem t_1105 : Cond.code yX8_next cX8_next 1 none ∈ lw_g := gg_ (i := 1105) (by decide +kernel) (by decide +kernel)
theorem t_1109 : Cond.code yX8_fail cX8_fail 4 none ∈ lw_g := gg_ (i := 1109) (by decide +kernel) (by decide +kernel)
theorem t_1113 : Cond.code yX8_place cX8_place 1 (some .int) ∈ lw_g := gg_ (i := 1113) (by decide +kernel) (by decide +kernel)
theorem t_1117 : Cond.code yX8_value cX8_value 1 (some .long) ∈ lw_g := gg_ (i := 1117) (by decide +kernel) (by decide +kernel)
theorem t_1121 : Cond.code yX8_kind cX8_kind 1 (some .int) ∈ lw_g := gg_ (i := 1121) (by decide +kernel) (by decide +kernel)
theorem t_1242 : Cond.code yX8_atBracket cX8_atBracket 1 (some .boolean) ∈ lw_g := gg_ (i := 1242) (by decide +kernel) (by decide +kernel)
theorem dX8_byteAt_0 : decode cX8_byteAt 0 = .ok (.iload_n 1, 1) := by decide +kernel
theorem dX8_byteAt_1 : decode cX8_byteAt 1 = .ok (.ifCond .lt 24, 3) := by decide +kernel
theorem dX8_byteAt_4 : decode cX8_byteAt 4 = .ok (.iload_n 1, 1) := by decide +kernel
theorem dX8_byteAt_5 : decode cX8_byteAt 5 = .ok (.aload_n 0, 1) := by decide +kernel
theorem dX8_byteAt_6 : decode cX8_byteAt 6 = .ok (.getfield 63, 3) := by decide +kernel
theorem dX8_byteAt_9 : decode cX8_byteAt 9 = .ok (.if_icmp .ge 16, 3) := by decide +kernel
theorem dX8_byteAt_12 : decode cX8_byteAt 12 = .ok (.aload_n 0, 1) := by decide +kernel
theorem dX8_byteAt_13 : decode cX8_byteAt 13 = .ok (.getfield 25, 3) := by decide +kernel
theorem dX8_byteAt_16 : decode cX8_byteAt 16 = .ok (.iload_n 1, 1) := by decide +kernel
theorem dX8_byteAt_17 : decode cX8_byteAt 17 = .ok (.baload, 1) := by decide +kernel
theorem dX8_byteAt_18 : decode cX8_byteAt 18 = .ok (.sipush 255, 3) := by decide +kernel
theorem dX8_byteAt_21 : decode cX8_byteAt 21 = .ok (.iand, 1) := by decide +kernel
theorem dX8_byteAt_22 : decode cX8_byteAt 22 = .ok (.goto 4, 3) := by decide +kernel
theorem dX8_byteAt_25 : decode cX8_byteAt 25 = .ok (.iconst 0, 1) := by decide +kernel
theorem dX8_byteAt_26 : decode cX8_byteAt 26 = .ok (.ireturn, 1) := by decide +kernel
theorem dX8_kind_0 : decode cX8_kind 0 = .ok (.aload_n 0, 1) := by decide +kernel
theorem dX8_kind_1 : decode cX8_kind 1 = .ok (.getfield 11, 3) := by decide +kernel
theorem dX8_kind_4 : decode cX8_kind 4 = .ok (.aload_n 0, 1) := by decide +kernel
theorem dX8_kind_5 : decode cX8_kind 5 = .ok (.getfield 65, 3) := by decide +kernel
theorem dX8_kind_8 : decode cX8_kind 8 = .ok (.iaload, 1) := by decide +kernel
theorem dX8_kind_9 : decode cX8_kind 9 = .ok (.ireturn, 1) := by decide +kernel
theorem dX8_place_0 : decode cX8_place 0 = .ok (.aload_n 0, 1) := by decide +kernel
theorem dX8_place_1 : decode cX8_place 1 = .ok (.getfield 15, 3) := by decide +kernel
theorem dX8_place_4 : decode cX8_place 4 = .ok (.aload_n 0, 1) := by decide +kernel
theorem dX8_place_5 : decode cX8_place 5 = .ok (.getfield 65, 3) := by decide +kernel
theorem dX8_place_8 : decode cX8_place 8 = .ok (.iaload, 1) := by decide +kernel
theorem dX8_place_9 : decode cX8_place 9 = .ok (.ireturn, 1) := by decide +kernel
theorem dX8_value_0 : decode cX8_value 0 = .ok (.aload_n 0, 1) := by decide +kernel
theorem dX8_value_1 : decode cX8_value 1 = .ok (.getfield 18, 3) := by decide +kernel
theorem dX8_value_4 : decode cX8_value 4 = .ok (.aload_n 0, 1) := by decide +kernel
theorem dX8_value_5 : decode cX8_value 5 = .ok (.getfield 65, 3) := by decide +kernel
theorem dX8_value_8 : decode cX8_value 8 = .ok (.laload, 1) := by decide +kernel
theorem dX8_value_9 : decode cX8_value 9 = .ok (.lreturn, 1) := by decide +kernel
theorem dX8_atBracket_0 : decode cX8_atBracket 0 = .ok (.aload_n 0, 1) := by decide +kernel
theorem dX8_atBracket_1 : decode cX8_atBracket 1 = .ok (.getfield 65, 3) := by decide +kernel
theorem dX8_atBracket_4 : decode cX8_atBracket 4 = .ok (.sipush 1200, 3) := by decide +kernel
theorem dX8_atBracket_7 : decode cX8_atBracket 7 = .ok (.if_icmp .le 10, 3) := by decide +kernel
theorem dX8_atBracket_10 : decode cX8_atBracket 10 = .ok (.aload_n 0, 1) := by decide +kernel
theorem dX8_atBracket_11 : decode cX8_atBracket 11 = .ok (.getfield 80, 3) := by decide +kernel
theorem dX8_atBracket_14 : decode cX8_atBracket 14 = .ok (.goto 22, 3) := by decide +kernel
theorem dX8_atBracket_17 : decode cX8_atBracket 17 = .ok (.aload_n 0, 1) := by decide +kernel
theorem dX8_atBracket_18 : decode cX8_atBracket 18 = .ok (.getfield 11, 3) := by decide +kernel
theorem dX8_atBracket_21 : decode cX8_atBracket 21 = .ok (.aload_n 0, 1) := by decide +kernel
theorem dX8_atBracket_22 : decode cX8_atBracket 22 = .ok (.getfield 65, 3) := by decide +kernel
theorem dX8_atBracket_25 : decode cX8_atBracket 25 = .ok (.iaload, 1) := by decide +kernel
theorem dX8_atBracket_26 : decode cX8_atBracket 26 = .ok (.bipush 40, 2) := by decide +kernel
theorem dX8_atBracket_28 : decode cX8_atBracket 28 = .ok (.if_icmp .ne 7, 3) := by decide +kernel
theorem dX8_atBracket_31 : decode cX8_atBracket 31 = .ok (.iconst 1, 1) := by decide +kernel
theorem dX8_atBracket_32 : decode cX8_atBracket 32 = .ok (.goto 4, 3) := by decide +kernel
theorem dX8_atBracket_35 : decode cX8_atBracket 35 = .ok (.iconst 0, 1) := by decide +kernel
theorem dX8_atBracket_36 : decode cX8_atBracket 36 = .ok (.ireturn, 1) := by decide +kernel
theorem dX8_next_0 : decode cX8_next 0 = .ok (.aload_n 0, 1) := by decide +kernel
theorem dX8_next_1 : decode cX8_next 1 = .ok (.getfield 65, 3) := by decide +kernel
theorem dX8_next_4 : decode cX8_next 4 = .ok (.sipush 1200, 3) := by decide +kernel
theorem dX8_next_7 : decode cX8_next 7 = .ok (.if_icmp .gt 13, 3) := by decide +kernel
theorem dX8_next_10 : decode cX8_next 10 = .ok (.aload_n 0, 1) := by decide +kernel
theorem dX8_next_11 : decode cX8_next 11 = .ok (.dup, 1) := by decide +kernel
theorem dX8_next_12 : decode cX8_next 12 = .ok (.getfield 65, 3) := by decide +kernel
theorem dX8_next_15 : decode cX8_next 15 = .ok (.iconst 1, 1) := by decide +kernel
theorem dX8_next_16 : decode cX8_next 16 = .ok (.iadd, 1) := by decide +kernel
theorem dX8_next_17 : decode cX8_next 17 = .ok (.putfield 65, 3) := by decide +kernel
theorem dX8_next_20 : decode cX8_next 20 = .ok (.return_, 1) := by decide +kernel
theorem dX8_fail_0 : decode cX8_fail 0 = .ok (.aload_n 0, 1) := by decide +kernel
theorem dX8_fail_1 : decode cX8_fail 1 = .ok (.getfield 65, 3) := by decide +kernel
theorem dX8_fail_4 : decode cX8_fail 4 = .ok (.sipush 1200, 3) := by decide +kernel
theorem dX8_fail_7 : decode cX8_fail 7 = .ok (.if_icmp .le 24, 3) := by decide +kernel
theorem dX8_fail_10 : decode cX8_fail 10 = .ok (.iload_n 1, 1) := by decide +kernel
theorem dX8_fail_11 : decode cX8_fail 11 = .ok (.iconst 4, 1) := by decide +kernel
theorem dX8_fail_12 : decode cX8_fail 12 = .ok (.if_icmp .gt 15, 3) := by decide +kernel
theorem dX8_fail_15 : decode cX8_fail 15 = .ok (.iload_n 2, 1) := by decide +kernel
theorem dX8_fail_16 : decode cX8_fail 16 = .ok (.aload_n 0, 1) := by decide +kernel
theorem dX8_fail_17 : decode cX8_fail 17 = .ok (.getfield 15, 3) := by decide +kernel
theorem dX8_fail_20 : decode cX8_fail 20 = .ok (.sipush 1200, 3) := by decide +kernel
theorem dX8_fail_23 : decode cX8_fail 23 = .ok (.iaload, 1) := by decide +kernel
theorem dX8_fail_24 : decode cX8_fail 24 = .ok (.if_icmp .eq 7, 3) := by decide +kernel
theorem dX8_fail_27 : decode cX8_fail 27 = .ok (.iconst 1, 1) := by decide +kernel
theorem dX8_fail_28 : decode cX8_fail 28 = .ok (.goto 4, 3) := by decide +kernel
theorem dX8_fail_31 : decode cX8_fail 31 = .ok (.iconst 0, 1) := by decide +kernel
theorem dX8_fail_32 : decode cX8_fail 32 = .ok (.istore_n 3, 1) := by decide +kernel
theorem dX8_fail_33 : decode cX8_fail 33 = .ok (.aload_n 0, 1) := by decide +kernel
theorem dX8_fail_34 : decode cX8_fail 34 = .ok (.getfield 68, 3) := by decide +kernel
theorem dX8_fail_37 : decode cX8_fail 37 = .ok (.ifCond .ne 36, 3) := by decide +kernel
theorem dX8_fail_40 : decode cX8_fail 40 = .ok (.aload_n 0, 1) := by decide +kernel
theorem dX8_fail_41 : decode cX8_fail 41 = .ok (.iload_n 3, 1) := by decide +kernel
theorem dX8_fail_42 : decode cX8_fail 42 = .ok (.ifCond .eq 7, 3) := by decide +kernel
theorem dX8_fail_45 : decode cX8_fail 45 = .ok (.iconst 4, 1) := by decide +kernel
theorem dX8_fail_46 : decode cX8_fail 46 = .ok (.goto 4, 3) := by decide +kernel
theorem dX8_fail_49 : decode cX8_fail 49 = .ok (.iload_n 1, 1) := by decide +kernel
theorem dX8_fail_50 : decode cX8_fail 50 = .ok (.putfield 68, 3) := by decide +kernel
theorem dX8_fail_53 : decode cX8_fail 53 = .ok (.aload_n 0, 1) := by decide +kernel
theorem dX8_fail_54 : decode cX8_fail 54 = .ok (.iload_n 3, 1) := by decide +kernel
theorem dX8_fail_55 : decode cX8_fail 55 = .ok (.ifCond .eq 14, 3) := by decide +kernel
theorem dX8_fail_58 : decode cX8_fail 58 = .ok (.aload_n 0, 1) := by decide +kernel
theorem dX8_fail_59 : decode cX8_fail 59 = .ok (.getfield 15, 3) := by decide +kernel
theorem dX8_fail_62 : decode cX8_fail 62 = .ok (.sipush 1200, 3) := by decide +kernel
theorem dX8_fail_65 : decode cX8_fail 65 = .ok (.iaload, 1) := by decide +kernel
theorem dX8_fail_66 : decode cX8_fail 66 = .ok (.goto 4, 3) := by decide +kernel
theorem dX8_fail_69 : decode cX8_fail 69 = .ok (.iload_n 2, 1) := by decide +kernel
theorem dX8_fail_70 : decode cX8_fail 70 = .ok (.putfield 29, 3) := by decide +kernel
theorem dX8_fail_73 : decode cX8_fail 73 = .ok (.aload_n 0, 1) := by decide +kernel
theorem dX8_fail_74 : decode cX8_fail 74 = .ok (.sipush 1201, 3) := by decide +kernel
theorem dX8_fail_77 : decode cX8_fail 77 = .ok (.putfield 65, 3) := by decide +kernel
theorem dX8_fail_80 : decode cX8_fail 80 = .ok (.return_, 1) := by decide +kernel
