theorem t_137 : Cond.selects RX14 yX14_isClass yX14_isClass ∈ lw_g := gg_ (i := 137) (by decide +kernel) (by decide +kernel)
theorem t_1906 : Cond.fieldLink RX14 499 "TrialGardenModel$Program" "classes" "I" ∈ lw_g := gg_ (i := 1906) (by decide +kernel) (by decide +kernel)
theorem t_2018 : Cond.fieldLink RX14 208 "TrialGardenModel$Program" "parts" "I" ∈ lw_g := gg_ (i := 2018) (by decide +kernel) (by decide +kernel)
theorem t_2150 : Cond.fieldLink RX14 523 "TrialGardenModel" "taped" "I" ∈ lw_g := gg_ (i := 2150) (by decide +kernel) (by decide +kernel)
theorem t_2160 : Cond.fieldLink RX14 102 "TrialGardenModel" "faultKind" "I" ∈ lw_g := gg_ (i := 2160) (by decide +kernel) (by decide +kernel)
theorem t_2176 : Cond.fieldLink RX14 621 "TrialGardenModel" "objects" "I" ∈ lw_g := gg_ (i := 2176) (by decide +kernel) (by decide +kernel)
theorem t_2185 : Cond.fieldLink RX14 556 "TrialGardenModel" "lastA" "J" ∈ lw_g := gg_ (i := 2185) (by decide +kernel) (by decide +kernel)
theorem t_2186 : Cond.fieldLink RX14 559 "TrialGardenModel" "lastB" "J" ∈ lw_g := gg_ (i := 2186) (by decide +kernel) (by decide +kernel)
theorem t_2197 : Cond.fieldLink RX14 529 "TrialGardenModel" "rows" "I" ∈ lw_g := gg_ (i := 2197) (by decide +kernel) (by decide +kernel)
theorem t_2198 : Cond.fieldLink RX14 532 "TrialGardenModel" "rowObjects" "I" ∈ lw_g := gg_ (i := 2198) (by decide +kernel) (by decide +kernel)
theorem t_2199 : Cond.fieldLink RX14 668 "TrialGardenModel" "altered" "Z" ∈ lw_g := gg_ (i := 2199) (by decide +kernel) (by decide +kernel)
theorem t_2201 : Cond.fieldLink RX14 618 "TrialGardenModel" "verdict" "I" ∈ lw_g := gg_ (i := 2201) (by decide +kernel) (by decide +kernel)
theorem t_2204 : Cond.fieldLink RX14 538 "TrialGardenModel" "tried" "I" ∈ lw_g := gg_ (i := 2204) (by decide +kernel) (by decide +kernel)
theorem t_2205 : Cond.fieldLink RX14 541 "TrialGardenModel" "cutRows" "I" ∈ lw_g := gg_ (i := 2205) (by decide +kernel) (by decide +kernel)
theorem t_2351 : Cond.code yX14_feed cX14_feed 9 (some .int) ∈ lw_g := gg_ (i := 2351) (by decide +kernel) (by decide +kernel)
theorem t_2355 : Cond.code yX14_end cX14_end 2 (some .int) ∈ lw_g := gg_ (i := 2355) (by decide +kernel) (by decide +kernel)
theorem t_2448 : Cond.methodLink RX14 395 yX14_in ∈ lw_g := gg_ (i := 2448) (by decide +kernel) (by decide +kernel)
theorem t_2449 : Cond.static yX14_in ∈ lw_g := gg_ (i := 2449) (by decide +kernel) (by decide +kernel)
theorem t_2450 : Cond.code yX14_in cX14_in 6 (some .boolean) ∈ lw_g := gg_ (i := 2450) (by decide +kernel) (by decide +kernel)
theorem t_2569 : Cond.code yX14_fault cX14_fault 2 (some .int) ∈ lw_g := gg_ (i := 2569) (by decide +kernel) (by decide +kernel)
theorem t_2573 : Cond.code yX14_about cX14_about 3 (some .int) ∈ lw_g := gg_ (i := 2573) (by decide +kernel) (by decide +kernel)
theorem t_2574 : Cond.methodLink RX14 544 yX14_isClass ∈ lw_g := gg_ (i := 2574) (by decide +kernel) (by decide +kernel)
theorem t_2576 : Cond.instanceMethod yX14_isClass ∈ lw_g := gg_ (i := 2576) (by decide +kernel) (by decide +kernel)
theorem t_2577 : Cond.code yX14_isClass cX14_isClass 2 (some .boolean) ∈ lw_g := gg_ (i := 2577) (by decide +kernel) (by decide +kernel)
theorem t_2581 : Cond.code yX14_member cX14_member 7 (some .int) ∈ lw_g := gg_ (i := 2581) (by decide +kernel) (by decide +kernel)
theorem t_2585 : Cond.code yX14_model cX14_model 3 (some .int) ∈ lw_g := gg_ (i := 2585) (by decide +kernel) (by decide +kernel)
theorem t_2589 : Cond.code yX14_clear cX14_clear 2 (some .int) ∈ lw_g := gg_ (i := 2589) (by decide +kernel) (by decide +kernel)
theorem t_2593 : Cond.code yX14_make cX14_make 2 (some .int) ∈ lw_g := gg_ (i := 2593) (by decide +kernel) (by decide +kernel)
theorem t_2601 : Cond.code yX14_call cX14_call 8 (some .int) ∈ lw_g := gg_ (i := 2601) (by decide +kernel) (by decide +kernel)
theorem t_2613 : Cond.code yX14_run cX14_run 1 (some .int) ∈ lw_g := gg_ (i := 2613) (by decide +kernel) (by decide +kernel)
theorem t_2727 : Cond.code yX14_draw cX14_draw 5 (some .int) ∈ lw_g := gg_ (i := 2727) (by decide +kernel) (by decide +kernel)
theorem t_2750 : Cond.code yX14_all cX14_all 5 (some .int) ∈ lw_g := gg_ (i := 2750) (by decide +kernel) (by decide +kernel)
theorem t_2779 : Cond.code yX14_tried cX14_tried 1 (some .int) ∈ lw_g := gg_ (i := 2779) (by decide +kernel) (by decide +kernel)
theorem t_2783 : Cond.code yX14_cut cX14_cut 1 (some .int) ∈ lw_g := gg_ (i := 2783) (by decide +kernel) (by decide +kernel)
theorem t_2787 : Cond.code yX14_shrink cX14_shrink 5 (some .int) ∈ lw_g := gg_ (i := 2787) (by decide +kernel) (by decide +kernel)
theorem t_2804 : Cond.code yX14_verdict cX14_verdict 1 (some .int) ∈ lw_g := gg_ (i := 2804) (by decide +kernel) (by decide +kernel)
theorem t_2808 : Cond.code yX14_condition cX14_condition 2 (some .int) ∈ lw_g := gg_ (i := 2808) (by decide +kernel) (by decide +kernel)
theorem t_2809 : Cond.constantLong RX14 752 (3) ∈ lw_g := gg_ (i := 2809) (by decide +kernel) (by decide +kernel)
theorem t_2813 : Cond.code yX14_changed cX14_changed 2 (some .int) ∈ lw_g := gg_ (i := 2813) (by decide +kernel) (by decide +kernel)
theorem t_2817 : Cond.code yX14_thrown cX14_thrown 4 (some .int) ∈ lw_g := gg_ (i := 2817) (by decide +kernel) (by decide +kernel)
theorem t_2818 : Cond.methodLink RX14 754 yX14_lettersOf ∈ lw_g := gg_ (i := 2818) (by decide +kernel) (by decide +kernel)
theorem t_2819 : Cond.static yX14_lettersOf ∈ lw_g := gg_ (i := 2819) (by decide +kernel) (by decide +kernel)
theorem t_2820 : Cond.code yX14_lettersOf cX14_lettersOf 5 (some .int) ∈ lw_g := gg_ (i := 2820) (by decide +kernel) (by decide +kernel)
theorem t_2825 : Cond.code yX14_row cX14_row 1 (some .int) ∈ lw_g := gg_ (i := 2825) (by decide +kernel) (by decide +kernel)
theorem t_2829 : Cond.code yX14_told cX14_told 3 (some .int) ∈ lw_g := gg_ (i := 2829) (by decide +kernel) (by decide +kernel)
theorem t_2833 : Cond.code yX14_cell cX14_cell 3 (some .long) ∈ lw_g := gg_ (i := 2833) (by decide +kernel) (by decide +kernel)
theorem t_2834 : Cond.constantLong RX14 762 (-9223372036854775808) ∈ lw_g := gg_ (i := 2834) (by decide +kernel) (by decide +kernel)
theorem t_2838 : Cond.code yX14_beside cX14_beside 4 (some .long) ∈ lw_g := gg_ (i := 2838) (by decide +kernel) (by decide +kernel)
theorem t_2842 : Cond.code yX14_count cX14_count 2 (some .int) ∈ lw_g := gg_ (i := 2842) (by decide +kernel) (by decide +kernel)
theorem dX14_in_0 : decode cX14_in 0 = .ok (.lload_n 0, 1) := by decide +kernel
theorem dX14_in_1 : decode cX14_in 1 = .ok (.lload_n 2, 1) := by decide +kernel
theorem dX14_in_2 : decode cX14_in 2 = .ok (.lcmp, 1) := by decide +kernel
theorem dX14_in_3 : decode cX14_in 3 = .ok (.ifCond .lt 14, 3) := by decide +kernel
theorem dX14_in_6 : decode cX14_in 6 = .ok (.lload_n 0, 1) := by decide +kernel
theorem dX14_in_7 : decode cX14_in 7 = .ok (.lload 4, 2) := by decide +kernel
theorem dX14_in_9 : decode cX14_in 9 = .ok (.lcmp, 1) := by decide +kernel
theorem dX14_in_10 : decode cX14_in 10 = .ok (.ifCond .gt 7, 3) := by decide +kernel
theorem dX14_in_13 : decode cX14_in 13 = .ok (.iconst 1, 1) := by decide +kernel
theorem dX14_in_14 : decode cX14_in 14 = .ok (.goto 4, 3) := by decide +kernel
theorem dX14_in_17 : decode cX14_in 17 = .ok (.iconst 0, 1) := by decide +kernel
theorem dX14_in_18 : decode cX14_in 18 = .ok (.ireturn, 1) := by decide +kernel
theorem dX14_feed_0 : decode cX14_feed 0 = .ok (.aload_n 0, 1) := by decide +kernel
theorem dX14_feed_1 : decode cX14_feed 1 = .ok (.getfield 523, 3) := by decide +kernel
theorem dX14_feed_4 : decode cX14_feed 4 = .ok (.bipush 20, 2) := by decide +kernel
theorem dX14_feed_6 : decode cX14_feed 6 = .ok (.iadd, 1) := by decide +kernel
theorem dX14_feed_7 : decode cX14_feed 7 = .ok (.sipush 4000, 3) := by decide +kernel
theorem dX14_feed_10 : decode cX14_feed 10 = .ok (.if_icmp .le 6, 3) := by decide +kernel
theorem dX14_feed_13 : decode cX14_feed 13 = .ok (.bipush (-3), 2) := by decide +kernel
theorem dX14_feed_15 : decode cX14_feed 15 = .ok (.ireturn, 1) := by decide +kernel
theorem dX14_feed_16 : decode cX14_feed 16 = .ok (.iconst 0, 1) := by decide +kernel
theorem dX14_feed_17 : decode cX14_feed 17 = .ok (.istore 6, 2) := by decide +kernel
theorem dX14_feed_19 : decode cX14_feed 19 = .ok (.iload 6, 2) := by decide +kernel
theorem dX14_feed_21 : decode cX14_feed 21 = .ok (.iconst 5, 1) := by decide +kernel
theorem dX14_feed_22 : decode cX14_feed 22 = .ok (.if_icmp .ge 93, 3) := by decide +kernel
theorem dX14_feed_25 : decode cX14_feed 25 = .ok (.iload 6, 2) := by decide +kernel
theorem dX14_feed_27 : decode cX14_feed 27 = .ok (.ifCond .ne 7, 3) := by decide +kernel
theorem dX14_feed_30 : decode cX14_feed 30 = .ok (.iload_n 1, 1) := by decide +kernel
theorem dX14_feed_31 : decode cX14_feed 31 = .ok (.goto 36, 3) := by decide +kernel
theorem dX14_feed_34 : decode cX14_feed 34 = .ok (.iload 6, 2) := by decide +kernel
theorem dX14_feed_36 : decode cX14_feed 36 = .ok (.iconst 1, 1) := by decide +kernel
theorem dX14_feed_37 : decode cX14_feed 37 = .ok (.if_icmp .ne 7, 3) := by decide +kernel
theorem dX14_feed_40 : decode cX14_feed 40 = .ok (.iload_n 2, 1) := by decide +kernel
theorem dX14_feed_41 : decode cX14_feed 41 = .ok (.goto 26, 3) := by decide +kernel
theorem dX14_feed_44 : decode cX14_feed 44 = .ok (.iload 6, 2) := by decide +kernel
theorem dX14_feed_46 : decode cX14_feed 46 = .ok (.iconst 2, 1) := by decide +kernel
theorem dX14_feed_47 : decode cX14_feed 47 = .ok (.if_icmp .ne 7, 3) := by decide +kernel
theorem dX14_feed_50 : decode cX14_feed 50 = .ok (.iload_n 3, 1) := by decide +kernel
theorem dX14_feed_51 : decode cX14_feed 51 = .ok (.goto 16, 3) := by decide +kernel
theorem dX14_feed_54 : decode cX14_feed 54 = .ok (.iload 6, 2) := by decide +kernel
theorem dX14_feed_56 : decode cX14_feed 56 = .ok (.iconst 3, 1) := by decide +kernel
theorem dX14_feed_57 : decode cX14_feed 57 = .ok (.if_icmp .ne 8, 3) := by decide +kernel
theorem dX14_feed_60 : decode cX14_feed 60 = .ok (.iload 4, 2) := by decide +kernel
theorem dX14_feed_62 : decode cX14_feed 62 = .ok (.goto 5, 3) := by decide +kernel
theorem dX14_feed_65 : decode cX14_feed 65 = .ok (.iload 5, 2) := by decide +kernel
theorem dX14_feed_67 : decode cX14_feed 67 = .ok (.istore 7, 2) := by decide +kernel
theorem dX14_feed_69 : decode cX14_feed 69 = .ok (.bipush 24, 2) := by decide +kernel
theorem dX14_feed_71 : decode cX14_feed 71 = .ok (.istore 8, 2) := by decide +kernel
theorem dX14_feed_73 : decode cX14_feed 73 = .ok (.iload 8, 2) := by decide +kernel
theorem dX14_feed_75 : decode cX14_feed 75 = .ok (.ifCond .lt 34, 3) := by decide +kernel
theorem dX14_feed_78 : decode cX14_feed 78 = .ok (.aload_n 0, 1) := by decide +kernel
theorem dX14_feed_79 : decode cX14_feed 79 = .ok (.getfield 26, 3) := by decide +kernel
theorem dX14_feed_82 : decode cX14_feed 82 = .ok (.aload_n 0, 1) := by decide +kernel
theorem dX14_feed_83 : decode cX14_feed 83 = .ok (.getfield 523, 3) := by decide +kernel
theorem dX14_feed_86 : decode cX14_feed 86 = .ok (.iload 7, 2) := by decide +kernel
theorem dX14_feed_88 : decode cX14_feed 88 = .ok (.iload 8, 2) := by decide +kernel
theorem dX14_feed_90 : decode cX14_feed 90 = .ok (.ishr, 1) := by decide +kernel
theorem dX14_feed_91 : decode cX14_feed 91 = .ok (.i2b, 1) := by decide +kernel
theorem dX14_feed_92 : decode cX14_feed 92 = .ok (.bastore, 1) := by decide +kernel
theorem dX14_feed_93 : decode cX14_feed 93 = .ok (.aload_n 0, 1) := by decide +kernel
theorem dX14_feed_94 : decode cX14_feed 94 = .ok (.dup, 1) := by decide +kernel
theorem dX14_feed_95 : decode cX14_feed 95 = .ok (.getfield 523, 3) := by decide +kernel
theorem dX14_feed_98 : decode cX14_feed 98 = .ok (.iconst 1, 1) := by decide +kernel
theorem dX14_feed_99 : decode cX14_feed 99 = .ok (.iadd, 1) := by decide +kernel
theorem dX14_feed_100 : decode cX14_feed 100 = .ok (.putfield 523, 3) := by decide +kernel
theorem dX14_feed_103 : decode cX14_feed 103 = .ok (.iinc 8 (-8), 3) := by decide +kernel
theorem dX14_feed_106 : decode cX14_feed 106 = .ok (.goto (-33), 3) := by decide +kernel
theorem dX14_feed_109 : decode cX14_feed 109 = .ok (.iinc 6 1, 3) := by decide +kernel
theorem dX14_feed_112 : decode cX14_feed 112 = .ok (.goto (-93), 3) := by decide +kernel
theorem dX14_feed_115 : decode cX14_feed 115 = .ok (.aload_n 0, 1) := by decide +kernel
theorem dX14_feed_116 : decode cX14_feed 116 = .ok (.getfield 523, 3) := by decide +kernel
theorem dX14_feed_119 : decode cX14_feed 119 = .ok (.ireturn, 1) := by decide +kernel
theorem dX14_end_0 : decode cX14_end 0 = .ok (.iload_n 1, 1) := by decide +kernel
theorem dX14_end_1 : decode cX14_end 1 = .ok (.ifCond .lt 11, 3) := by decide +kernel
theorem dX14_end_4 : decode cX14_end 4 = .ok (.iload_n 1, 1) := by decide +kernel
theorem dX14_end_5 : decode cX14_end 5 = .ok (.aload_n 0, 1) := by decide +kernel
theorem dX14_end_6 : decode cX14_end 6 = .ok (.getfield 523, 3) := by decide +kernel
theorem dX14_end_9 : decode cX14_end 9 = .ok (.if_icmp .le 5, 3) := by decide +kernel
theorem dX14_end_12 : decode cX14_end 12 = .ok (.iconst (-1), 1) := by decide +kernel
theorem dX14_end_13 : decode cX14_end 13 = .ok (.ireturn, 1) := by decide +kernel
theorem dX14_end_14 : decode cX14_end 14 = .ok (.aload_n 0, 1) := by decide +kernel
theorem dX14_end_15 : decode cX14_end 15 = .ok (.iload_n 1, 1) := by decide +kernel
theorem dX14_end_16 : decode cX14_end 16 = .ok (.putfield 523, 3) := by decide +kernel
theorem dX14_end_19 : decode cX14_end 19 = .ok (.iload_n 1, 1) := by decide +kernel
theorem dX14_end_20 : decode cX14_end 20 = .ok (.ireturn, 1) := by decide +kernel
theorem dX14_fault_0 : decode cX14_fault 0 = .ok (.iload_n 1, 1) := by decide +kernel
theorem dX14_fault_1 : decode cX14_fault 1 = .ok (.ifCond .ne 10, 3) := by decide +kernel
theorem dX14_fault_4 : decode cX14_fault 4 = .ok (.aload_n 0, 1) := by decide +kernel
theorem dX14_fault_5 : decode cX14_fault 5 = .ok (.getfield 102, 3) := by decide +kernel
theorem dX14_fault_8 : decode cX14_fault 8 = .ok (.goto 16, 3) := by decide +kernel
theorem dX14_fault_11 : decode cX14_fault 11 = .ok (.iload_n 1, 1) := by decide +kernel
theorem dX14_fault_12 : decode cX14_fault 12 = .ok (.iconst 1, 1) := by decide +kernel
theorem dX14_fault_13 : decode cX14_fault 13 = .ok (.if_icmp .ne 10, 3) := by decide +kernel
theorem dX14_fault_16 : decode cX14_fault 16 = .ok (.aload_n 0, 1) := by decide +kernel
theorem dX14_fault_17 : decode cX14_fault 17 = .ok (.getfield 30, 3) := by decide +kernel
theorem dX14_fault_20 : decode cX14_fault 20 = .ok (.goto 4, 3) := by decide +kernel
theorem dX14_fault_23 : decode cX14_fault 23 = .ok (.iconst (-1), 1) := by decide +kernel
theorem dX14_fault_24 : decode cX14_fault 24 = .ok (.ireturn, 1) := by decide +kernel
theorem dX14_isClass_0 : decode cX14_isClass 0 = .ok (.iload_n 1, 1) := by decide +kernel
theorem dX14_isClass_1 : decode cX14_isClass 1 = .ok (.i2l, 1) := by decide +kernel
theorem dX14_isClass_2 : decode cX14_isClass 2 = .ok (.lconst 0, 1) := by decide +kernel
theorem dX14_isClass_3 : decode cX14_isClass 3 = .ok (.aload_n 0, 1) := by decide +kernel
theorem dX14_isClass_4 : decode cX14_isClass 4 = .ok (.getfield 19, 3) := by decide +kernel
theorem dX14_isClass_7 : decode cX14_isClass 7 = .ok (.getfield 499, 3) := by decide +kernel
theorem dX14_isClass_10 : decode cX14_isClass 10 = .ok (.iconst 1, 1) := by decide +kernel
theorem dX14_isClass_11 : decode cX14_isClass 11 = .ok (.isub, 1) := by decide +kernel
theorem dX14_isClass_12 : decode cX14_isClass 12 = .ok (.i2l, 1) := by decide +kernel
theorem dX14_isClass_13 : decode cX14_isClass 13 = .ok (.invokestatic 395, 3) := by decide +kernel
theorem dX14_isClass_16 : decode cX14_isClass 16 = .ok (.ireturn, 1) := by decide +kernel
theorem dX14_about_0 : decode cX14_about 0 = .ok (.aload_n 0, 1) := by decide +kernel
theorem dX14_about_1 : decode cX14_about 1 = .ok (.iload_n 1, 1) := by decide +kernel
theorem dX14_about_2 : decode cX14_about 2 = .ok (.invokevirtual 544, 3) := by decide +kernel
theorem dX14_about_5 : decode cX14_about 5 = .ok (.ifCond .ne 5, 3) := by decide +kernel
theorem dX14_about_8 : decode cX14_about 8 = .ok (.iconst (-1), 1) := by decide +kernel
theorem dX14_about_9 : decode cX14_about 9 = .ok (.ireturn, 1) := by decide +kernel
theorem dX14_about_10 : decode cX14_about 10 = .ok (.iload_n 2, 1) := by decide +kernel
theorem dX14_about_11 : decode cX14_about 11 = .ok (.tableswitch 97 0 5 #[37, 47, 57, 67, 77, 87], 37) := by decide +kernel
theorem dX14_about_48 : decode cX14_about 48 = .ok (.aload_n 0, 1) := by decide +kernel
theorem dX14_about_49 : decode cX14_about 49 = .ok (.getfield 19, 3) := by decide +kernel
theorem dX14_about_52 : decode cX14_about 52 = .ok (.getfield 297, 3) := by decide +kernel
theorem dX14_about_55 : decode cX14_about 55 = .ok (.iload_n 1, 1) := by decide +kernel
theorem dX14_about_56 : decode cX14_about 56 = .ok (.iaload, 1) := by decide +kernel
theorem dX14_about_57 : decode cX14_about 57 = .ok (.ireturn, 1) := by decide +kernel
theorem dX14_about_58 : decode cX14_about 58 = .ok (.aload_n 0, 1) := by decide +kernel
theorem dX14_about_59 : decode cX14_about 59 = .ok (.getfield 19, 3) := by decide +kernel
theorem dX14_about_62 : decode cX14_about 62 = .ok (.getfield 390, 3) := by decide +kernel
theorem dX14_about_65 : decode cX14_about 65 = .ok (.iload_n 1, 1) := by decide +kernel
theorem dX14_about_66 : decode cX14_about 66 = .ok (.iaload, 1) := by decide +kernel
theorem dX14_about_67 : decode cX14_about 67 = .ok (.ireturn, 1) := by decide +kernel
theorem dX14_about_68 : decode cX14_about 68 = .ok (.aload_n 0, 1) := by decide +kernel
theorem dX14_about_69 : decode cX14_about 69 = .ok (.getfield 19, 3) := by decide +kernel
theorem dX14_about_72 : decode cX14_about 72 = .ok (.getfield 399, 3) := by decide +kernel
theorem dX14_about_75 : decode cX14_about 75 = .ok (.iload_n 1, 1) := by decide +kernel
theorem dX14_about_76 : decode cX14_about 76 = .ok (.iaload, 1) := by decide +kernel
theorem dX14_about_77 : decode cX14_about 77 = .ok (.ireturn, 1) := by decide +kernel
theorem dX14_about_78 : decode cX14_about 78 = .ok (.aload_n 0, 1) := by decide +kernel
theorem dX14_about_79 : decode cX14_about 79 = .ok (.getfield 19, 3) := by decide +kernel
theorem dX14_about_82 : decode cX14_about 82 = .ok (.getfield 456, 3) := by decide +kernel
theorem dX14_about_85 : decode cX14_about 85 = .ok (.iload_n 1, 1) := by decide +kernel
theorem dX14_about_86 : decode cX14_about 86 = .ok (.iaload, 1) := by decide +kernel
theorem dX14_about_87 : decode cX14_about 87 = .ok (.ireturn, 1) := by decide +kernel
theorem dX14_about_88 : decode cX14_about 88 = .ok (.aload_n 0, 1) := by decide +kernel
theorem dX14_about_89 : decode cX14_about 89 = .ok (.getfield 19, 3) := by decide +kernel
theorem dX14_about_92 : decode cX14_about 92 = .ok (.getfield 419, 3) := by decide +kernel
theorem dX14_about_95 : decode cX14_about 95 = .ok (.iload_n 1, 1) := by decide +kernel
theorem dX14_about_96 : decode cX14_about 96 = .ok (.iaload, 1) := by decide +kernel
theorem dX14_about_97 : decode cX14_about 97 = .ok (.ireturn, 1) := by decide +kernel
theorem dX14_about_98 : decode cX14_about 98 = .ok (.aload_n 0, 1) := by decide +kernel
theorem dX14_about_99 : decode cX14_about 99 = .ok (.getfield 19, 3) := by decide +kernel
theorem dX14_about_102 : decode cX14_about 102 = .ok (.getfield 508, 3) := by decide +kernel
theorem dX14_about_105 : decode cX14_about 105 = .ok (.iload_n 1, 1) := by decide +kernel
theorem dX14_about_106 : decode cX14_about 106 = .ok (.iaload, 1) := by decide +kernel
theorem dX14_about_107 : decode cX14_about 107 = .ok (.ireturn, 1) := by decide +kernel
theorem dX14_about_108 : decode cX14_about 108 = .ok (.iconst (-1), 1) := by decide +kernel
theorem dX14_about_109 : decode cX14_about 109 = .ok (.ireturn, 1) := by decide +kernel
theorem dX14_member_0 : decode cX14_member 0 = .ok (.aload_n 0, 1) := by decide +kernel
theorem dX14_member_1 : decode cX14_member 1 = .ok (.iload_n 1, 1) := by decide +kernel
theorem dX14_member_2 : decode cX14_member 2 = .ok (.invokevirtual 544, 3) := by decide +kernel
theorem dX14_member_5 : decode cX14_member 5 = .ok (.ifCond .eq 24, 3) := by decide +kernel
theorem dX14_member_8 : decode cX14_member 8 = .ok (.iload_n 2, 1) := by decide +kernel
theorem dX14_member_9 : decode cX14_member 9 = .ok (.i2l, 1) := by decide +kernel
theorem dX14_member_10 : decode cX14_member 10 = .ok (.lconst 0, 1) := by decide +kernel
theorem dX14_member_11 : decode cX14_member 11 = .ok (.aload_n 0, 1) := by decide +kernel
theorem dX14_member_12 : decode cX14_member 12 = .ok (.getfield 19, 3) := by decide +kernel
theorem dX14_member_15 : decode cX14_member 15 = .ok (.getfield 456, 3) := by decide +kernel
theorem dX14_member_18 : decode cX14_member 18 = .ok (.iload_n 1, 1) := by decide +kernel
theorem dX14_member_19 : decode cX14_member 19 = .ok (.iaload, 1) := by decide +kernel
theorem dX14_member_20 : decode cX14_member 20 = .ok (.iconst 1, 1) := by decide +kernel
theorem dX14_member_21 : decode cX14_member 21 = .ok (.isub, 1) := by decide +kernel
theorem dX14_member_22 : decode cX14_member 22 = .ok (.i2l, 1) := by decide +kernel
theorem dX14_member_23 : decode cX14_member 23 = .ok (.invokestatic 395, 3) := by decide +kernel
theorem dX14_member_26 : decode cX14_member 26 = .ok (.ifCond .ne 5, 3) := by decide +kernel
theorem dX14_member_29 : decode cX14_member 29 = .ok (.iconst (-1), 1) := by decide +kernel
theorem dX14_member_30 : decode cX14_member 30 = .ok (.ireturn, 1) := by decide +kernel
theorem dX14_member_31 : decode cX14_member 31 = .ok (.aload_n 0, 1) := by decide +kernel
theorem dX14_member_32 : decode cX14_member 32 = .ok (.getfield 19, 3) := by decide +kernel
theorem dX14_member_35 : decode cX14_member 35 = .ok (.getfield 477, 3) := by decide +kernel
theorem dX14_member_38 : decode cX14_member 38 = .ok (.bipush 12, 2) := by decide +kernel
theorem dX14_member_40 : decode cX14_member 40 = .ok (.iload_n 1, 1) := by decide +kernel
theorem dX14_member_41 : decode cX14_member 41 = .ok (.imul, 1) := by decide +kernel
theorem dX14_member_42 : decode cX14_member 42 = .ok (.iload_n 2, 1) := by decide +kernel
theorem dX14_member_43 : decode cX14_member 43 = .ok (.iadd, 1) := by decide +kernel
theorem dX14_member_44 : decode cX14_member 44 = .ok (.iaload, 1) := by decide +kernel
theorem dX14_member_45 : decode cX14_member 45 = .ok (.istore 4, 2) := by decide +kernel
theorem dX14_member_47 : decode cX14_member 47 = .ok (.iload_n 3, 1) := by decide +kernel
theorem dX14_member_48 : decode cX14_member 48 = .ok (.tableswitch 168 0 5 #[40, 51, 62, 73, 138, 157], 40) := by decide +kernel
theorem dX14_member_88 : decode cX14_member 88 = .ok (.aload_n 0, 1) := by decide +kernel
theorem dX14_member_89 : decode cX14_member 89 = .ok (.getfield 19, 3) := by decide +kernel
theorem dX14_member_92 : decode cX14_member 92 = .ok (.getfield 453, 3) := by decide +kernel
theorem dX14_member_95 : decode cX14_member 95 = .ok (.iload 4, 2) := by decide +kernel
theorem dX14_member_97 : decode cX14_member 97 = .ok (.iaload, 1) := by decide +kernel
theorem dX14_member_98 : decode cX14_member 98 = .ok (.ireturn, 1) := by decide +kernel
theorem dX14_member_99 : decode cX14_member 99 = .ok (.aload_n 0, 1) := by decide +kernel
theorem dX14_member_100 : decode cX14_member 100 = .ok (.getfield 19, 3) := by decide +kernel
theorem dX14_member_103 : decode cX14_member 103 = .ok (.getfield 324, 3) := by decide +kernel
theorem dX14_member_106 : decode cX14_member 106 = .ok (.iload 4, 2) := by decide +kernel
theorem dX14_member_108 : decode cX14_member 108 = .ok (.iaload, 1) := by decide +kernel
theorem dX14_member_109 : decode cX14_member 109 = .ok (.ireturn, 1) := by decide +kernel
theorem dX14_member_110 : decode cX14_member 110 = .ok (.aload_n 0, 1) := by decide +kernel
theorem dX14_member_111 : decode cX14_member 111 = .ok (.getfield 19, 3) := by decide +kernel
theorem dX14_member_114 : decode cX14_member 114 = .ok (.getfield 314, 3) := by decide +kernel
theorem dX14_member_117 : decode cX14_member 117 = .ok (.iload 4, 2) := by decide +kernel
theorem dX14_member_119 : decode cX14_member 119 = .ok (.iaload, 1) := by decide +kernel
theorem dX14_member_120 : decode cX14_member 120 = .ok (.ireturn, 1) := by decide +kernel
theorem dX14_member_121 : decode cX14_member 121 = .ok (.iconst 0, 1) := by decide +kernel
theorem dX14_member_122 : decode cX14_member 122 = .ok (.istore 5, 2) := by decide +kernel
theorem dX14_member_124 : decode cX14_member 124 = .ok (.iconst 0, 1) := by decide +kernel
theorem dX14_member_125 : decode cX14_member 125 = .ok (.istore 6, 2) := by decide +kernel
theorem dX14_member_127 : decode cX14_member 127 = .ok (.iload 6, 2) := by decide +kernel
theorem dX14_member_129 : decode cX14_member 129 = .ok (.aload_n 0, 1) := by decide +kernel
theorem dX14_member_130 : decode cX14_member 130 = .ok (.getfield 19, 3) := by decide +kernel
theorem dX14_member_133 : decode cX14_member 133 = .ok (.getfield 330, 3) := by decide +kernel
theorem dX14_member_136 : decode cX14_member 136 = .ok (.if_icmp .ge 47, 3) := by decide +kernel
theorem dX14_member_139 : decode cX14_member 139 = .ok (.iload 5, 2) := by decide +kernel
theorem dX14_member_141 : decode cX14_member 141 = .ok (.aload_n 0, 1) := by decide +kernel
theorem dX14_member_142 : decode cX14_member 142 = .ok (.getfield 19, 3) := by decide +kernel
theorem dX14_member_145 : decode cX14_member 145 = .ok (.getfield 357, 3) := by decide +kernel
theorem dX14_member_148 : decode cX14_member 148 = .ok (.iload 6, 2) := by decide +kernel
theorem dX14_member_150 : decode cX14_member 150 = .ok (.iaload, 1) := by decide +kernel
theorem dX14_member_151 : decode cX14_member 151 = .ok (.iload 4, 2) := by decide +kernel
theorem dX14_member_153 : decode cX14_member 153 = .ok (.if_icmp .ne 20, 3) := by decide +kernel
theorem dX14_member_156 : decode cX14_member 156 = .ok (.aload_n 0, 1) := by decide +kernel
theorem dX14_member_157 : decode cX14_member 157 = .ok (.getfield 19, 3) := by decide +kernel
theorem dX14_member_160 : decode cX14_member 160 = .ok (.getfield 360, 3) := by decide +kernel
theorem dX14_member_163 : decode cX14_member 163 = .ok (.iload 6, 2) := by decide +kernel
theorem dX14_member_165 : decode cX14_member 165 = .ok (.baload, 1) := by decide +kernel
theorem dX14_member_166 : decode cX14_member 166 = .ok (.ifCond .eq 7, 3) := by decide +kernel
theorem dX14_member_169 : decode cX14_member 169 = .ok (.iconst 1, 1) := by decide +kernel
theorem dX14_member_170 : decode cX14_member 170 = .ok (.goto 4, 3) := by decide +kernel
theorem dX14_member_173 : decode cX14_member 173 = .ok (.iconst 0, 1) := by decide +kernel
theorem dX14_member_174 : decode cX14_member 174 = .ok (.iadd, 1) := by decide +kernel
theorem dX14_member_175 : decode cX14_member 175 = .ok (.istore 5, 2) := by decide +kernel
theorem dX14_member_177 : decode cX14_member 177 = .ok (.iinc 6 1, 3) := by decide +kernel
theorem dX14_member_180 : decode cX14_member 180 = .ok (.goto (-53), 3) := by decide +kernel
theorem dX14_member_183 : decode cX14_member 183 = .ok (.iload 5, 2) := by decide +kernel
theorem dX14_member_185 : decode cX14_member 185 = .ok (.ireturn, 1) := by decide +kernel
theorem dX14_member_186 : decode cX14_member 186 = .ok (.aload_n 0, 1) := by decide +kernel
theorem dX14_member_187 : decode cX14_member 187 = .ok (.getfield 19, 3) := by decide +kernel
theorem dX14_member_190 : decode cX14_member 190 = .ok (.getfield 306, 3) := by decide +kernel
theorem dX14_member_193 : decode cX14_member 193 = .ok (.iload 4, 2) := by decide +kernel
theorem dX14_member_195 : decode cX14_member 195 = .ok (.baload, 1) := by decide +kernel
theorem dX14_member_196 : decode cX14_member 196 = .ok (.ifCond .eq 7, 3) := by decide +kernel
theorem dX14_member_199 : decode cX14_member 199 = .ok (.iconst 1, 1) := by decide +kernel
theorem dX14_member_200 : decode cX14_member 200 = .ok (.goto 4, 3) := by decide +kernel
theorem dX14_member_203 : decode cX14_member 203 = .ok (.iconst 0, 1) := by decide +kernel
theorem dX14_member_204 : decode cX14_member 204 = .ok (.ireturn, 1) := by decide +kernel
theorem dX14_member_205 : decode cX14_member 205 = .ok (.aload_n 0, 1) := by decide +kernel
theorem dX14_member_206 : decode cX14_member 206 = .ok (.getfield 19, 3) := by decide +kernel
theorem dX14_member_209 : decode cX14_member 209 = .ok (.getfield 471, 3) := by decide +kernel
theorem dX14_member_212 : decode cX14_member 212 = .ok (.iload 4, 2) := by decide +kernel
theorem dX14_member_214 : decode cX14_member 214 = .ok (.iaload, 1) := by decide +kernel
theorem dX14_member_215 : decode cX14_member 215 = .ok (.ireturn, 1) := by decide +kernel
theorem dX14_member_216 : decode cX14_member 216 = .ok (.iconst (-1), 1) := by decide +kernel
theorem dX14_member_217 : decode cX14_member 217 = .ok (.ireturn, 1) := by decide +kernel
theorem dX14_model_0 : decode cX14_model 0 = .ok (.aload_n 0, 1) := by decide +kernel
theorem dX14_model_1 : decode cX14_model 1 = .ok (.iload_n 1, 1) := by decide +kernel
theorem dX14_model_2 : decode cX14_model 2 = .ok (.invokevirtual 544, 3) := by decide +kernel
theorem dX14_model_5 : decode cX14_model 5 = .ok (.ifCond .eq 16, 3) := by decide +kernel
theorem dX14_model_8 : decode cX14_model 8 = .ok (.iload_n 2, 1) := by decide +kernel
theorem dX14_model_9 : decode cX14_model 9 = .ok (.iconst (-1), 1) := by decide +kernel
theorem dX14_model_10 : decode cX14_model 10 = .ok (.if_icmp .eq 14, 3) := by decide +kernel
theorem dX14_model_13 : decode cX14_model 13 = .ok (.aload_n 0, 1) := by decide +kernel
theorem dX14_model_14 : decode cX14_model 14 = .ok (.iload_n 2, 1) := by decide +kernel
theorem dX14_model_15 : decode cX14_model 15 = .ok (.invokevirtual 544, 3) := by decide +kernel
theorem dX14_model_18 : decode cX14_model 18 = .ok (.ifCond .ne 6, 3) := by decide +kernel
theorem dX14_model_21 : decode cX14_model 21 = .ok (.bipush (-2), 2) := by decide +kernel
theorem dX14_model_23 : decode cX14_model 23 = .ok (.ireturn, 1) := by decide +kernel
theorem dX14_model_24 : decode cX14_model 24 = .ok (.aload_n 0, 1) := by decide +kernel
theorem dX14_model_25 : decode cX14_model 25 = .ok (.getfield 19, 3) := by decide +kernel
theorem dX14_model_28 : decode cX14_model 28 = .ok (.getfield 508, 3) := by decide +kernel
theorem dX14_model_31 : decode cX14_model 31 = .ok (.iload_n 1, 1) := by decide +kernel
theorem dX14_model_32 : decode cX14_model 32 = .ok (.iload_n 2, 1) := by decide +kernel
theorem dX14_model_33 : decode cX14_model 33 = .ok (.iastore, 1) := by decide +kernel
theorem dX14_model_34 : decode cX14_model 34 = .ok (.iconst 1, 1) := by decide +kernel
theorem dX14_model_35 : decode cX14_model 35 = .ok (.ireturn, 1) := by decide +kernel
theorem dX14_clear_0 : decode cX14_clear 0 = .ok (.aload_n 0, 1) := by decide +kernel
theorem dX14_clear_1 : decode cX14_clear 1 = .ok (.getfield 529, 3) := by decide +kernel
theorem dX14_clear_4 : decode cX14_clear 4 = .ok (.istore_n 1, 1) := by decide +kernel
theorem dX14_clear_5 : decode cX14_clear 5 = .ok (.aload_n 0, 1) := by decide +kernel
theorem dX14_clear_6 : decode cX14_clear 6 = .ok (.iconst 0, 1) := by decide +kernel
theorem dX14_clear_7 : decode cX14_clear 7 = .ok (.putfield 529, 3) := by decide +kernel
theorem dX14_clear_10 : decode cX14_clear 10 = .ok (.aload_n 0, 1) := by decide +kernel
theorem dX14_clear_11 : decode cX14_clear 11 = .ok (.iconst 0, 1) := by decide +kernel
theorem dX14_clear_12 : decode cX14_clear 12 = .ok (.putfield 532, 3) := by decide +kernel
theorem dX14_clear_15 : decode cX14_clear 15 = .ok (.aload_n 0, 1) := by decide +kernel
theorem dX14_clear_16 : decode cX14_clear 16 = .ok (.iconst 1, 1) := by decide +kernel
theorem dX14_clear_17 : decode cX14_clear 17 = .ok (.putfield 668, 3) := by decide +kernel
theorem dX14_clear_20 : decode cX14_clear 20 = .ok (.iload_n 1, 1) := by decide +kernel
theorem dX14_clear_21 : decode cX14_clear 21 = .ok (.ireturn, 1) := by decide +kernel
theorem dX14_make_0 : decode cX14_make 0 = .ok (.aload_n 0, 1) := by decide +kernel
theorem dX14_make_1 : decode cX14_make 1 = .ok (.iload_n 1, 1) := by decide +kernel
theorem dX14_make_2 : decode cX14_make 2 = .ok (.invokevirtual 544, 3) := by decide +kernel
theorem dX14_make_5 : decode cX14_make 5 = .ok (.ifCond .ne 6, 3) := by decide +kernel
theorem dX14_make_8 : decode cX14_make 8 = .ok (.bipush (-2), 2) := by decide +kernel
theorem dX14_make_10 : decode cX14_make 10 = .ok (.ireturn, 1) := by decide +kernel
theorem dX14_make_11 : decode cX14_make 11 = .ok (.aload_n 0, 1) := by decide +kernel
theorem dX14_make_12 : decode cX14_make 12 = .ok (.getfield 529, 3) := by decide +kernel
theorem dX14_make_15 : decode cX14_make 15 = .ok (.bipush 10, 2) := by decide +kernel
theorem dX14_make_17 : decode cX14_make 17 = .ok (.if_icmp .eq 11, 3) := by decide +kernel
theorem dX14_make_20 : decode cX14_make 20 = .ok (.aload_n 0, 1) := by decide +kernel
theorem dX14_make_21 : decode cX14_make 21 = .ok (.getfield 532, 3) := by decide +kernel
theorem dX14_make_24 : decode cX14_make 24 = .ok (.iconst 3, 1) := by decide +kernel
theorem dX14_make_25 : decode cX14_make 25 = .ok (.if_icmp .ne 6, 3) := by decide +kernel
theorem dX14_make_28 : decode cX14_make 28 = .ok (.bipush (-3), 2) := by decide +kernel
theorem dX14_make_30 : decode cX14_make 30 = .ok (.ireturn, 1) := by decide +kernel
theorem dX14_make_31 : decode cX14_make 31 = .ok (.aload_n 0, 1) := by decide +kernel
theorem dX14_make_32 : decode cX14_make 32 = .ok (.iconst 1, 1) := by decide +kernel
theorem dX14_make_33 : decode cX14_make 33 = .ok (.putfield 668, 3) := by decide +kernel
theorem dX14_make_36 : decode cX14_make 36 = .ok (.aload_n 0, 1) := by decide +kernel
theorem dX14_make_37 : decode cX14_make 37 = .ok (.iload_n 1, 1) := by decide +kernel
theorem dX14_make_38 : decode cX14_make 38 = .ok (.invokevirtual 677, 3) := by decide +kernel
theorem dX14_make_41 : decode cX14_make 41 = .ok (.aload_n 0, 1) := by decide +kernel
theorem dX14_make_42 : decode cX14_make 42 = .ok (.getfield 532, 3) := by decide +kernel
theorem dX14_make_45 : decode cX14_make 45 = .ok (.iconst 1, 1) := by decide +kernel
theorem dX14_make_46 : decode cX14_make 46 = .ok (.isub, 1) := by decide +kernel
theorem dX14_make_47 : decode cX14_make 47 = .ok (.ireturn, 1) := by decide +kernel
theorem dX14_call_0 : decode cX14_call 0 = .ok (.iload_n 1, 1) := by decide +kernel
theorem dX14_call_1 : decode cX14_call 1 = .ok (.i2l, 1) := by decide +kernel
theorem dX14_call_2 : decode cX14_call 2 = .ok (.lconst 0, 1) := by decide +kernel
theorem dX14_call_3 : decode cX14_call 3 = .ok (.aload_n 0, 1) := by decide +kernel
theorem dX14_call_4 : decode cX14_call 4 = .ok (.getfield 532, 3) := by decide +kernel
theorem dX14_call_7 : decode cX14_call 7 = .ok (.iconst 1, 1) := by decide +kernel
theorem dX14_call_8 : decode cX14_call 8 = .ok (.isub, 1) := by decide +kernel
theorem dX14_call_9 : decode cX14_call 9 = .ok (.i2l, 1) := by decide +kernel
theorem dX14_call_10 : decode cX14_call 10 = .ok (.invokestatic 395, 3) := by decide +kernel
theorem dX14_call_13 : decode cX14_call 13 = .ok (.ifCond .ne 6, 3) := by decide +kernel
theorem dX14_call_16 : decode cX14_call 16 = .ok (.bipush (-2), 2) := by decide +kernel
theorem dX14_call_18 : decode cX14_call 18 = .ok (.ireturn, 1) := by decide +kernel
theorem dX14_call_19 : decode cX14_call 19 = .ok (.aload_n 0, 1) := by decide +kernel
theorem dX14_call_20 : decode cX14_call 20 = .ok (.getfield 78, 3) := by decide +kernel
theorem dX14_call_23 : decode cX14_call 23 = .ok (.iload_n 1, 1) := by decide +kernel
theorem dX14_call_24 : decode cX14_call 24 = .ok (.iaload, 1) := by decide +kernel
theorem dX14_call_25 : decode cX14_call 25 = .ok (.istore 6, 2) := by decide +kernel
theorem dX14_call_27 : decode cX14_call 27 = .ok (.iload_n 2, 1) := by decide +kernel
theorem dX14_call_28 : decode cX14_call 28 = .ok (.i2l, 1) := by decide +kernel
theorem dX14_call_29 : decode cX14_call 29 = .ok (.lconst 0, 1) := by decide +kernel
theorem dX14_call_30 : decode cX14_call 30 = .ok (.aload_n 0, 1) := by decide +kernel
theorem dX14_call_31 : decode cX14_call 31 = .ok (.getfield 19, 3) := by decide +kernel
theorem dX14_call_34 : decode cX14_call 34 = .ok (.getfield 456, 3) := by decide +kernel
theorem dX14_call_37 : decode cX14_call 37 = .ok (.iload 6, 2) := by decide +kernel
theorem dX14_call_39 : decode cX14_call 39 = .ok (.iaload, 1) := by decide +kernel
theorem dX14_call_40 : decode cX14_call 40 = .ok (.iconst 1, 1) := by decide +kernel
theorem dX14_call_41 : decode cX14_call 41 = .ok (.isub, 1) := by decide +kernel
theorem dX14_call_42 : decode cX14_call 42 = .ok (.i2l, 1) := by decide +kernel
theorem dX14_call_43 : decode cX14_call 43 = .ok (.invokestatic 395, 3) := by decide +kernel
theorem dX14_call_46 : decode cX14_call 46 = .ok (.ifCond .ne 6, 3) := by decide +kernel
theorem dX14_call_49 : decode cX14_call 49 = .ok (.bipush (-2), 2) := by decide +kernel
theorem dX14_call_51 : decode cX14_call 51 = .ok (.ireturn, 1) := by decide +kernel
theorem dX14_call_52 : decode cX14_call 52 = .ok (.aload_n 0, 1) := by decide +kernel
theorem dX14_call_53 : decode cX14_call 53 = .ok (.getfield 19, 3) := by decide +kernel
theorem dX14_call_56 : decode cX14_call 56 = .ok (.getfield 477, 3) := by decide +kernel
theorem dX14_call_59 : decode cX14_call 59 = .ok (.bipush 12, 2) := by decide +kernel
theorem dX14_call_61 : decode cX14_call 61 = .ok (.iload 6, 2) := by decide +kernel
theorem dX14_call_63 : decode cX14_call 63 = .ok (.imul, 1) := by decide +kernel
theorem dX14_call_64 : decode cX14_call 64 = .ok (.iload_n 2, 1) := by decide +kernel
theorem dX14_call_65 : decode cX14_call 65 = .ok (.iadd, 1) := by decide +kernel
theorem dX14_call_66 : decode cX14_call 66 = .ok (.iaload, 1) := by decide +kernel
theorem dX14_call_67 : decode cX14_call 67 = .ok (.istore 7, 2) := by decide +kernel
theorem dX14_call_69 : decode cX14_call 69 = .ok (.aload_n 0, 1) := by decide +kernel
theorem dX14_call_70 : decode cX14_call 70 = .ok (.iload 7, 2) := by decide +kernel
theorem dX14_call_72 : decode cX14_call 72 = .ok (.iconst 0, 1) := by decide +kernel
theorem dX14_call_73 : decode cX14_call 73 = .ok (.iload_n 3, 1) := by decide +kernel
theorem dX14_call_74 : decode cX14_call 74 = .ok (.invokevirtual 680, 3) := by decide +kernel
theorem dX14_call_77 : decode cX14_call 77 = .ok (.ifCond .eq 27, 3) := by decide +kernel
theorem dX14_call_80 : decode cX14_call 80 = .ok (.aload_n 0, 1) := by decide +kernel
theorem dX14_call_81 : decode cX14_call 81 = .ok (.iload 7, 2) := by decide +kernel
theorem dX14_call_83 : decode cX14_call 83 = .ok (.iconst 1, 1) := by decide +kernel
theorem dX14_call_84 : decode cX14_call 84 = .ok (.iload 4, 2) := by decide +kernel
theorem dX14_call_86 : decode cX14_call 86 = .ok (.invokevirtual 680, 3) := by decide +kernel
theorem dX14_call_89 : decode cX14_call 89 = .ok (.ifCond .eq 15, 3) := by decide +kernel
theorem dX14_call_92 : decode cX14_call 92 = .ok (.aload_n 0, 1) := by decide +kernel
theorem dX14_call_93 : decode cX14_call 93 = .ok (.iload 7, 2) := by decide +kernel
theorem dX14_call_95 : decode cX14_call 95 = .ok (.iconst 2, 1) := by decide +kernel
theorem dX14_call_96 : decode cX14_call 96 = .ok (.iload 5, 2) := by decide +kernel
theorem dX14_call_98 : decode cX14_call 98 = .ok (.invokevirtual 680, 3) := by decide +kernel
theorem dX14_call_101 : decode cX14_call 101 = .ok (.ifCond .ne 6, 3) := by decide +kernel
theorem dX14_call_104 : decode cX14_call 104 = .ok (.bipush (-2), 2) := by decide +kernel
theorem dX14_call_106 : decode cX14_call 106 = .ok (.ireturn, 1) := by decide +kernel
theorem dX14_call_107 : decode cX14_call 107 = .ok (.aload_n 0, 1) := by decide +kernel
theorem dX14_call_108 : decode cX14_call 108 = .ok (.getfield 529, 3) := by decide +kernel
theorem dX14_call_111 : decode cX14_call 111 = .ok (.bipush 10, 2) := by decide +kernel
theorem dX14_call_113 : decode cX14_call 113 = .ok (.if_icmp .ne 6, 3) := by decide +kernel
theorem dX14_call_116 : decode cX14_call 116 = .ok (.bipush (-3), 2) := by decide +kernel
theorem dX14_call_118 : decode cX14_call 118 = .ok (.ireturn, 1) := by decide +kernel
theorem dX14_call_119 : decode cX14_call 119 = .ok (.aload_n 0, 1) := by decide +kernel
theorem dX14_call_120 : decode cX14_call 120 = .ok (.iconst 1, 1) := by decide +kernel
theorem dX14_call_121 : decode cX14_call 121 = .ok (.putfield 668, 3) := by decide +kernel
theorem dX14_call_124 : decode cX14_call 124 = .ok (.aload_n 0, 1) := by decide +kernel
theorem dX14_call_125 : decode cX14_call 125 = .ok (.iload_n 1, 1) := by decide +kernel
theorem dX14_call_126 : decode cX14_call 126 = .ok (.iload_n 2, 1) := by decide +kernel
theorem dX14_call_127 : decode cX14_call 127 = .ok (.iload_n 3, 1) := by decide +kernel
theorem dX14_call_128 : decode cX14_call 128 = .ok (.iload 4, 2) := by decide +kernel
theorem dX14_call_130 : decode cX14_call 130 = .ok (.iload 5, 2) := by decide +kernel
theorem dX14_call_132 : decode cX14_call 132 = .ok (.invokevirtual 683, 3) := by decide +kernel
theorem dX14_call_135 : decode cX14_call 135 = .ok (.aload_n 0, 1) := by decide +kernel
theorem dX14_call_136 : decode cX14_call 136 = .ok (.getfield 529, 3) := by decide +kernel
theorem dX14_call_139 : decode cX14_call 139 = .ok (.ireturn, 1) := by decide +kernel
theorem dX14_run_0 : decode cX14_run 0 = .ok (.aload_n 0, 1) := by decide +kernel
theorem dX14_run_1 : decode cX14_run 1 = .ok (.getfield 529, 3) := by decide +kernel
theorem dX14_run_4 : decode cX14_run 4 = .ok (.ifCond .ne 8, 3) := by decide +kernel
theorem dX14_run_7 : decode cX14_run 7 = .ok (.bipush (-2), 2) := by decide +kernel
theorem dX14_run_9 : decode cX14_run 9 = .ok (.goto 7, 3) := by decide +kernel
theorem dX14_run_12 : decode cX14_run 12 = .ok (.aload_n 0, 1) := by decide +kernel
theorem dX14_run_13 : decode cX14_run 13 = .ok (.invokevirtual 687, 3) := by decide +kernel
theorem dX14_run_16 : decode cX14_run 16 = .ok (.ireturn, 1) := by decide +kernel
theorem dX14_draw_0 : decode cX14_draw 0 = .ok (.aload_n 0, 1) := by decide +kernel
theorem dX14_draw_1 : decode cX14_draw 1 = .ok (.iload_n 1, 1) := by decide +kernel
theorem dX14_draw_2 : decode cX14_draw 2 = .ok (.invokevirtual 544, 3) := by decide +kernel
theorem dX14_draw_5 : decode cX14_draw 5 = .ok (.ifCond .eq 15, 3) := by decide +kernel
theorem dX14_draw_8 : decode cX14_draw 8 = .ok (.iload_n 3, 1) := by decide +kernel
theorem dX14_draw_9 : decode cX14_draw 9 = .ok (.i2l, 1) := by decide +kernel
theorem dX14_draw_10 : decode cX14_draw 10 = .ok (.lconst 1, 1) := by decide +kernel
theorem dX14_draw_11 : decode cX14_draw 11 = .ok (.ldc2_w 703, 3) := by decide +kernel
theorem dX14_draw_14 : decode cX14_draw 14 = .ok (.invokestatic 395, 3) := by decide +kernel
theorem dX14_draw_17 : decode cX14_draw 17 = .ok (.ifCond .ne 6, 3) := by decide +kernel
theorem dX14_draw_20 : decode cX14_draw 20 = .ok (.bipush (-2), 2) := by decide +kernel
theorem dX14_draw_22 : decode cX14_draw 22 = .ok (.ireturn, 1) := by decide +kernel
theorem dX14_draw_23 : decode cX14_draw 23 = .ok (.aload_n 0, 1) := by decide +kernel
theorem dX14_draw_24 : decode cX14_draw 24 = .ok (.iconst 0, 1) := by decide +kernel
theorem dX14_draw_25 : decode cX14_draw 25 = .ok (.putfield 538, 3) := by decide +kernel
theorem dX14_draw_28 : decode cX14_draw 28 = .ok (.aload_n 0, 1) := by decide +kernel
theorem dX14_draw_29 : decode cX14_draw 29 = .ok (.iconst 0, 1) := by decide +kernel
theorem dX14_draw_30 : decode cX14_draw 30 = .ok (.putfield 541, 3) := by decide +kernel
theorem dX14_draw_33 : decode cX14_draw 33 = .ok (.iconst 0, 1) := by decide +kernel
theorem dX14_draw_34 : decode cX14_draw 34 = .ok (.istore 4, 2) := by decide +kernel
theorem dX14_draw_36 : decode cX14_draw 36 = .ok (.iload 4, 2) := by decide +kernel
theorem dX14_draw_38 : decode cX14_draw 38 = .ok (.iload_n 3, 1) := by decide +kernel
theorem dX14_draw_39 : decode cX14_draw 39 = .ok (.if_icmp .ge 38, 3) := by decide +kernel
theorem dX14_draw_42 : decode cX14_draw 42 = .ok (.aload_n 0, 1) := by decide +kernel
theorem dX14_draw_43 : decode cX14_draw 43 = .ok (.iload_n 2, 1) := by decide +kernel
theorem dX14_draw_44 : decode cX14_draw 44 = .ok (.sipush 7919, 3) := by decide +kernel
theorem dX14_draw_47 : decode cX14_draw 47 = .ok (.iload 4, 2) := by decide +kernel
theorem dX14_draw_49 : decode cX14_draw 49 = .ok (.imul, 1) := by decide +kernel
theorem dX14_draw_50 : decode cX14_draw 50 = .ok (.iadd, 1) := by decide +kernel
theorem dX14_draw_51 : decode cX14_draw 51 = .ok (.putfield 691, 3) := by decide +kernel
theorem dX14_draw_54 : decode cX14_draw 54 = .ok (.aload_n 0, 1) := by decide +kernel
theorem dX14_draw_55 : decode cX14_draw 55 = .ok (.iload_n 1, 1) := by decide +kernel
theorem dX14_draw_56 : decode cX14_draw 56 = .ok (.invokevirtual 705, 3) := by decide +kernel
theorem dX14_draw_59 : decode cX14_draw 59 = .ok (.aload_n 0, 1) := by decide +kernel
theorem dX14_draw_60 : decode cX14_draw 60 = .ok (.invokevirtual 708, 3) := by decide +kernel
theorem dX14_draw_63 : decode cX14_draw 63 = .ok (.ifCond .eq 8, 3) := by decide +kernel
theorem dX14_draw_66 : decode cX14_draw 66 = .ok (.aload_n 0, 1) := by decide +kernel
theorem dX14_draw_67 : decode cX14_draw 67 = .ok (.getfield 618, 3) := by decide +kernel
theorem dX14_draw_70 : decode cX14_draw 70 = .ok (.ireturn, 1) := by decide +kernel
theorem dX14_draw_71 : decode cX14_draw 71 = .ok (.iinc 4 1, 3) := by decide +kernel
theorem dX14_draw_74 : decode cX14_draw 74 = .ok (.goto (-38), 3) := by decide +kernel
theorem dX14_draw_77 : decode cX14_draw 77 = .ok (.iconst 0, 1) := by decide +kernel
theorem dX14_draw_78 : decode cX14_draw 78 = .ok (.ireturn, 1) := by decide +kernel
theorem dX14_all_0 : decode cX14_all 0 = .ok (.aload_n 0, 1) := by decide +kernel
theorem dX14_all_1 : decode cX14_all 1 = .ok (.iload_n 1, 1) := by decide +kernel
theorem dX14_all_2 : decode cX14_all 2 = .ok (.invokevirtual 544, 3) := by decide +kernel
theorem dX14_all_5 : decode cX14_all 5 = .ok (.ifCond .eq 15, 3) := by decide +kernel
theorem dX14_all_8 : decode cX14_all 8 = .ok (.iload_n 2, 1) := by decide +kernel
theorem dX14_all_9 : decode cX14_all 9 = .ok (.i2l, 1) := by decide +kernel
theorem dX14_all_10 : decode cX14_all 10 = .ok (.lconst 1, 1) := by decide +kernel
theorem dX14_all_11 : decode cX14_all 11 = .ok (.ldc2_w 727, 3) := by decide +kernel
theorem dX14_all_14 : decode cX14_all 14 = .ok (.invokestatic 395, 3) := by decide +kernel
theorem dX14_all_17 : decode cX14_all 17 = .ok (.ifCond .ne 6, 3) := by decide +kernel
theorem dX14_all_20 : decode cX14_all 20 = .ok (.bipush (-2), 2) := by decide +kernel
theorem dX14_all_22 : decode cX14_all 22 = .ok (.ireturn, 1) := by decide +kernel
theorem dX14_all_23 : decode cX14_all 23 = .ok (.aload_n 0, 1) := by decide +kernel
theorem dX14_all_24 : decode cX14_all 24 = .ok (.iconst 0, 1) := by decide +kernel
theorem dX14_all_25 : decode cX14_all 25 = .ok (.putfield 538, 3) := by decide +kernel
theorem dX14_all_28 : decode cX14_all 28 = .ok (.aload_n 0, 1) := by decide +kernel
theorem dX14_all_29 : decode cX14_all 29 = .ok (.iconst 0, 1) := by decide +kernel
theorem dX14_all_30 : decode cX14_all 30 = .ok (.putfield 541, 3) := by decide +kernel
theorem dX14_all_33 : decode cX14_all 33 = .ok (.aload_n 0, 1) := by decide +kernel
theorem dX14_all_34 : decode cX14_all 34 = .ok (.iconst 0, 1) := by decide +kernel
theorem dX14_all_35 : decode cX14_all 35 = .ok (.putfield 711, 3) := by decide +kernel
theorem dX14_all_38 : decode cX14_all 38 = .ok (.iconst 1, 1) := by decide +kernel
theorem dX14_all_39 : decode cX14_all 39 = .ok (.istore_n 3, 1) := by decide +kernel
theorem dX14_all_40 : decode cX14_all 40 = .ok (.iload_n 3, 1) := by decide +kernel
theorem dX14_all_41 : decode cX14_all 41 = .ok (.iload_n 2, 1) := by decide +kernel
theorem dX14_all_42 : decode cX14_all 42 = .ok (.if_icmp .gt 41, 3) := by decide +kernel
theorem dX14_all_45 : decode cX14_all 45 = .ok (.aload_n 0, 1) := by decide +kernel
theorem dX14_all_46 : decode cX14_all 46 = .ok (.invokevirtual 697, 3) := by decide +kernel
theorem dX14_all_49 : decode cX14_all 49 = .ok (.istore 4, 2) := by decide +kernel
theorem dX14_all_51 : decode cX14_all 51 = .ok (.aload_n 0, 1) := by decide +kernel
theorem dX14_all_52 : decode cX14_all 52 = .ok (.iload_n 1, 1) := by decide +kernel
theorem dX14_all_53 : decode cX14_all 53 = .ok (.iload_n 3, 1) := by decide +kernel
theorem dX14_all_54 : decode cX14_all 54 = .ok (.invokevirtual 717, 3) := by decide +kernel
theorem dX14_all_57 : decode cX14_all 57 = .ok (.ifCond .ne 6, 3) := by decide +kernel
theorem dX14_all_60 : decode cX14_all 60 = .ok (.goto 17, 3) := by decide +kernel
theorem dX14_all_63 : decode cX14_all 63 = .ok (.aload_n 0, 1) := by decide +kernel
theorem dX14_all_64 : decode cX14_all 64 = .ok (.getfield 711, 3) := by decide +kernel
theorem dX14_all_67 : decode cX14_all 67 = .ok (.ifCond .le 8, 3) := by decide +kernel
theorem dX14_all_70 : decode cX14_all 70 = .ok (.aload_n 0, 1) := by decide +kernel
theorem dX14_all_71 : decode cX14_all 71 = .ok (.getfield 711, 3) := by decide +kernel
theorem dX14_all_74 : decode cX14_all 74 = .ok (.ireturn, 1) := by decide +kernel
theorem dX14_all_75 : decode cX14_all 75 = .ok (.iload_n 2, 1) := by decide +kernel
theorem dX14_all_76 : decode cX14_all 76 = .ok (.istore_n 3, 1) := by decide +kernel
theorem dX14_all_77 : decode cX14_all 77 = .ok (.iinc 3 1, 3) := by decide +kernel
theorem dX14_all_80 : decode cX14_all 80 = .ok (.goto (-40), 3) := by decide +kernel
theorem dX14_all_83 : decode cX14_all 83 = .ok (.aload_n 0, 1) := by decide +kernel
theorem dX14_all_84 : decode cX14_all 84 = .ok (.invokevirtual 729, 3) := by decide +kernel
theorem dX14_all_87 : decode cX14_all 87 = .ok (.iconst 0, 1) := by decide +kernel
theorem dX14_all_88 : decode cX14_all 88 = .ok (.ireturn, 1) := by decide +kernel
theorem dX14_tried_0 : decode cX14_tried 0 = .ok (.aload_n 0, 1) := by decide +kernel
theorem dX14_tried_1 : decode cX14_tried 1 = .ok (.getfield 538, 3) := by decide +kernel
theorem dX14_tried_4 : decode cX14_tried 4 = .ok (.ireturn, 1) := by decide +kernel
theorem dX14_cut_0 : decode cX14_cut 0 = .ok (.aload_n 0, 1) := by decide +kernel
theorem dX14_cut_1 : decode cX14_cut 1 = .ok (.getfield 541, 3) := by decide +kernel
theorem dX14_cut_4 : decode cX14_cut 4 = .ok (.ireturn, 1) := by decide +kernel
theorem dX14_shrink_0 : decode cX14_shrink 0 = .ok (.aload_n 0, 1) := by decide +kernel
theorem dX14_shrink_1 : decode cX14_shrink 1 = .ok (.getfield 618, 3) := by decide +kernel
theorem dX14_shrink_4 : decode cX14_shrink 4 = .ok (.ifCond .le 10, 3) := by decide +kernel
theorem dX14_shrink_7 : decode cX14_shrink 7 = .ok (.aload_n 0, 1) := by decide +kernel
theorem dX14_shrink_8 : decode cX14_shrink 8 = .ok (.getfield 668, 3) := by decide +kernel
theorem dX14_shrink_11 : decode cX14_shrink 11 = .ok (.ifCond .eq 6, 3) := by decide +kernel
theorem dX14_shrink_14 : decode cX14_shrink 14 = .ok (.bipush (-2), 2) := by decide +kernel
theorem dX14_shrink_16 : decode cX14_shrink 16 = .ok (.ireturn, 1) := by decide +kernel
theorem dX14_shrink_17 : decode cX14_shrink 17 = .ok (.aload_n 0, 1) := by decide +kernel
theorem dX14_shrink_18 : decode cX14_shrink 18 = .ok (.getfield 618, 3) := by decide +kernel
theorem dX14_shrink_21 : decode cX14_shrink 21 = .ok (.istore_n 1, 1) := by decide +kernel
theorem dX14_shrink_22 : decode cX14_shrink 22 = .ok (.aload_n 0, 1) := by decide +kernel
theorem dX14_shrink_23 : decode cX14_shrink 23 = .ok (.getfield 81, 3) := by decide +kernel
theorem dX14_shrink_26 : decode cX14_shrink 26 = .ok (.iconst 2, 1) := by decide +kernel
theorem dX14_shrink_27 : decode cX14_shrink 27 = .ok (.iaload, 1) := by decide +kernel
theorem dX14_shrink_28 : decode cX14_shrink 28 = .ok (.istore_n 2, 1) := by decide +kernel
theorem dX14_shrink_29 : decode cX14_shrink 29 = .ok (.iconst 0, 1) := by decide +kernel
theorem dX14_shrink_30 : decode cX14_shrink 30 = .ok (.istore_n 3, 1) := by decide +kernel
theorem dX14_shrink_31 : decode cX14_shrink 31 = .ok (.aload_n 0, 1) := by decide +kernel
theorem dX14_shrink_32 : decode cX14_shrink 32 = .ok (.iload_n 1, 1) := by decide +kernel
theorem dX14_shrink_33 : decode cX14_shrink 33 = .ok (.iload_n 2, 1) := by decide +kernel
theorem dX14_shrink_34 : decode cX14_shrink 34 = .ok (.invokevirtual 749, 3) := by decide +kernel
theorem dX14_shrink_37 : decode cX14_shrink 37 = .ok (.ifCond .eq 9, 3) := by decide +kernel
theorem dX14_shrink_40 : decode cX14_shrink 40 = .ok (.iinc 3 1, 3) := by decide +kernel
theorem dX14_shrink_43 : decode cX14_shrink 43 = .ok (.goto (-12), 3) := by decide +kernel
theorem dX14_shrink_46 : decode cX14_shrink 46 = .ok (.aload_n 0, 1) := by decide +kernel
theorem dX14_shrink_47 : decode cX14_shrink 47 = .ok (.invokevirtual 738, 3) := by decide +kernel
theorem dX14_shrink_50 : decode cX14_shrink 50 = .ok (.aload_n 0, 1) := by decide +kernel
theorem dX14_shrink_51 : decode cX14_shrink 51 = .ok (.invokevirtual 687, 3) := by decide +kernel
theorem dX14_shrink_54 : decode cX14_shrink 54 = .ok (.istore 4, 2) := by decide +kernel
theorem dX14_shrink_56 : decode cX14_shrink 56 = .ok (.iload_n 3, 1) := by decide +kernel
theorem dX14_shrink_57 : decode cX14_shrink 57 = .ok (.ireturn, 1) := by decide +kernel
theorem dX14_verdict_0 : decode cX14_verdict 0 = .ok (.aload_n 0, 1) := by decide +kernel
theorem dX14_verdict_1 : decode cX14_verdict 1 = .ok (.getfield 618, 3) := by decide +kernel
theorem dX14_verdict_4 : decode cX14_verdict 4 = .ok (.ireturn, 1) := by decide +kernel
theorem dX14_condition_0 : decode cX14_condition 0 = .ok (.iload_n 1, 1) := by decide +kernel
theorem dX14_condition_1 : decode cX14_condition 1 = .ok (.i2l, 1) := by decide +kernel
theorem dX14_condition_2 : decode cX14_condition 2 = .ok (.lconst 0, 1) := by decide +kernel
theorem dX14_condition_3 : decode cX14_condition 3 = .ok (.ldc2_w 752, 3) := by decide +kernel
theorem dX14_condition_6 : decode cX14_condition 6 = .ok (.invokestatic 395, 3) := by decide +kernel
theorem dX14_condition_9 : decode cX14_condition 9 = .ok (.ifCond .eq 12, 3) := by decide +kernel
theorem dX14_condition_12 : decode cX14_condition 12 = .ok (.aload_n 0, 1) := by decide +kernel
theorem dX14_condition_13 : decode cX14_condition 13 = .ok (.getfield 81, 3) := by decide +kernel
theorem dX14_condition_16 : decode cX14_condition 16 = .ok (.iload_n 1, 1) := by decide +kernel
theorem dX14_condition_17 : decode cX14_condition 17 = .ok (.iaload, 1) := by decide +kernel
theorem dX14_condition_18 : decode cX14_condition 18 = .ok (.goto 4, 3) := by decide +kernel
theorem dX14_condition_21 : decode cX14_condition 21 = .ok (.iconst (-1), 1) := by decide +kernel
theorem dX14_condition_22 : decode cX14_condition 22 = .ok (.ireturn, 1) := by decide +kernel
theorem dX14_changed_0 : decode cX14_changed 0 = .ok (.iload_n 1, 1) := by decide +kernel
theorem dX14_changed_1 : decode cX14_changed 1 = .ok (.i2l, 1) := by decide +kernel
theorem dX14_changed_2 : decode cX14_changed 2 = .ok (.lconst 0, 1) := by decide +kernel
theorem dX14_changed_3 : decode cX14_changed 3 = .ok (.lconst 1, 1) := by decide +kernel
theorem dX14_changed_4 : decode cX14_changed 4 = .ok (.invokestatic 395, 3) := by decide +kernel
theorem dX14_changed_7 : decode cX14_changed 7 = .ok (.ifCond .eq 12, 3) := by decide +kernel
theorem dX14_changed_10 : decode cX14_changed 10 = .ok (.aload_n 0, 1) := by decide +kernel
theorem dX14_changed_11 : decode cX14_changed 11 = .ok (.getfield 84, 3) := by decide +kernel
theorem dX14_changed_14 : decode cX14_changed 14 = .ok (.iload_n 1, 1) := by decide +kernel
theorem dX14_changed_15 : decode cX14_changed 15 = .ok (.iaload, 1) := by decide +kernel
theorem dX14_changed_16 : decode cX14_changed 16 = .ok (.goto 4, 3) := by decide +kernel
theorem dX14_changed_19 : decode cX14_changed 19 = .ok (.iconst (-1), 1) := by decide +kernel
theorem dX14_changed_20 : decode cX14_changed 20 = .ok (.ireturn, 1) := by decide +kernel
theorem dX14_lettersOf_0 : decode cX14_lettersOf 0 = .ok (.iconst 0, 1) := by decide +kernel
theorem dX14_lettersOf_1 : decode cX14_lettersOf 1 = .ok (.istore_n 2, 1) := by decide +kernel
theorem dX14_lettersOf_2 : decode cX14_lettersOf 2 = .ok (.lload_n 0, 1) := by decide +kernel
theorem dX14_lettersOf_3 : decode cX14_lettersOf 3 = .ok (.lstore_n 3, 1) := by decide +kernel
theorem dX14_lettersOf_4 : decode cX14_lettersOf 4 = .ok (.lload_n 3, 1) := by decide +kernel
theorem dX14_lettersOf_5 : decode cX14_lettersOf 5 = .ok (.lconst 0, 1) := by decide +kernel
theorem dX14_lettersOf_6 : decode cX14_lettersOf 6 = .ok (.lcmp, 1) := by decide +kernel
theorem dX14_lettersOf_7 : decode cX14_lettersOf 7 = .ok (.ifCond .eq 14, 3) := by decide +kernel
theorem dX14_lettersOf_10 : decode cX14_lettersOf 10 = .ok (.iinc 2 1, 3) := by decide +kernel
theorem dX14_lettersOf_13 : decode cX14_lettersOf 13 = .ok (.lload_n 3, 1) := by decide +kernel
theorem dX14_lettersOf_14 : decode cX14_lettersOf 14 = .ok (.bipush 8, 2) := by decide +kernel
theorem dX14_lettersOf_16 : decode cX14_lettersOf 16 = .ok (.lushr, 1) := by decide +kernel
theorem dX14_lettersOf_17 : decode cX14_lettersOf 17 = .ok (.lstore_n 3, 1) := by decide +kernel
theorem dX14_lettersOf_18 : decode cX14_lettersOf 18 = .ok (.goto (-14), 3) := by decide +kernel
theorem dX14_lettersOf_21 : decode cX14_lettersOf 21 = .ok (.iload_n 2, 1) := by decide +kernel
theorem dX14_lettersOf_22 : decode cX14_lettersOf 22 = .ok (.ireturn, 1) := by decide +kernel
theorem dX14_thrown_0 : decode cX14_thrown 0 = .ok (.aload_n 0, 1) := by decide +kernel
theorem dX14_thrown_1 : decode cX14_thrown 1 = .ok (.getfield 556, 3) := by decide +kernel
theorem dX14_thrown_4 : decode cX14_thrown 4 = .ok (.invokestatic 754, 3) := by decide +kernel
theorem dX14_thrown_7 : decode cX14_thrown 7 = .ok (.istore_n 2, 1) := by decide +kernel
theorem dX14_thrown_8 : decode cX14_thrown 8 = .ok (.aload_n 0, 1) := by decide +kernel
theorem dX14_thrown_9 : decode cX14_thrown 9 = .ok (.getfield 559, 3) := by decide +kernel
theorem dX14_thrown_12 : decode cX14_thrown 12 = .ok (.invokestatic 754, 3) := by decide +kernel
theorem dX14_thrown_15 : decode cX14_thrown 15 = .ok (.istore_n 3, 1) := by decide +kernel
theorem dX14_thrown_16 : decode cX14_thrown 16 = .ok (.iload_n 1, 1) := by decide +kernel
theorem dX14_thrown_17 : decode cX14_thrown 17 = .ok (.i2l, 1) := by decide +kernel
theorem dX14_thrown_18 : decode cX14_thrown 18 = .ok (.lconst 0, 1) := by decide +kernel
theorem dX14_thrown_19 : decode cX14_thrown 19 = .ok (.iload_n 2, 1) := by decide +kernel
theorem dX14_thrown_20 : decode cX14_thrown 20 = .ok (.iload_n 3, 1) := by decide +kernel
theorem dX14_thrown_21 : decode cX14_thrown 21 = .ok (.iadd, 1) := by decide +kernel
theorem dX14_thrown_22 : decode cX14_thrown 22 = .ok (.iconst 1, 1) := by decide +kernel
theorem dX14_thrown_23 : decode cX14_thrown 23 = .ok (.isub, 1) := by decide +kernel
theorem dX14_thrown_24 : decode cX14_thrown 24 = .ok (.i2l, 1) := by decide +kernel
theorem dX14_thrown_25 : decode cX14_thrown 25 = .ok (.invokestatic 395, 3) := by decide +kernel
theorem dX14_thrown_28 : decode cX14_thrown 28 = .ok (.ifCond .ne 5, 3) := by decide +kernel
theorem dX14_thrown_31 : decode cX14_thrown 31 = .ok (.iconst (-1), 1) := by decide +kernel
theorem dX14_thrown_32 : decode cX14_thrown 32 = .ok (.ireturn, 1) := by decide +kernel
theorem dX14_thrown_33 : decode cX14_thrown 33 = .ok (.iload_n 1, 1) := by decide +kernel
theorem dX14_thrown_34 : decode cX14_thrown 34 = .ok (.iload_n 2, 1) := by decide +kernel
theorem dX14_thrown_35 : decode cX14_thrown 35 = .ok (.if_icmp .ge 19, 3) := by decide +kernel
theorem dX14_thrown_38 : decode cX14_thrown 38 = .ok (.aload_n 0, 1) := by decide +kernel
theorem dX14_thrown_39 : decode cX14_thrown 39 = .ok (.getfield 556, 3) := by decide +kernel
theorem dX14_thrown_42 : decode cX14_thrown 42 = .ok (.bipush 8, 2) := by decide +kernel
theorem dX14_thrown_44 : decode cX14_thrown 44 = .ok (.iload_n 2, 1) := by decide +kernel
theorem dX14_thrown_45 : decode cX14_thrown 45 = .ok (.iconst 1, 1) := by decide +kernel
theorem dX14_thrown_46 : decode cX14_thrown 46 = .ok (.isub, 1) := by decide +kernel
theorem dX14_thrown_47 : decode cX14_thrown 47 = .ok (.iload_n 1, 1) := by decide +kernel
theorem dX14_thrown_48 : decode cX14_thrown 48 = .ok (.isub, 1) := by decide +kernel
theorem dX14_thrown_49 : decode cX14_thrown 49 = .ok (.imul, 1) := by decide +kernel
theorem dX14_thrown_50 : decode cX14_thrown 50 = .ok (.lshr, 1) := by decide +kernel
theorem dX14_thrown_51 : decode cX14_thrown 51 = .ok (.goto 18, 3) := by decide +kernel
theorem dX14_thrown_54 : decode cX14_thrown 54 = .ok (.aload_n 0, 1) := by decide +kernel
theorem dX14_thrown_55 : decode cX14_thrown 55 = .ok (.getfield 559, 3) := by decide +kernel
theorem dX14_thrown_58 : decode cX14_thrown 58 = .ok (.bipush 8, 2) := by decide +kernel
theorem dX14_thrown_60 : decode cX14_thrown 60 = .ok (.iload_n 2, 1) := by decide +kernel
theorem dX14_thrown_61 : decode cX14_thrown 61 = .ok (.iload_n 3, 1) := by decide +kernel
theorem dX14_thrown_62 : decode cX14_thrown 62 = .ok (.iadd, 1) := by decide +kernel
theorem dX14_thrown_63 : decode cX14_thrown 63 = .ok (.iconst 1, 1) := by decide +kernel
theorem dX14_thrown_64 : decode cX14_thrown 64 = .ok (.isub, 1) := by decide +kernel
theorem dX14_thrown_65 : decode cX14_thrown 65 = .ok (.iload_n 1, 1) := by decide +kernel
theorem dX14_thrown_66 : decode cX14_thrown 66 = .ok (.isub, 1) := by decide +kernel
theorem dX14_thrown_67 : decode cX14_thrown 67 = .ok (.imul, 1) := by decide +kernel
theorem dX14_thrown_68 : decode cX14_thrown 68 = .ok (.lshr, 1) := by decide +kernel
theorem dX14_thrown_69 : decode cX14_thrown 69 = .ok (.ldc2_w 758, 3) := by decide +kernel
theorem dX14_thrown_72 : decode cX14_thrown 72 = .ok (.land, 1) := by decide +kernel
theorem dX14_thrown_73 : decode cX14_thrown 73 = .ok (.l2i, 1) := by decide +kernel
theorem dX14_thrown_74 : decode cX14_thrown 74 = .ok (.ireturn, 1) := by decide +kernel
theorem dX14_row_0 : decode cX14_row 0 = .ok (.aload_n 0, 1) := by decide +kernel
theorem dX14_row_1 : decode cX14_row 1 = .ok (.getfield 529, 3) := by decide +kernel
theorem dX14_row_4 : decode cX14_row 4 = .ok (.ireturn, 1) := by decide +kernel
theorem dX14_told_0 : decode cX14_told 0 = .ok (.iload_n 1, 1) := by decide +kernel
theorem dX14_told_1 : decode cX14_told 1 = .ok (.i2l, 1) := by decide +kernel
theorem dX14_told_2 : decode cX14_told 2 = .ok (.lconst 0, 1) := by decide +kernel
theorem dX14_told_3 : decode cX14_told 3 = .ok (.aload_n 0, 1) := by decide +kernel
theorem dX14_told_4 : decode cX14_told 4 = .ok (.getfield 529, 3) := by decide +kernel
theorem dX14_told_7 : decode cX14_told 7 = .ok (.iconst 1, 1) := by decide +kernel
theorem dX14_told_8 : decode cX14_told 8 = .ok (.isub, 1) := by decide +kernel
theorem dX14_told_9 : decode cX14_told 9 = .ok (.i2l, 1) := by decide +kernel
theorem dX14_told_10 : decode cX14_told 10 = .ok (.invokestatic 395, 3) := by decide +kernel
theorem dX14_told_13 : decode cX14_told 13 = .ok (.ifCond .ne 5, 3) := by decide +kernel
theorem dX14_told_16 : decode cX14_told 16 = .ok (.iconst (-1), 1) := by decide +kernel
theorem dX14_told_17 : decode cX14_told 17 = .ok (.ireturn, 1) := by decide +kernel
theorem dX14_told_18 : decode cX14_told 18 = .ok (.iload_n 2, 1) := by decide +kernel
theorem dX14_told_19 : decode cX14_told 19 = .ok (.tableswitch 82 0 6 #[41, 48, 55, 55, 55, 68, 75], 41) := by decide +kernel
theorem dX14_told_60 : decode cX14_told 60 = .ok (.aload_n 0, 1) := by decide +kernel
theorem dX14_told_61 : decode cX14_told 61 = .ok (.getfield 63, 3) := by decide +kernel
theorem dX14_told_64 : decode cX14_told 64 = .ok (.iload_n 1, 1) := by decide +kernel
theorem dX14_told_65 : decode cX14_told 65 = .ok (.iaload, 1) := by decide +kernel
theorem dX14_told_66 : decode cX14_told 66 = .ok (.ireturn, 1) := by decide +kernel
theorem dX14_told_67 : decode cX14_told 67 = .ok (.aload_n 0, 1) := by decide +kernel
theorem dX14_told_68 : decode cX14_told 68 = .ok (.getfield 66, 3) := by decide +kernel
theorem dX14_told_71 : decode cX14_told 71 = .ok (.iload_n 1, 1) := by decide +kernel
theorem dX14_told_72 : decode cX14_told 72 = .ok (.iaload, 1) := by decide +kernel
theorem dX14_told_73 : decode cX14_told 73 = .ok (.ireturn, 1) := by decide +kernel
theorem dX14_told_74 : decode cX14_told 74 = .ok (.aload_n 0, 1) := by decide +kernel
theorem dX14_told_75 : decode cX14_told 75 = .ok (.getfield 69, 3) := by decide +kernel
theorem dX14_told_78 : decode cX14_told 78 = .ok (.iconst 3, 1) := by decide +kernel
theorem dX14_told_79 : decode cX14_told 79 = .ok (.iload_n 1, 1) := by decide +kernel
theorem dX14_told_80 : decode cX14_told 80 = .ok (.imul, 1) := by decide +kernel
theorem dX14_told_81 : decode cX14_told 81 = .ok (.iload_n 2, 1) := by decide +kernel
theorem dX14_told_82 : decode cX14_told 82 = .ok (.iadd, 1) := by decide +kernel
theorem dX14_told_83 : decode cX14_told 83 = .ok (.iconst 2, 1) := by decide +kernel
theorem dX14_told_84 : decode cX14_told 84 = .ok (.isub, 1) := by decide +kernel
theorem dX14_told_85 : decode cX14_told 85 = .ok (.iaload, 1) := by decide +kernel
theorem dX14_told_86 : decode cX14_told 86 = .ok (.ireturn, 1) := by decide +kernel
theorem dX14_told_87 : decode cX14_told 87 = .ok (.aload_n 0, 1) := by decide +kernel
theorem dX14_told_88 : decode cX14_told 88 = .ok (.getfield 72, 3) := by decide +kernel
theorem dX14_told_91 : decode cX14_told 91 = .ok (.iload_n 1, 1) := by decide +kernel
theorem dX14_told_92 : decode cX14_told 92 = .ok (.iaload, 1) := by decide +kernel
theorem dX14_told_93 : decode cX14_told 93 = .ok (.ireturn, 1) := by decide +kernel
theorem dX14_told_94 : decode cX14_told 94 = .ok (.aload_n 0, 1) := by decide +kernel
theorem dX14_told_95 : decode cX14_told 95 = .ok (.getfield 75, 3) := by decide +kernel
theorem dX14_told_98 : decode cX14_told 98 = .ok (.iload_n 1, 1) := by decide +kernel
theorem dX14_told_99 : decode cX14_told 99 = .ok (.iaload, 1) := by decide +kernel
theorem dX14_told_100 : decode cX14_told 100 = .ok (.ireturn, 1) := by decide +kernel
theorem dX14_told_101 : decode cX14_told 101 = .ok (.iconst (-1), 1) := by decide +kernel
theorem dX14_told_102 : decode cX14_told 102 = .ok (.ireturn, 1) := by decide +kernel
theorem dX14_cell_0 : decode cX14_cell 0 = .ok (.iload_n 1, 1) := by decide +kernel
theorem dX14_cell_1 : decode cX14_cell 1 = .ok (.i2l, 1) := by decide +kernel
theorem dX14_cell_2 : decode cX14_cell 2 = .ok (.lconst 0, 1) := by decide +kernel
theorem dX14_cell_3 : decode cX14_cell 3 = .ok (.aload_n 0, 1) := by decide +kernel
theorem dX14_cell_4 : decode cX14_cell 4 = .ok (.getfield 621, 3) := by decide +kernel
theorem dX14_cell_7 : decode cX14_cell 7 = .ok (.iconst 1, 1) := by decide +kernel
theorem dX14_cell_8 : decode cX14_cell 8 = .ok (.isub, 1) := by decide +kernel
theorem dX14_cell_9 : decode cX14_cell 9 = .ok (.i2l, 1) := by decide +kernel
theorem dX14_cell_10 : decode cX14_cell 10 = .ok (.invokestatic 395, 3) := by decide +kernel
theorem dX14_cell_13 : decode cX14_cell 13 = .ok (.ifCond .eq 44, 3) := by decide +kernel
theorem dX14_cell_16 : decode cX14_cell 16 = .ok (.iload_n 2, 1) := by decide +kernel
theorem dX14_cell_17 : decode cX14_cell 17 = .ok (.i2l, 1) := by decide +kernel
theorem dX14_cell_18 : decode cX14_cell 18 = .ok (.lconst 0, 1) := by decide +kernel
theorem dX14_cell_19 : decode cX14_cell 19 = .ok (.aload_n 0, 1) := by decide +kernel
theorem dX14_cell_20 : decode cX14_cell 20 = .ok (.getfield 19, 3) := by decide +kernel
theorem dX14_cell_23 : decode cX14_cell 23 = .ok (.getfield 399, 3) := by decide +kernel
theorem dX14_cell_26 : decode cX14_cell 26 = .ok (.aload_n 0, 1) := by decide +kernel
theorem dX14_cell_27 : decode cX14_cell 27 = .ok (.getfield 41, 3) := by decide +kernel
theorem dX14_cell_30 : decode cX14_cell 30 = .ok (.iload_n 1, 1) := by decide +kernel
theorem dX14_cell_31 : decode cX14_cell 31 = .ok (.iaload, 1) := by decide +kernel
theorem dX14_cell_32 : decode cX14_cell 32 = .ok (.iaload, 1) := by decide +kernel
theorem dX14_cell_33 : decode cX14_cell 33 = .ok (.iconst 1, 1) := by decide +kernel
theorem dX14_cell_34 : decode cX14_cell 34 = .ok (.isub, 1) := by decide +kernel
theorem dX14_cell_35 : decode cX14_cell 35 = .ok (.i2l, 1) := by decide +kernel
theorem dX14_cell_36 : decode cX14_cell 36 = .ok (.invokestatic 395, 3) := by decide +kernel
theorem dX14_cell_39 : decode cX14_cell 39 = .ok (.ifCond .eq 18, 3) := by decide +kernel
theorem dX14_cell_42 : decode cX14_cell 42 = .ok (.aload_n 0, 1) := by decide +kernel
theorem dX14_cell_43 : decode cX14_cell 43 = .ok (.getfield 45, 3) := by decide +kernel
theorem dX14_cell_46 : decode cX14_cell 46 = .ok (.bipush 24, 2) := by decide +kernel
theorem dX14_cell_48 : decode cX14_cell 48 = .ok (.iload_n 1, 1) := by decide +kernel
theorem dX14_cell_49 : decode cX14_cell 49 = .ok (.imul, 1) := by decide +kernel
theorem dX14_cell_50 : decode cX14_cell 50 = .ok (.iload_n 2, 1) := by decide +kernel
theorem dX14_cell_51 : decode cX14_cell 51 = .ok (.iadd, 1) := by decide +kernel
theorem dX14_cell_52 : decode cX14_cell 52 = .ok (.iaload, 1) := by decide +kernel
theorem dX14_cell_53 : decode cX14_cell 53 = .ok (.i2l, 1) := by decide +kernel
theorem dX14_cell_54 : decode cX14_cell 54 = .ok (.goto 6, 3) := by decide +kernel
theorem dX14_cell_57 : decode cX14_cell 57 = .ok (.ldc2_w 762, 3) := by decide +kernel
theorem dX14_cell_60 : decode cX14_cell 60 = .ok (.lreturn, 1) := by decide +kernel
theorem dX14_beside_0 : decode cX14_beside 0 = .ok (.iload_n 1, 1) := by decide +kernel
theorem dX14_beside_1 : decode cX14_beside 1 = .ok (.i2l, 1) := by decide +kernel
theorem dX14_beside_2 : decode cX14_beside 2 = .ok (.lconst 0, 1) := by decide +kernel
theorem dX14_beside_3 : decode cX14_beside 3 = .ok (.aload_n 0, 1) := by decide +kernel
theorem dX14_beside_4 : decode cX14_beside 4 = .ok (.getfield 621, 3) := by decide +kernel
theorem dX14_beside_7 : decode cX14_beside 7 = .ok (.iconst 1, 1) := by decide +kernel
theorem dX14_beside_8 : decode cX14_beside 8 = .ok (.isub, 1) := by decide +kernel
theorem dX14_beside_9 : decode cX14_beside 9 = .ok (.i2l, 1) := by decide +kernel
theorem dX14_beside_10 : decode cX14_beside 10 = .ok (.invokestatic 395, 3) := by decide +kernel
theorem dX14_beside_13 : decode cX14_beside 13 = .ok (.ifCond .ne 7, 3) := by decide +kernel
theorem dX14_beside_16 : decode cX14_beside 16 = .ok (.ldc2_w 762, 3) := by decide +kernel
theorem dX14_beside_19 : decode cX14_beside 19 = .ok (.lreturn, 1) := by decide +kernel
theorem dX14_beside_20 : decode cX14_beside 20 = .ok (.aload_n 0, 1) := by decide +kernel
theorem dX14_beside_21 : decode cX14_beside 21 = .ok (.getfield 41, 3) := by decide +kernel
theorem dX14_beside_24 : decode cX14_beside 24 = .ok (.iconst 3, 1) := by decide +kernel
theorem dX14_beside_25 : decode cX14_beside 25 = .ok (.iload_n 1, 1) := by decide +kernel
theorem dX14_beside_26 : decode cX14_beside 26 = .ok (.iadd, 1) := by decide +kernel
theorem dX14_beside_27 : decode cX14_beside 27 = .ok (.iaload, 1) := by decide +kernel
theorem dX14_beside_28 : decode cX14_beside 28 = .ok (.istore_n 3, 1) := by decide +kernel
theorem dX14_beside_29 : decode cX14_beside 29 = .ok (.iload_n 3, 1) := by decide +kernel
theorem dX14_beside_30 : decode cX14_beside 30 = .ok (.iconst (-1), 1) := by decide +kernel
theorem dX14_beside_31 : decode cX14_beside 31 = .ok (.if_icmp .eq 41, 3) := by decide +kernel
theorem dX14_beside_34 : decode cX14_beside 34 = .ok (.iload_n 2, 1) := by decide +kernel
theorem dX14_beside_35 : decode cX14_beside 35 = .ok (.i2l, 1) := by decide +kernel
theorem dX14_beside_36 : decode cX14_beside 36 = .ok (.lconst 0, 1) := by decide +kernel
theorem dX14_beside_37 : decode cX14_beside 37 = .ok (.aload_n 0, 1) := by decide +kernel
theorem dX14_beside_38 : decode cX14_beside 38 = .ok (.getfield 19, 3) := by decide +kernel
theorem dX14_beside_41 : decode cX14_beside 41 = .ok (.getfield 399, 3) := by decide +kernel
theorem dX14_beside_44 : decode cX14_beside 44 = .ok (.iload_n 3, 1) := by decide +kernel
theorem dX14_beside_45 : decode cX14_beside 45 = .ok (.iaload, 1) := by decide +kernel
theorem dX14_beside_46 : decode cX14_beside 46 = .ok (.iconst 1, 1) := by decide +kernel
theorem dX14_beside_47 : decode cX14_beside 47 = .ok (.isub, 1) := by decide +kernel
theorem dX14_beside_48 : decode cX14_beside 48 = .ok (.i2l, 1) := by decide +kernel
theorem dX14_beside_49 : decode cX14_beside 49 = .ok (.invokestatic 395, 3) := by decide +kernel
theorem dX14_beside_52 : decode cX14_beside 52 = .ok (.ifCond .eq 20, 3) := by decide +kernel
theorem dX14_beside_55 : decode cX14_beside 55 = .ok (.aload_n 0, 1) := by decide +kernel
theorem dX14_beside_56 : decode cX14_beside 56 = .ok (.getfield 45, 3) := by decide +kernel
theorem dX14_beside_59 : decode cX14_beside 59 = .ok (.bipush 24, 2) := by decide +kernel
theorem dX14_beside_61 : decode cX14_beside 61 = .ok (.iconst 3, 1) := by decide +kernel
theorem dX14_beside_62 : decode cX14_beside 62 = .ok (.iload_n 1, 1) := by decide +kernel
theorem dX14_beside_63 : decode cX14_beside 63 = .ok (.iadd, 1) := by decide +kernel
theorem dX14_beside_64 : decode cX14_beside 64 = .ok (.imul, 1) := by decide +kernel
theorem dX14_beside_65 : decode cX14_beside 65 = .ok (.iload_n 2, 1) := by decide +kernel
theorem dX14_beside_66 : decode cX14_beside 66 = .ok (.iadd, 1) := by decide +kernel
theorem dX14_beside_67 : decode cX14_beside 67 = .ok (.iaload, 1) := by decide +kernel
theorem dX14_beside_68 : decode cX14_beside 68 = .ok (.i2l, 1) := by decide +kernel
theorem dX14_beside_69 : decode cX14_beside 69 = .ok (.goto 6, 3) := by decide +kernel
theorem dX14_beside_72 : decode cX14_beside 72 = .ok (.ldc2_w 762, 3) := by decide +kernel
theorem dX14_beside_75 : decode cX14_beside 75 = .ok (.lreturn, 1) := by decide +kernel
theorem dX14_count_0 : decode cX14_count 0 = .ok (.iload_n 1, 1) := by decide +kernel
theorem dX14_count_1 : decode cX14_count 1 = .ok (.tableswitch 57 0 3 #[31, 39, 44, 52], 31) := by decide +kernel
theorem dX14_count_32 : decode cX14_count 32 = .ok (.aload_n 0, 1) := by decide +kernel
theorem dX14_count_33 : decode cX14_count 33 = .ok (.getfield 19, 3) := by decide +kernel
theorem dX14_count_36 : decode cX14_count 36 = .ok (.getfield 499, 3) := by decide +kernel
theorem dX14_count_39 : decode cX14_count 39 = .ok (.ireturn, 1) := by decide +kernel
theorem dX14_count_40 : decode cX14_count 40 = .ok (.aload_n 0, 1) := by decide +kernel
theorem dX14_count_41 : decode cX14_count 41 = .ok (.getfield 523, 3) := by decide +kernel
theorem dX14_count_44 : decode cX14_count 44 = .ok (.ireturn, 1) := by decide +kernel
theorem dX14_count_45 : decode cX14_count 45 = .ok (.aload_n 0, 1) := by decide +kernel
theorem dX14_count_46 : decode cX14_count 46 = .ok (.getfield 19, 3) := by decide +kernel
theorem dX14_count_49 : decode cX14_count 49 = .ok (.getfield 208, 3) := by decide +kernel
theorem dX14_count_52 : decode cX14_count 52 = .ok (.ireturn, 1) := by decide +kernel
theorem dX14_count_53 : decode cX14_count 53 = .ok (.aload_n 0, 1) := by decide +kernel
theorem dX14_count_54 : decode cX14_count 54 = .ok (.getfield 621, 3) := by decide +kernel
theorem dX14_count_57 : decode cX14_count 57 = .ok (.ireturn, 1) := by decide +kernel
theorem dX14_count_58 : decode cX14_count 58 = .ok (.iconst (-1), 1) := by decide +kernel
theorem dX14_count_59 : decode cX14_count 59 = .ok (.ireturn, 1) := by decide +kernel
