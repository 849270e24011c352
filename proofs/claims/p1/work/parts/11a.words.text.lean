theorem t_192 : Cond.initialized RX9 ∈ lw_g := gg_ (i := 192) (by decide +kernel) (by decide +kernel)
theorem t_193 : Cond.initialized RX6 ∈ lw_g := gg_ (i := 193) (by decide +kernel) (by decide +kernel)
theorem t_213 : Cond.instanceMethod objectInit ∈ lw_g := gg_ (i := 213) (by decide +kernel) (by decide +kernel)
theorem t_214 : Cond.code objectInit ⟨#[0xb1]⟩ 1 none ∈ lw_g := gg_ (i := 214) (by decide +kernel) (by decide +kernel)
theorem t_320 : Cond.arrayClass .int ∈ lw_g := gg_ (i := 320) (by decide +kernel) (by decide +kernel)
theorem t_321 : Cond.arrayClass .long ∈ lw_g := gg_ (i := 321) (by decide +kernel) (by decide +kernel)
theorem t_469 : Cond.code yX7_init cX7_init 2 none ∈ lw_g := gg_ (i := 469) (by decide +kernel) (by decide +kernel)
theorem t_470 : Cond.methodLink RX7 3 objectInit ∈ lw_g := gg_ (i := 470) (by decide +kernel) (by decide +kernel)
theorem t_471 : Cond.classLink RX7 11 RX9 ∈ lw_g := gg_ (i := 471) (by decide +kernel) (by decide +kernel)
theorem t_473 : Cond.instantiable RX9 13 ∈ lw_g := gg_ (i := 473) (by decide +kernel) (by decide +kernel)
theorem t_474 : Cond.methodLink RX7 17 yX9_init ∈ lw_g := gg_ (i := 474) (by decide +kernel) (by decide +kernel)
theorem t_475 : Cond.instanceMethod yX9_init ∈ lw_g := gg_ (i := 475) (by decide +kernel) (by decide +kernel)
theorem t_476 : Cond.code yX9_init cX9_init 1 none ∈ lw_g := gg_ (i := 476) (by decide +kernel) (by decide +kernel)
theorem t_477 : Cond.methodLink RX9 3 objectInit ∈ lw_g := gg_ (i := 477) (by decide +kernel) (by decide +kernel)
theorem t_488 : Cond.fieldLink RX9 11 "TrialGarden$Toy" "fieldName" "[J" ∈ lw_g := gg_ (i := 488) (by decide +kernel) (by decide +kernel)
theorem t_489 : Cond.fieldLink RX9 15 "TrialGarden$Toy" "fieldStart" "[I" ∈ lw_g := gg_ (i := 489) (by decide +kernel) (by decide +kernel)
theorem t_490 : Cond.fieldLink RX9 19 "TrialGarden$Toy" "rowCells" "[I" ∈ lw_g := gg_ (i := 490) (by decide +kernel) (by decide +kernel)
theorem t_492 : Cond.fieldLink RX9 22 "TrialGarden$Toy" "firstNumber" "[I" ∈ lw_g := gg_ (i := 492) (by decide +kernel) (by decide +kernel)
theorem t_503 : Cond.fieldLink RX9 25 "TrialGarden$Toy" "teller" "[I" ∈ lw_g := gg_ (i := 503) (by decide +kernel) (by decide +kernel)
theorem t_548 : Cond.classLink RX7 18 RX6 ∈ lw_g := gg_ (i := 548) (by decide +kernel) (by decide +kernel)
theorem t_550 : Cond.instantiable RX6 13 ∈ lw_g := gg_ (i := 550) (by decide +kernel) (by decide +kernel)
theorem t_551 : Cond.methodLink RX7 24 yX6_init ∈ lw_g := gg_ (i := 551) (by decide +kernel) (by decide +kernel)
theorem t_552 : Cond.instanceMethod yX6_init ∈ lw_g := gg_ (i := 552) (by decide +kernel) (by decide +kernel)
theorem t_553 : Cond.code yX6_init cX6_init 1 none ∈ lw_g := gg_ (i := 553) (by decide +kernel) (by decide +kernel)
theorem t_554 : Cond.methodLink RX6 1 objectInit ∈ lw_g := gg_ (i := 554) (by decide +kernel) (by decide +kernel)
theorem t_569 : Cond.fieldLink RX6 9 "TrialGarden$Telling" "low" "[I" ∈ lw_g := gg_ (i := 569) (by decide +kernel) (by decide +kernel)
theorem t_573 : Cond.fieldLink RX6 13 "TrialGarden$Telling" "high" "[I" ∈ lw_g := gg_ (i := 573) (by decide +kernel) (by decide +kernel)
theorem t_620 : Cond.fieldLink RX7 13 "TrialGarden$Text" "toys" "[LTrialGarden$Toy;" ∈ lw_g := gg_ (i := 620) (by decide +kernel) (by decide +kernel)
theorem t_629 : Cond.fieldLink RX7 20 "TrialGarden$Text" "tellings" "[LTrialGarden$Telling;" ∈ lw_g := gg_ (i := 629) (by decide +kernel) (by decide +kernel)
theorem t_640 : Cond.fieldLink RX7 25 "TrialGarden$Text" "ops" "[I" ∈ lw_g := gg_ (i := 640) (by decide +kernel) (by decide +kernel)
theorem t_642 : Cond.fieldLink RX7 29 "TrialGarden$Text" "args" "[I" ∈ lw_g := gg_ (i := 642) (by decide +kernel) (by decide +kernel)
theorem t_648 : Cond.fieldLink RX7 32 "TrialGarden$Text" "markKind" "[I" ∈ lw_g := gg_ (i := 648) (by decide +kernel) (by decide +kernel)
theorem t_651 : Cond.fieldLink RX7 35 "TrialGarden$Text" "markStart" "[I" ∈ lw_g := gg_ (i := 651) (by decide +kernel) (by decide +kernel)
theorem t_654 : Cond.fieldLink RX7 38 "TrialGarden$Text" "markPlace" "[I" ∈ lw_g := gg_ (i := 654) (by decide +kernel) (by decide +kernel)
theorem t_658 : Cond.fieldLink RX7 41 "TrialGarden$Text" "markFields" "[I" ∈ lw_g := gg_ (i := 658) (by decide +kernel) (by decide +kernel)
theorem t_661 : Cond.fieldLink RX7 44 "TrialGarden$Text" "markToy" "[I" ∈ lw_g := gg_ (i := 661) (by decide +kernel) (by decide +kernel)
theorem t_663 : Cond.fieldLink RX7 47 "TrialGarden$Text" "markWord" "[J" ∈ lw_g := gg_ (i := 663) (by decide +kernel) (by decide +kernel)
theorem t_671 : Cond.fieldLink RX7 51 "TrialGarden$Text" "begun" "[Z" ∈ lw_g := gg_ (i := 671) (by decide +kernel) (by decide +kernel)
theorem t_676 : Cond.fieldLink RX7 55 "TrialGarden$Text" "words" "[J" ∈ lw_g := gg_ (i := 676) (by decide +kernel) (by decide +kernel)
theorem t_722 : Cond.arrayClass .boolean ∈ lw_g := gg_ (i := 722) (by decide +kernel) (by decide +kernel)
theorem dX6_init_0 : decode cX6_init 0 = .ok (.aload_n 0, 1) := by decide +kernel
theorem dX6_init_1 : decode cX6_init 1 = .ok (.invokespecial 1, 3) := by decide +kernel
theorem dX6_init_4 : decode cX6_init 4 = .ok (.aload_n 0, 1) := by decide +kernel
theorem dX6_init_5 : decode cX6_init 5 = .ok (.iconst 3, 1) := by decide +kernel
theorem dX6_init_6 : decode cX6_init 6 = .ok (.newarray .int, 2) := by decide +kernel
theorem dX6_init_8 : decode cX6_init 8 = .ok (.putfield 9, 3) := by decide +kernel
theorem dX6_init_11 : decode cX6_init 11 = .ok (.aload_n 0, 1) := by decide +kernel
theorem dX6_init_12 : decode cX6_init 12 = .ok (.iconst 3, 1) := by decide +kernel
theorem dX6_init_13 : decode cX6_init 13 = .ok (.newarray .int, 2) := by decide +kernel
theorem dX6_init_15 : decode cX6_init 15 = .ok (.putfield 13, 3) := by decide +kernel
theorem dX6_init_18 : decode cX6_init 18 = .ok (.return_, 1) := by decide +kernel
theorem dX7_init_0 : decode cX7_init 0 = .ok (.aload_n 0, 1) := by decide +kernel
theorem dX7_init_1 : decode cX7_init 1 = .ok (.invokespecial 3, 3) := by decide +kernel
theorem dX7_init_4 : decode cX7_init 4 = .ok (.aload_n 0, 1) := by decide +kernel
theorem dX7_init_5 : decode cX7_init 5 = .ok (.bipush 8, 2) := by decide +kernel
theorem dX7_init_7 : decode cX7_init 7 = .ok (.anewarray 11, 3) := by decide +kernel
theorem dX7_init_10 : decode cX7_init 10 = .ok (.putfield 13, 3) := by decide +kernel
theorem dX7_init_13 : decode cX7_init 13 = .ok (.iconst 0, 1) := by decide +kernel
theorem dX7_init_14 : decode cX7_init 14 = .ok (.istore_n 1, 1) := by decide +kernel
theorem dX7_init_15 : decode cX7_init 15 = .ok (.iload_n 1, 1) := by decide +kernel
theorem dX7_init_16 : decode cX7_init 16 = .ok (.bipush 8, 2) := by decide +kernel
theorem dX7_init_18 : decode cX7_init 18 = .ok (.if_icmp .ge 22, 3) := by decide +kernel
theorem dX7_init_21 : decode cX7_init 21 = .ok (.aload_n 0, 1) := by decide +kernel
theorem dX7_init_22 : decode cX7_init 22 = .ok (.getfield 13, 3) := by decide +kernel
theorem dX7_init_25 : decode cX7_init 25 = .ok (.iload_n 1, 1) := by decide +kernel
theorem dX7_init_26 : decode cX7_init 26 = .ok (.new 11, 3) := by decide +kernel
theorem dX7_init_29 : decode cX7_init 29 = .ok (.dup, 1) := by decide +kernel
theorem dX7_init_30 : decode cX7_init 30 = .ok (.invokespecial 17, 3) := by decide +kernel
theorem dX7_init_33 : decode cX7_init 33 = .ok (.aastore, 1) := by decide +kernel
theorem dX7_init_34 : decode cX7_init 34 = .ok (.iinc 1 1, 3) := by decide +kernel
theorem dX7_init_37 : decode cX7_init 37 = .ok (.goto (-22), 3) := by decide +kernel
theorem dX7_init_40 : decode cX7_init 40 = .ok (.aload_n 0, 1) := by decide +kernel
theorem dX7_init_41 : decode cX7_init 41 = .ok (.bipush 96, 2) := by decide +kernel
theorem dX7_init_43 : decode cX7_init 43 = .ok (.anewarray 18, 3) := by decide +kernel
theorem dX7_init_46 : decode cX7_init 46 = .ok (.putfield 20, 3) := by decide +kernel
theorem dX7_init_49 : decode cX7_init 49 = .ok (.iconst 0, 1) := by decide +kernel
theorem dX7_init_50 : decode cX7_init 50 = .ok (.istore_n 1, 1) := by decide +kernel
theorem dX7_init_51 : decode cX7_init 51 = .ok (.iload_n 1, 1) := by decide +kernel
theorem dX7_init_52 : decode cX7_init 52 = .ok (.bipush 96, 2) := by decide +kernel
theorem dX7_init_54 : decode cX7_init 54 = .ok (.if_icmp .ge 22, 3) := by decide +kernel
theorem dX7_init_57 : decode cX7_init 57 = .ok (.aload_n 0, 1) := by decide +kernel
theorem dX7_init_58 : decode cX7_init 58 = .ok (.getfield 20, 3) := by decide +kernel
theorem dX7_init_61 : decode cX7_init 61 = .ok (.iload_n 1, 1) := by decide +kernel
theorem dX7_init_62 : decode cX7_init 62 = .ok (.new 18, 3) := by decide +kernel
theorem dX7_init_65 : decode cX7_init 65 = .ok (.dup, 1) := by decide +kernel
theorem dX7_init_66 : decode cX7_init 66 = .ok (.invokespecial 24, 3) := by decide +kernel
theorem dX7_init_69 : decode cX7_init 69 = .ok (.aastore, 1) := by decide +kernel
theorem dX7_init_70 : decode cX7_init 70 = .ok (.iinc 1 1, 3) := by decide +kernel
theorem dX7_init_73 : decode cX7_init 73 = .ok (.goto (-22), 3) := by decide +kernel
theorem dX7_init_76 : decode cX7_init 76 = .ok (.aload_n 0, 1) := by decide +kernel
theorem dX7_init_77 : decode cX7_init 77 = .ok (.sipush 2000, 3) := by decide +kernel
theorem dX7_init_80 : decode cX7_init 80 = .ok (.newarray .int, 2) := by decide +kernel
theorem dX7_init_82 : decode cX7_init 82 = .ok (.putfield 25, 3) := by decide +kernel
theorem dX7_init_85 : decode cX7_init 85 = .ok (.aload_n 0, 1) := by decide +kernel
theorem dX7_init_86 : decode cX7_init 86 = .ok (.sipush 2000, 3) := by decide +kernel
theorem dX7_init_89 : decode cX7_init 89 = .ok (.newarray .int, 2) := by decide +kernel
theorem dX7_init_91 : decode cX7_init 91 = .ok (.putfield 29, 3) := by decide +kernel
theorem dX7_init_94 : decode cX7_init 94 = .ok (.aload_n 0, 1) := by decide +kernel
theorem dX7_init_95 : decode cX7_init 95 = .ok (.sipush 500, 3) := by decide +kernel
theorem dX7_init_98 : decode cX7_init 98 = .ok (.newarray .int, 2) := by decide +kernel
theorem dX7_init_100 : decode cX7_init 100 = .ok (.putfield 32, 3) := by decide +kernel
theorem dX7_init_103 : decode cX7_init 103 = .ok (.aload_n 0, 1) := by decide +kernel
theorem dX7_init_104 : decode cX7_init 104 = .ok (.sipush 500, 3) := by decide +kernel
theorem dX7_init_107 : decode cX7_init 107 = .ok (.newarray .int, 2) := by decide +kernel
theorem dX7_init_109 : decode cX7_init 109 = .ok (.putfield 35, 3) := by decide +kernel
theorem dX7_init_112 : decode cX7_init 112 = .ok (.aload_n 0, 1) := by decide +kernel
theorem dX7_init_113 : decode cX7_init 113 = .ok (.sipush 500, 3) := by decide +kernel
theorem dX7_init_116 : decode cX7_init 116 = .ok (.newarray .int, 2) := by decide +kernel
theorem dX7_init_118 : decode cX7_init 118 = .ok (.putfield 38, 3) := by decide +kernel
theorem dX7_init_121 : decode cX7_init 121 = .ok (.aload_n 0, 1) := by decide +kernel
theorem dX7_init_122 : decode cX7_init 122 = .ok (.sipush 500, 3) := by decide +kernel
theorem dX7_init_125 : decode cX7_init 125 = .ok (.newarray .int, 2) := by decide +kernel
theorem dX7_init_127 : decode cX7_init 127 = .ok (.putfield 41, 3) := by decide +kernel
theorem dX7_init_130 : decode cX7_init 130 = .ok (.aload_n 0, 1) := by decide +kernel
theorem dX7_init_131 : decode cX7_init 131 = .ok (.sipush 500, 3) := by decide +kernel
theorem dX7_init_134 : decode cX7_init 134 = .ok (.newarray .int, 2) := by decide +kernel
theorem dX7_init_136 : decode cX7_init 136 = .ok (.putfield 44, 3) := by decide +kernel
theorem dX7_init_139 : decode cX7_init 139 = .ok (.aload_n 0, 1) := by decide +kernel
theorem dX7_init_140 : decode cX7_init 140 = .ok (.sipush 500, 3) := by decide +kernel
theorem dX7_init_143 : decode cX7_init 143 = .ok (.newarray .long, 2) := by decide +kernel
theorem dX7_init_145 : decode cX7_init 145 = .ok (.putfield 47, 3) := by decide +kernel
theorem dX7_init_148 : decode cX7_init 148 = .ok (.aload_n 0, 1) := by decide +kernel
theorem dX7_init_149 : decode cX7_init 149 = .ok (.sipush 420, 3) := by decide +kernel
theorem dX7_init_152 : decode cX7_init 152 = .ok (.newarray .boolean, 2) := by decide +kernel
theorem dX7_init_154 : decode cX7_init 154 = .ok (.putfield 51, 3) := by decide +kernel
theorem dX7_init_157 : decode cX7_init 157 = .ok (.aload_n 0, 1) := by decide +kernel
theorem dX7_init_158 : decode cX7_init 158 = .ok (.sipush 420, 3) := by decide +kernel
theorem dX7_init_161 : decode cX7_init 161 = .ok (.newarray .long, 2) := by decide +kernel
theorem dX7_init_163 : decode cX7_init 163 = .ok (.putfield 55, 3) := by decide +kernel
theorem dX7_init_166 : decode cX7_init 166 = .ok (.return_, 1) := by decide +kernel
theorem dX9_init_0 : decode cX9_init 0 = .ok (.aload_n 0, 1) := by decide +kernel
theorem dX9_init_1 : decode cX9_init 1 = .ok (.invokespecial 3, 3) := by decide +kernel
theorem dX9_init_4 : decode cX9_init 4 = .ok (.aload_n 0, 1) := by decide +kernel
theorem dX9_init_5 : decode cX9_init 5 = .ok (.bipush 10, 2) := by decide +kernel
theorem dX9_init_7 : decode cX9_init 7 = .ok (.newarray .long, 2) := by decide +kernel
theorem dX9_init_9 : decode cX9_init 9 = .ok (.putfield 11, 3) := by decide +kernel
theorem dX9_init_12 : decode cX9_init 12 = .ok (.aload_n 0, 1) := by decide +kernel
theorem dX9_init_13 : decode cX9_init 13 = .ok (.bipush 10, 2) := by decide +kernel
theorem dX9_init_15 : decode cX9_init 15 = .ok (.newarray .int, 2) := by decide +kernel
theorem dX9_init_17 : decode cX9_init 17 = .ok (.putfield 15, 3) := by decide +kernel
theorem dX9_init_20 : decode cX9_init 20 = .ok (.aload_n 0, 1) := by decide +kernel
theorem dX9_init_21 : decode cX9_init 21 = .ok (.bipush 10, 2) := by decide +kernel
theorem dX9_init_23 : decode cX9_init 23 = .ok (.newarray .int, 2) := by decide +kernel
theorem dX9_init_25 : decode cX9_init 25 = .ok (.putfield 19, 3) := by decide +kernel
theorem dX9_init_28 : decode cX9_init 28 = .ok (.aload_n 0, 1) := by decide +kernel
theorem dX9_init_29 : decode cX9_init 29 = .ok (.bipush 10, 2) := by decide +kernel
theorem dX9_init_31 : decode cX9_init 31 = .ok (.newarray .int, 2) := by decide +kernel
theorem dX9_init_33 : decode cX9_init 33 = .ok (.putfield 22, 3) := by decide +kernel
theorem dX9_init_36 : decode cX9_init 36 = .ok (.aload_n 0, 1) := by decide +kernel
theorem dX9_init_37 : decode cX9_init 37 = .ok (.bipush 12, 2) := by decide +kernel
theorem dX9_init_39 : decode cX9_init 39 = .ok (.newarray .int, 2) := by decide +kernel
theorem dX9_init_41 : decode cX9_init 41 = .ok (.putfield 25, 3) := by decide +kernel
theorem dX9_init_44 : decode cX9_init 44 = .ok (.return_, 1) := by decide +kernel
