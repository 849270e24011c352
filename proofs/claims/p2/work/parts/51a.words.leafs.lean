theorem t_191 : Cond.initialized RX7 ∈ lw_g := gg_ (i := 191) (by decide +kernel) (by decide +kernel)
theorem t_192 : Cond.initialized RX9 ∈ lw_g := gg_ (i := 192) (by decide +kernel) (by decide +kernel)
theorem t_197 : Cond.initialized RX4 ∈ lw_g := gg_ (i := 197) (by decide +kernel) (by decide +kernel)
theorem t_204 : Cond.initialized "java/lang/Math" ∈ lw_g := gg_ (i := 204) (by decide +kernel) (by decide +kernel)
theorem t_331 : Cond.fieldLink RX5 32 "TrialGarden$Scope" "toy" "LTrialGarden$Toy;" ∈ lw_g := gg_ (i := 331) (by decide +kernel) (by decide +kernel)
theorem t_334 : Cond.fieldLink RX5 9 "TrialGarden$Scope" "params" "[J" ∈ lw_g := gg_ (i := 334) (by decide +kernel) (by decide +kernel)
theorem t_336 : Cond.fieldLink RX5 18 "TrialGarden$Scope" "paramCount" "I" ∈ lw_g := gg_ (i := 336) (by decide +kernel) (by decide +kernel)
theorem t_338 : Cond.fieldLink RX5 15 "TrialGarden$Scope" "locals" "[J" ∈ lw_g := gg_ (i := 338) (by decide +kernel) (by decide +kernel)
theorem t_340 : Cond.fieldLink RX5 22 "TrialGarden$Scope" "localCount" "I" ∈ lw_g := gg_ (i := 340) (by decide +kernel) (by decide +kernel)
theorem t_342 : Cond.fieldLink RX5 25 "TrialGarden$Scope" "asking" "Z" ∈ lw_g := gg_ (i := 342) (by decide +kernel) (by decide +kernel)
theorem t_345 : Cond.fieldLink RX5 29 "TrialGarden$Scope" "inGives" "Z" ∈ lw_g := gg_ (i := 345) (by decide +kernel) (by decide +kernel)
theorem t_478 : Cond.fieldLink RX9 28 "TrialGarden$Toy" "name" "J" ∈ lw_g := gg_ (i := 478) (by decide +kernel) (by decide +kernel)
theorem t_480 : Cond.fieldLink RX9 32 "TrialGarden$Toy" "above" "I" ∈ lw_g := gg_ (i := 480) (by decide +kernel) (by decide +kernel)
theorem t_485 : Cond.fieldLink RX9 36 "TrialGarden$Toy" "fields" "I" ∈ lw_g := gg_ (i := 485) (by decide +kernel) (by decide +kernel)
theorem t_488 : Cond.fieldLink RX9 11 "TrialGarden$Toy" "fieldName" "[J" ∈ lw_g := gg_ (i := 488) (by decide +kernel) (by decide +kernel)
theorem t_489 : Cond.fieldLink RX9 15 "TrialGarden$Toy" "fieldStart" "[I" ∈ lw_g := gg_ (i := 489) (by decide +kernel) (by decide +kernel)
theorem t_490 : Cond.fieldLink RX9 19 "TrialGarden$Toy" "rowCells" "[I" ∈ lw_g := gg_ (i := 490) (by decide +kernel) (by decide +kernel)
theorem t_492 : Cond.fieldLink RX9 22 "TrialGarden$Toy" "firstNumber" "[I" ∈ lw_g := gg_ (i := 492) (by decide +kernel) (by decide +kernel)
theorem t_493 : Cond.fieldLink RX9 39 "TrialGarden$Toy" "cells" "I" ∈ lw_g := gg_ (i := 493) (by decide +kernel) (by decide +kernel)
theorem t_497 : Cond.fieldLink RX9 42 "TrialGarden$Toy" "members" "I" ∈ lw_g := gg_ (i := 497) (by decide +kernel) (by decide +kernel)
theorem t_511 : Cond.fieldLink RX9 45 "TrialGarden$Toy" "keptFirst" "I" ∈ lw_g := gg_ (i := 511) (by decide +kernel) (by decide +kernel)
theorem t_514 : Cond.fieldLink RX9 48 "TrialGarden$Toy" "keptCount" "I" ∈ lw_g := gg_ (i := 514) (by decide +kernel) (by decide +kernel)
theorem t_518 : Cond.fieldLink RX9 51 "TrialGarden$Toy" "model" "I" ∈ lw_g := gg_ (i := 518) (by decide +kernel) (by decide +kernel)
theorem t_562 : Cond.fieldLink RX6 16 "TrialGarden$Telling" "params" "I" ∈ lw_g := gg_ (i := 562) (by decide +kernel) (by decide +kernel)
theorem t_569 : Cond.fieldLink RX6 9 "TrialGarden$Telling" "low" "[I" ∈ lw_g := gg_ (i := 569) (by decide +kernel) (by decide +kernel)
theorem t_573 : Cond.fieldLink RX6 13 "TrialGarden$Telling" "high" "[I" ∈ lw_g := gg_ (i := 573) (by decide +kernel) (by decide +kernel)
theorem t_620 : Cond.fieldLink RX7 13 "TrialGarden$Text" "toys" "[LTrialGarden$Toy;" ∈ lw_g := gg_ (i := 620) (by decide +kernel) (by decide +kernel)
theorem t_626 : Cond.fieldLink RX7 58 "TrialGarden$Text" "classCount" "I" ∈ lw_g := gg_ (i := 626) (by decide +kernel) (by decide +kernel)
theorem t_636 : Cond.fieldLink RX7 62 "TrialGarden$Text" "tellingCount" "I" ∈ lw_g := gg_ (i := 636) (by decide +kernel) (by decide +kernel)
theorem t_640 : Cond.fieldLink RX7 25 "TrialGarden$Text" "ops" "[I" ∈ lw_g := gg_ (i := 640) (by decide +kernel) (by decide +kernel)
theorem t_642 : Cond.fieldLink RX7 29 "TrialGarden$Text" "args" "[I" ∈ lw_g := gg_ (i := 642) (by decide +kernel) (by decide +kernel)
theorem t_644 : Cond.fieldLink RX7 65 "TrialGarden$Text" "codeCount" "I" ∈ lw_g := gg_ (i := 644) (by decide +kernel) (by decide +kernel)
theorem t_648 : Cond.fieldLink RX7 32 "TrialGarden$Text" "markKind" "[I" ∈ lw_g := gg_ (i := 648) (by decide +kernel) (by decide +kernel)
theorem t_651 : Cond.fieldLink RX7 35 "TrialGarden$Text" "markStart" "[I" ∈ lw_g := gg_ (i := 651) (by decide +kernel) (by decide +kernel)
theorem t_654 : Cond.fieldLink RX7 38 "TrialGarden$Text" "markPlace" "[I" ∈ lw_g := gg_ (i := 654) (by decide +kernel) (by decide +kernel)
theorem t_658 : Cond.fieldLink RX7 41 "TrialGarden$Text" "markFields" "[I" ∈ lw_g := gg_ (i := 658) (by decide +kernel) (by decide +kernel)
theorem t_661 : Cond.fieldLink RX7 44 "TrialGarden$Text" "markToy" "[I" ∈ lw_g := gg_ (i := 661) (by decide +kernel) (by decide +kernel)
theorem t_663 : Cond.fieldLink RX7 47 "TrialGarden$Text" "markWord" "[J" ∈ lw_g := gg_ (i := 663) (by decide +kernel) (by decide +kernel)
theorem t_666 : Cond.fieldLink RX7 68 "TrialGarden$Text" "markCount" "I" ∈ lw_g := gg_ (i := 666) (by decide +kernel) (by decide +kernel)
theorem t_671 : Cond.fieldLink RX7 51 "TrialGarden$Text" "begun" "[Z" ∈ lw_g := gg_ (i := 671) (by decide +kernel) (by decide +kernel)
theorem t_673 : Cond.fieldLink RX7 71 "TrialGarden$Text" "stCount" "I" ∈ lw_g := gg_ (i := 673) (by decide +kernel) (by decide +kernel)
theorem t_676 : Cond.fieldLink RX7 55 "TrialGarden$Text" "words" "[J" ∈ lw_g := gg_ (i := 676) (by decide +kernel) (by decide +kernel)
theorem t_678 : Cond.fieldLink RX7 74 "TrialGarden$Text" "wordCount" "I" ∈ lw_g := gg_ (i := 678) (by decide +kernel) (by decide +kernel)
theorem t_680 : Cond.fieldLink RX7 77 "TrialGarden$Text" "partCount" "I" ∈ lw_g := gg_ (i := 680) (by decide +kernel) (by decide +kernel)
theorem t_735 : Cond.fieldLink RX1 30 "TrialGarden$Machine" "text" "LTrialGarden$Text;" ∈ lw_g := gg_ (i := 735) (by decide +kernel) (by decide +kernel)
theorem t_737 : Cond.fieldLink RX1 21 "TrialGarden$Machine" "cells" "[I" ∈ lw_g := gg_ (i := 737) (by decide +kernel) (by decide +kernel)
theorem t_739 : Cond.fieldLink RX1 27 "TrialGarden$Machine" "given" "[I" ∈ lw_g := gg_ (i := 739) (by decide +kernel) (by decide +kernel)
theorem t_740 : Cond.fieldLink RX1 38 "TrialGarden$Machine" "asking" "Z" ∈ lw_g := gg_ (i := 740) (by decide +kernel) (by decide +kernel)
theorem t_741 : Cond.fieldLink RX1 42 "TrialGarden$Machine" "result" "I" ∈ lw_g := gg_ (i := 741) (by decide +kernel) (by decide +kernel)
theorem t_742 : Cond.fieldLink RX1 11 "TrialGarden$Machine" "stack" "[I" ∈ lw_g := gg_ (i := 742) (by decide +kernel) (by decide +kernel)
theorem t_743 : Cond.fieldLink RX1 122 "TrialGarden$Machine" "depth" "I" ∈ lw_g := gg_ (i := 743) (by decide +kernel) (by decide +kernel)
theorem t_744 : Cond.fieldLink RX1 15 "TrialGarden$Machine" "slots" "[I" ∈ lw_g := gg_ (i := 744) (by decide +kernel) (by decide +kernel)
theorem t_745 : Cond.fieldLink RX1 18 "TrialGarden$Machine" "backs" "[I" ∈ lw_g := gg_ (i := 745) (by decide +kernel) (by decide +kernel)
theorem t_746 : Cond.fieldLink RX1 119 "TrialGarden$Machine" "nest" "I" ∈ lw_g := gg_ (i := 746) (by decide +kernel) (by decide +kernel)
theorem t_747 : Cond.fieldLink RX1 46 "TrialGarden$Machine" "ground" "I" ∈ lw_g := gg_ (i := 747) (by decide +kernel) (by decide +kernel)
theorem t_748 : Cond.fieldLink RX1 49 "TrialGarden$Machine" "pc" "I" ∈ lw_g := gg_ (i := 748) (by decide +kernel) (by decide +kernel)
theorem t_749 : Cond.fieldLink RX1 125 "TrialGarden$Machine" "steps" "I" ∈ lw_g := gg_ (i := 749) (by decide +kernel) (by decide +kernel)
theorem t_750 : Cond.fieldLink RX1 61 "TrialGarden$Machine" "outcome" "I" ∈ lw_g := gg_ (i := 750) (by decide +kernel) (by decide +kernel)
theorem t_752 : Cond.fieldLink RX1 128 "TrialGarden$Machine" "answer" "I" ∈ lw_g := gg_ (i := 752) (by decide +kernel) (by decide +kernel)
theorem t_754 : Cond.fieldLink RX1 133 "TrialGarden$Machine" "word" "J" ∈ lw_g := gg_ (i := 754) (by decide +kernel) (by decide +kernel)
theorem t_801 : Cond.fieldLink RX3 28 "TrialGarden$Row" "length" "I" ∈ lw_g := gg_ (i := 801) (by decide +kernel) (by decide +kernel)
theorem t_804 : Cond.fieldLink RX3 13 "TrialGarden$Row" "object" "[I" ∈ lw_g := gg_ (i := 804) (by decide +kernel) (by decide +kernel)
theorem t_807 : Cond.fieldLink RX3 17 "TrialGarden$Row" "member" "[I" ∈ lw_g := gg_ (i := 807) (by decide +kernel) (by decide +kernel)
theorem t_810 : Cond.fieldLink RX3 22 "TrialGarden$Row" "argument" "[[I" ∈ lw_g := gg_ (i := 810) (by decide +kernel) (by decide +kernel)
theorem t_813 : Cond.fieldLink RX3 32 "TrialGarden$Row" "objects" "I" ∈ lw_g := gg_ (i := 813) (by decide +kernel) (by decide +kernel)
theorem t_815 : Cond.fieldLink RX3 25 "TrialGarden$Row" "toyOf" "[I" ∈ lw_g := gg_ (i := 815) (by decide +kernel) (by decide +kernel)
theorem t_836 : Cond.fieldLink RX4 52 "TrialGarden$Run" "verdict" "I" ∈ lw_g := gg_ (i := 836) (by decide +kernel) (by decide +kernel)
theorem t_839 : Cond.fieldLink RX4 39 "TrialGarden$Run" "brokenMark" "I" ∈ lw_g := gg_ (i := 839) (by decide +kernel) (by decide +kernel)
theorem t_841 : Cond.fieldLink RX4 43 "TrialGarden$Run" "brokenObject" "I" ∈ lw_g := gg_ (i := 841) (by decide +kernel) (by decide +kernel)
theorem t_843 : Cond.fieldLink RX4 46 "TrialGarden$Run" "changedObject" "I" ∈ lw_g := gg_ (i := 843) (by decide +kernel) (by decide +kernel)
theorem t_845 : Cond.fieldLink RX4 49 "TrialGarden$Run" "changedCell" "I" ∈ lw_g := gg_ (i := 845) (by decide +kernel) (by decide +kernel)
theorem t_847 : Cond.fieldLink RX4 55 "TrialGarden$Run" "thrownWord" "J" ∈ lw_g := gg_ (i := 847) (by decide +kernel) (by decide +kernel)
theorem t_850 : Cond.fieldLink RX4 59 "TrialGarden$Run" "objects" "I" ∈ lw_g := gg_ (i := 850) (by decide +kernel) (by decide +kernel)
theorem t_867 : Cond.fieldLink RX4 33 "TrialGarden$Run" "gave" "[I" ∈ lw_g := gg_ (i := 867) (by decide +kernel) (by decide +kernel)
theorem t_870 : Cond.fieldLink RX4 36 "TrialGarden$Run" "done" "[I" ∈ lw_g := gg_ (i := 870) (by decide +kernel) (by decide +kernel)
theorem t_873 : Cond.fieldLink RX4 62 "TrialGarden$Run" "reached" "I" ∈ lw_g := gg_ (i := 873) (by decide +kernel) (by decide +kernel)
theorem t_998 : Cond.static Lib.Math.min.name ∈ lw_g := gg_ (i := 998) (by decide +kernel) (by decide +kernel)
theorem t_999 : Cond.code Lib.Math.min.name Lib.Math.min.code 2 (some .int) ∈ lw_g := gg_ (i := 999) (by decide +kernel) (by decide +kernel)
theorem t_1041 : Cond.static Lib.Math.max.name ∈ lw_g := gg_ (i := 1041) (by decide +kernel) (by decide +kernel)
theorem t_1042 : Cond.code Lib.Math.max.name Lib.Math.max.code 2 (some .int) ∈ lw_g := gg_ (i := 1042) (by decide +kernel) (by decide +kernel)
theorem t_1085 : Cond.code yX7_wipe cX7_wipe 1 none ∈ lw_g := gg_ (i := 1085) (by decide +kernel) (by decide +kernel)
theorem t_1089 : Cond.code yX5_leaveMember cX5_leaveMember 1 none ∈ lw_g := gg_ (i := 1089) (by decide +kernel) (by decide +kernel)
theorem t_1130 : Cond.code yX9_beginAs cX9_beginAs 3 none ∈ lw_g := gg_ (i := 1130) (by decide +kernel) (by decide +kernel)
theorem t_1148 : Cond.instanceMethod yX9_fieldNamed ∈ lw_g := gg_ (i := 1148) (by decide +kernel) (by decide +kernel)
theorem t_1149 : Cond.selects RX9 yX9_fieldNamed yX9_fieldNamed ∈ lw_g := gg_ (i := 1149) (by decide +kernel) (by decide +kernel)
theorem t_1150 : Cond.code yX9_fieldNamed cX9_fieldNamed 4 (some .int) ∈ lw_g := gg_ (i := 1150) (by decide +kernel) (by decide +kernel)
theorem t_1168 : Cond.methodLink RX9 60 Lib.Math.max.name ∈ lw_g := gg_ (i := 1168) (by decide +kernel) (by decide +kernel)
theorem t_1176 : Cond.code yX7_addMark cX7_addMark 5 (some .int) ∈ lw_g := gg_ (i := 1176) (by decide +kernel) (by decide +kernel)
theorem t_1177 : Cond.methodLink RX7 102 Lib.Math.min.name ∈ lw_g := gg_ (i := 1177) (by decide +kernel) (by decide +kernel)
theorem t_1206 : Cond.code yX7_emit cX7_emit 3 none ∈ lw_g := gg_ (i := 1206) (by decide +kernel) (by decide +kernel)
theorem t_1210 : Cond.code yX7_leadHere cX7_leadHere 2 none ∈ lw_g := gg_ (i := 1210) (by decide +kernel) (by decide +kernel)
theorem t_1255 : Cond.methodLink RX5 36 yX9_fieldNamed ∈ lw_g := gg_ (i := 1255) (by decide +kernel) (by decide +kernel)
theorem t_1259 : Cond.code yX9_isRow cX9_isRow 2 (some .boolean) ∈ lw_g := gg_ (i := 1259) (by decide +kernel) (by decide +kernel)
theorem t_1267 : Cond.code yX9_spanOf cX9_spanOf 2 (some .int) ∈ lw_g := gg_ (i := 1267) (by decide +kernel) (by decide +kernel)
theorem t_1281 : Cond.instanceMethod yX7_hasClass ∈ lw_g := gg_ (i := 1281) (by decide +kernel) (by decide +kernel)
theorem t_1282 : Cond.selects RX7 yX7_hasClass yX7_hasClass ∈ lw_g := gg_ (i := 1282) (by decide +kernel) (by decide +kernel)
theorem t_1283 : Cond.code yX7_hasClass cX7_hasClass 2 (some .boolean) ∈ lw_g := gg_ (i := 1283) (by decide +kernel) (by decide +kernel)
theorem t_1362 : Cond.code yX7_addStatement cX7_addStatement 2 (some .int) ∈ lw_g := gg_ (i := 1362) (by decide +kernel) (by decide +kernel)
theorem t_1382 : Cond.code yX7_addWord cX7_addWord 4 (some .int) ∈ lw_g := gg_ (i := 1382) (by decide +kernel) (by decide +kernel)
theorem t_1425 : Cond.code yX3_wipe cX3_wipe 1 none ∈ lw_g := gg_ (i := 1425) (by decide +kernel) (by decide +kernel)
theorem t_1429 : Cond.code yX4_wipe cX4_wipe 2 none ∈ lw_g := gg_ (i := 1429) (by decide +kernel) (by decide +kernel)
theorem t_1430 : Cond.methodLink RX4 65 yX4_forgetCall ∈ lw_g := gg_ (i := 1430) (by decide +kernel) (by decide +kernel)
theorem t_1431 : Cond.instanceMethod yX4_forgetCall ∈ lw_g := gg_ (i := 1431) (by decide +kernel) (by decide +kernel)
theorem t_1432 : Cond.selects RX4 yX4_forgetCall yX4_forgetCall ∈ lw_g := gg_ (i := 1432) (by decide +kernel) (by decide +kernel)
theorem t_1433 : Cond.code yX4_forgetCall cX4_forgetCall 2 none ∈ lw_g := gg_ (i := 1433) (by decide +kernel) (by decide +kernel)
theorem t_1451 : Cond.methodLink RX7 80 yX7_hasClass ∈ lw_g := gg_ (i := 1451) (by decide +kernel) (by decide +kernel)
theorem t_1475 : Cond.code yX3_roomForMake cX3_roomForMake 1 (some .boolean) ∈ lw_g := gg_ (i := 1475) (by decide +kernel) (by decide +kernel)
theorem t_1505 : Cond.code yX6_admits cX6_admits 3 (some .boolean) ∈ lw_g := gg_ (i := 1505) (by decide +kernel) (by decide +kernel)
theorem t_1509 : Cond.code yX3_roomForCall cX3_roomForCall 1 (some .boolean) ∈ lw_g := gg_ (i := 1509) (by decide +kernel) (by decide +kernel)
theorem t_1554 : Cond.code yX1_readyToAsk cX1_readyToAsk 3 none ∈ lw_g := gg_ (i := 1554) (by decide +kernel) (by decide +kernel)
theorem t_1571 : Cond.code yX1_push cX1_push 2 none ∈ lw_g := gg_ (i := 1571) (by decide +kernel) (by decide +kernel)
theorem t_1575 : Cond.code yX1_pop cX1_pop 1 (some .int) ∈ lw_g := gg_ (i := 1575) (by decide +kernel) (by decide +kernel)
theorem t_1580 : Cond.constantLong RX1 131 (19540422) ∈ lw_g := gg_ (i := 1580) (by decide +kernel) (by decide +kernel)
theorem t_1609 : Cond.code yX4_breakBy cX4_breakBy 4 none ∈ lw_g := gg_ (i := 1609) (by decide +kernel) (by decide +kernel)
theorem t_1652 : Cond.code yX4_breakAt cX4_breakAt 4 none ∈ lw_g := gg_ (i := 1652) (by decide +kernel) (by decide +kernel)
theorem t_1695 : Cond.code yX6_firstOf cX6_firstOf 2 (some .int) ∈ lw_g := gg_ (i := 1695) (by decide +kernel) (by decide +kernel)
theorem t_1748 : Cond.code yX6_numberBehind cX6_numberBehind 3 (some .int) ∈ lw_g := gg_ (i := 1748) (by decide +kernel) (by decide +kernel)
theorem dX1_readyToAsk_0 : decode cX1_readyToAsk 0 = .ok (.aload_n 0, 1) := by decide +kernel
theorem dX1_readyToAsk_1 : decode cX1_readyToAsk 1 = .ok (.iconst 1, 1) := by decide +kernel
theorem dX1_readyToAsk_2 : decode cX1_readyToAsk 2 = .ok (.putfield 38, 3) := by decide +kernel
theorem dX1_readyToAsk_5 : decode cX1_readyToAsk 5 = .ok (.aload_n 0, 1) := by decide +kernel
theorem dX1_readyToAsk_6 : decode cX1_readyToAsk 6 = .ok (.iload_n 2, 1) := by decide +kernel
theorem dX1_readyToAsk_7 : decode cX1_readyToAsk 7 = .ok (.putfield 42, 3) := by decide +kernel
theorem dX1_readyToAsk_10 : decode cX1_readyToAsk 10 = .ok (.aload_n 0, 1) := by decide +kernel
theorem dX1_readyToAsk_11 : decode cX1_readyToAsk 11 = .ok (.iconst 0, 1) := by decide +kernel
theorem dX1_readyToAsk_12 : decode cX1_readyToAsk 12 = .ok (.putfield 46, 3) := by decide +kernel
theorem dX1_readyToAsk_15 : decode cX1_readyToAsk 15 = .ok (.aload_n 0, 1) := by decide +kernel
theorem dX1_readyToAsk_16 : decode cX1_readyToAsk 16 = .ok (.iload_n 1, 1) := by decide +kernel
theorem dX1_readyToAsk_17 : decode cX1_readyToAsk 17 = .ok (.putfield 49, 3) := by decide +kernel
theorem dX1_readyToAsk_20 : decode cX1_readyToAsk 20 = .ok (.return_, 1) := by decide +kernel
theorem dX1_go_0 : decode cX1_go 0 = .ok (.aload_n 0, 1) := by decide +kernel
theorem dX1_go_1 : decode cX1_go 1 = .ok (.invokevirtual 57, 3) := by decide +kernel
theorem dX1_go_4 : decode cX1_go 4 = .ok (.iconst 0, 1) := by decide +kernel
theorem dX1_go_5 : decode cX1_go 5 = .ok (.istore_n 1, 1) := by decide +kernel
theorem dX1_go_6 : decode cX1_go 6 = .ok (.iload_n 1, 1) := by decide +kernel
theorem dX1_go_7 : decode cX1_go 7 = .ok (.ldc 60, 2) := by decide +kernel
theorem dX1_go_9 : decode cX1_go 9 = .ok (.if_icmp .ge 305, 3) := by decide +kernel
theorem dX1_go_12 : decode cX1_go 12 = .ok (.aload_n 0, 1) := by decide +kernel
theorem dX1_go_13 : decode cX1_go 13 = .ok (.getfield 61, 3) := by decide +kernel
theorem dX1_go_16 : decode cX1_go 16 = .ok (.ifCond .ne 298, 3) := by decide +kernel
theorem dX1_go_19 : decode cX1_go 19 = .ok (.aload_n 0, 1) := by decide +kernel
theorem dX1_go_20 : decode cX1_go 20 = .ok (.getfield 49, 3) := by decide +kernel
theorem dX1_go_23 : decode cX1_go 23 = .ok (.ifCond .lt 21, 3) := by decide +kernel
theorem dX1_go_26 : decode cX1_go 26 = .ok (.aload_n 0, 1) := by decide +kernel
theorem dX1_go_27 : decode cX1_go 27 = .ok (.getfield 49, 3) := by decide +kernel
theorem dX1_go_30 : decode cX1_go 30 = .ok (.aload_n 0, 1) := by decide +kernel
theorem dX1_go_31 : decode cX1_go 31 = .ok (.getfield 30, 3) := by decide +kernel
theorem dX1_go_34 : decode cX1_go 34 = .ok (.getfield 64, 3) := by decide +kernel
theorem dX1_go_37 : decode cX1_go 37 = .ok (.if_icmp .ge 7, 3) := by decide +kernel
theorem dX1_go_40 : decode cX1_go 40 = .ok (.iconst 1, 1) := by decide +kernel
theorem dX1_go_41 : decode cX1_go 41 = .ok (.goto 4, 3) := by decide +kernel
theorem dX1_go_44 : decode cX1_go 44 = .ok (.iconst 0, 1) := by decide +kernel
theorem dX1_go_45 : decode cX1_go 45 = .ok (.istore_n 2, 1) := by decide +kernel
theorem dX1_go_46 : decode cX1_go 46 = .ok (.iload_n 2, 1) := by decide +kernel
theorem dX1_go_47 : decode cX1_go 47 = .ok (.ifCond .eq 18, 3) := by decide +kernel
theorem dX1_go_50 : decode cX1_go 50 = .ok (.aload_n 0, 1) := by decide +kernel
theorem dX1_go_51 : decode cX1_go 51 = .ok (.getfield 30, 3) := by decide +kernel
theorem dX1_go_54 : decode cX1_go 54 = .ok (.getfield 69, 3) := by decide +kernel
theorem dX1_go_57 : decode cX1_go 57 = .ok (.aload_n 0, 1) := by decide +kernel
theorem dX1_go_58 : decode cX1_go 58 = .ok (.getfield 49, 3) := by decide +kernel
theorem dX1_go_61 : decode cX1_go 61 = .ok (.iaload, 1) := by decide +kernel
theorem dX1_go_62 : decode cX1_go 62 = .ok (.goto 5, 3) := by decide +kernel
theorem dX1_go_65 : decode cX1_go 65 = .ok (.bipush 19, 2) := by decide +kernel
theorem dX1_go_67 : decode cX1_go 67 = .ok (.istore_n 3, 1) := by decide +kernel
theorem dX1_go_68 : decode cX1_go 68 = .ok (.iload_n 2, 1) := by decide +kernel
theorem dX1_go_69 : decode cX1_go 69 = .ok (.ifCond .eq 18, 3) := by decide +kernel
theorem dX1_go_72 : decode cX1_go 72 = .ok (.aload_n 0, 1) := by decide +kernel
theorem dX1_go_73 : decode cX1_go 73 = .ok (.getfield 30, 3) := by decide +kernel
theorem dX1_go_76 : decode cX1_go 76 = .ok (.getfield 72, 3) := by decide +kernel
theorem dX1_go_79 : decode cX1_go 79 = .ok (.aload_n 0, 1) := by decide +kernel
theorem dX1_go_80 : decode cX1_go 80 = .ok (.getfield 49, 3) := by decide +kernel
theorem dX1_go_83 : decode cX1_go 83 = .ok (.iaload, 1) := by decide +kernel
theorem dX1_go_84 : decode cX1_go 84 = .ok (.goto 4, 3) := by decide +kernel
theorem dX1_go_87 : decode cX1_go 87 = .ok (.iconst 0, 1) := by decide +kernel
theorem dX1_go_88 : decode cX1_go 88 = .ok (.istore 4, 2) := by decide +kernel
theorem dX1_go_90 : decode cX1_go 90 = .ok (.aload_n 0, 1) := by decide +kernel
theorem dX1_go_91 : decode cX1_go 91 = .ok (.dup, 1) := by decide +kernel
theorem dX1_go_92 : decode cX1_go 92 = .ok (.getfield 49, 3) := by decide +kernel
theorem dX1_go_95 : decode cX1_go 95 = .ok (.iconst 1, 1) := by decide +kernel
theorem dX1_go_96 : decode cX1_go 96 = .ok (.iadd, 1) := by decide +kernel
theorem dX1_go_97 : decode cX1_go 97 = .ok (.putfield 49, 3) := by decide +kernel
theorem dX1_go_100 : decode cX1_go 100 = .ok (.iload_n 3, 1) := by decide +kernel
theorem dX1_go_101 : decode cX1_go 101 = .ok (.iconst 5, 1) := by decide +kernel
theorem dX1_go_102 : decode cX1_go 102 = .ok (.if_icmp .gt 17, 3) := by decide +kernel
theorem dX1_go_105 : decode cX1_go 105 = .ok (.aload_n 0, 1) := by decide +kernel
theorem dX1_go_106 : decode cX1_go 106 = .ok (.aload_n 0, 1) := by decide +kernel
theorem dX1_go_107 : decode cX1_go 107 = .ok (.iload_n 3, 1) := by decide +kernel
theorem dX1_go_108 : decode cX1_go 108 = .ok (.iload 4, 2) := by decide +kernel
theorem dX1_go_110 : decode cX1_go 110 = .ok (.invokevirtual 75, 3) := by decide +kernel
theorem dX1_go_113 : decode cX1_go 113 = .ok (.invokevirtual 79, 3) := by decide +kernel
theorem dX1_go_116 : decode cX1_go 116 = .ok (.goto 192, 3) := by decide +kernel
theorem dX1_go_119 : decode cX1_go 119 = .ok (.iload_n 3, 1) := by decide +kernel
theorem dX1_go_120 : decode cX1_go 120 = .ok (.bipush 11, 2) := by decide +kernel
theorem dX1_go_122 : decode cX1_go 122 = .ok (.if_icmp .gt 21, 3) := by decide +kernel
theorem dX1_go_125 : decode cX1_go 125 = .ok (.aload_n 0, 1) := by decide +kernel
theorem dX1_go_126 : decode cX1_go 126 = .ok (.aload_n 0, 1) := by decide +kernel
theorem dX1_go_127 : decode cX1_go 127 = .ok (.iload_n 3, 1) := by decide +kernel
theorem dX1_go_128 : decode cX1_go 128 = .ok (.iload 4, 2) := by decide +kernel
theorem dX1_go_130 : decode cX1_go 130 = .ok (.aload_n 0, 1) := by decide +kernel
theorem dX1_go_131 : decode cX1_go 131 = .ok (.invokevirtual 83, 3) := by decide +kernel
theorem dX1_go_134 : decode cX1_go 134 = .ok (.invokevirtual 87, 3) := by decide +kernel
theorem dX1_go_137 : decode cX1_go 137 = .ok (.invokevirtual 79, 3) := by decide +kernel
theorem dX1_go_140 : decode cX1_go 140 = .ok (.goto 168, 3) := by decide +kernel
theorem dX1_go_143 : decode cX1_go 143 = .ok (.iload_n 3, 1) := by decide +kernel
theorem dX1_go_144 : decode cX1_go 144 = .ok (.bipush 16, 2) := by decide +kernel
theorem dX1_go_146 : decode cX1_go 146 = .ok (.if_icmp .gt 13, 3) := by decide +kernel
theorem dX1_go_149 : decode cX1_go 149 = .ok (.aload_n 0, 1) := by decide +kernel
theorem dX1_go_150 : decode cX1_go 150 = .ok (.iload_n 3, 1) := by decide +kernel
theorem dX1_go_151 : decode cX1_go 151 = .ok (.iload 4, 2) := by decide +kernel
theorem dX1_go_153 : decode cX1_go 153 = .ok (.invokevirtual 91, 3) := by decide +kernel
theorem dX1_go_156 : decode cX1_go 156 = .ok (.goto 152, 3) := by decide +kernel
theorem dX1_go_159 : decode cX1_go 159 = .ok (.iload_n 3, 1) := by decide +kernel
theorem dX1_go_160 : decode cX1_go 160 = .ok (.bipush 17, 2) := by decide +kernel
theorem dX1_go_162 : decode cX1_go 162 = .ok (.if_icmp .ne 36, 3) := by decide +kernel
theorem dX1_go_165 : decode cX1_go 165 = .ok (.aload_n 0, 1) := by decide +kernel
theorem dX1_go_166 : decode cX1_go 166 = .ok (.iload 4, 2) := by decide +kernel
theorem dX1_go_168 : decode cX1_go 168 = .ok (.aload_n 0, 1) := by decide +kernel
theorem dX1_go_169 : decode cX1_go 169 = .ok (.getfield 34, 3) := by decide +kernel
theorem dX1_go_172 : decode cX1_go 172 = .ok (.getfield 95, 3) := by decide +kernel
theorem dX1_go_175 : decode cX1_go 175 = .ok (.if_icmp .ge 16, 3) := by decide +kernel
theorem dX1_go_178 : decode cX1_go 178 = .ok (.aload_n 0, 1) := by decide +kernel
theorem dX1_go_179 : decode cX1_go 179 = .ok (.getfield 34, 3) := by decide +kernel
theorem dX1_go_182 : decode cX1_go 182 = .ok (.getfield 100, 3) := by decide +kernel
theorem dX1_go_185 : decode cX1_go 185 = .ok (.iload 4, 2) := by decide +kernel
theorem dX1_go_187 : decode cX1_go 187 = .ok (.iaload, 1) := by decide +kernel
theorem dX1_go_188 : decode cX1_go 188 = .ok (.goto 4, 3) := by decide +kernel
theorem dX1_go_191 : decode cX1_go 191 = .ok (.iconst (-1), 1) := by decide +kernel
theorem dX1_go_192 : decode cX1_go 192 = .ok (.invokevirtual 103, 3) := by decide +kernel
theorem dX1_go_195 : decode cX1_go 195 = .ok (.goto 113, 3) := by decide +kernel
theorem dX1_go_198 : decode cX1_go 198 = .ok (.iload_n 3, 1) := by decide +kernel
theorem dX1_go_199 : decode cX1_go 199 = .ok (.bipush 18, 2) := by decide +kernel
theorem dX1_go_201 : decode cX1_go 201 = .ok (.if_icmp .ne 12, 3) := by decide +kernel
theorem dX1_go_204 : decode cX1_go 204 = .ok (.aload_n 0, 1) := by decide +kernel
theorem dX1_go_205 : decode cX1_go 205 = .ok (.iload 4, 2) := by decide +kernel
theorem dX1_go_207 : decode cX1_go 207 = .ok (.invokevirtual 103, 3) := by decide +kernel
theorem dX1_go_210 : decode cX1_go 210 = .ok (.goto 98, 3) := by decide +kernel
theorem dX1_go_213 : decode cX1_go 213 = .ok (.iload_n 3, 1) := by decide +kernel
theorem dX1_go_214 : decode cX1_go 214 = .ok (.bipush 19, 2) := by decide +kernel
theorem dX1_go_216 : decode cX1_go 216 = .ok (.if_icmp .ne 11, 3) := by decide +kernel
theorem dX1_go_219 : decode cX1_go 219 = .ok (.aload_n 0, 1) := by decide +kernel
theorem dX1_go_220 : decode cX1_go 220 = .ok (.iconst 0, 1) := by decide +kernel
theorem dX1_go_221 : decode cX1_go 221 = .ok (.invokevirtual 106, 3) := by decide +kernel
theorem dX1_go_224 : decode cX1_go 224 = .ok (.goto 84, 3) := by decide +kernel
theorem dX1_go_227 : decode cX1_go 227 = .ok (.iload_n 3, 1) := by decide +kernel
theorem dX1_go_228 : decode cX1_go 228 = .ok (.bipush 26, 2) := by decide +kernel
theorem dX1_go_230 : decode cX1_go 230 = .ok (.if_icmp .ne 14, 3) := by decide +kernel
theorem dX1_go_233 : decode cX1_go 233 = .ok (.aload_n 0, 1) := by decide +kernel
theorem dX1_go_234 : decode cX1_go 234 = .ok (.aload_n 0, 1) := by decide +kernel
theorem dX1_go_235 : decode cX1_go 235 = .ok (.invokevirtual 83, 3) := by decide +kernel
theorem dX1_go_238 : decode cX1_go 238 = .ok (.invokevirtual 106, 3) := by decide +kernel
theorem dX1_go_241 : decode cX1_go 241 = .ok (.goto 67, 3) := by decide +kernel
theorem dX1_go_244 : decode cX1_go 244 = .ok (.iload_n 3, 1) := by decide +kernel
theorem dX1_go_245 : decode cX1_go 245 = .ok (.bipush 25, 2) := by decide +kernel
theorem dX1_go_247 : decode cX1_go 247 = .ok (.if_icmp .gt 17, 3) := by decide +kernel
theorem dX1_go_250 : decode cX1_go 250 = .ok (.aload_n 0, 1) := by decide +kernel
theorem dX1_go_251 : decode cX1_go 251 = .ok (.iload_n 3, 1) := by decide +kernel
theorem dX1_go_252 : decode cX1_go 252 = .ok (.iload 4, 2) := by decide +kernel
theorem dX1_go_254 : decode cX1_go 254 = .ok (.aload_n 0, 1) := by decide +kernel
theorem dX1_go_255 : decode cX1_go 255 = .ok (.invokevirtual 83, 3) := by decide +kernel
theorem dX1_go_258 : decode cX1_go 258 = .ok (.invokevirtual 109, 3) := by decide +kernel
theorem dX1_go_261 : decode cX1_go 261 = .ok (.goto 47, 3) := by decide +kernel
theorem dX1_go_264 : decode cX1_go 264 = .ok (.aload_n 0, 1) := by decide +kernel
theorem dX1_go_265 : decode cX1_go 265 = .ok (.invokevirtual 83, 3) := by decide +kernel
theorem dX1_go_268 : decode cX1_go 268 = .ok (.istore 5, 2) := by decide +kernel
theorem dX1_go_270 : decode cX1_go 270 = .ok (.aload_n 0, 1) := by decide +kernel
theorem dX1_go_271 : decode cX1_go 271 = .ok (.invokevirtual 83, 3) := by decide +kernel
theorem dX1_go_274 : decode cX1_go 274 = .ok (.istore 6, 2) := by decide +kernel
theorem dX1_go_276 : decode cX1_go 276 = .ok (.iload_n 3, 1) := by decide +kernel
theorem dX1_go_277 : decode cX1_go 277 = .ok (.bipush 27, 2) := by decide +kernel
theorem dX1_go_279 : decode cX1_go 279 = .ok (.if_icmp .ne 16, 3) := by decide +kernel
theorem dX1_go_282 : decode cX1_go 282 = .ok (.aload_n 0, 1) := by decide +kernel
theorem dX1_go_283 : decode cX1_go 283 = .ok (.iload 4, 2) := by decide +kernel
theorem dX1_go_285 : decode cX1_go 285 = .ok (.iload 6, 2) := by decide +kernel
theorem dX1_go_287 : decode cX1_go 287 = .ok (.iload 5, 2) := by decide +kernel
theorem dX1_go_289 : decode cX1_go 289 = .ok (.invokevirtual 113, 3) := by decide +kernel
theorem dX1_go_292 : decode cX1_go 292 = .ok (.goto 16, 3) := by decide +kernel
theorem dX1_go_295 : decode cX1_go 295 = .ok (.aload_n 0, 1) := by decide +kernel
theorem dX1_go_296 : decode cX1_go 296 = .ok (.aload_n 0, 1) := by decide +kernel
theorem dX1_go_297 : decode cX1_go 297 = .ok (.iload_n 3, 1) := by decide +kernel
theorem dX1_go_298 : decode cX1_go 298 = .ok (.iload 6, 2) := by decide +kernel
theorem dX1_go_300 : decode cX1_go 300 = .ok (.iload 5, 2) := by decide +kernel
theorem dX1_go_302 : decode cX1_go 302 = .ok (.invokevirtual 116, 3) := by decide +kernel
theorem dX1_go_305 : decode cX1_go 305 = .ok (.invokevirtual 79, 3) := by decide +kernel
theorem dX1_go_308 : decode cX1_go 308 = .ok (.iinc 1 1, 3) := by decide +kernel
theorem dX1_go_311 : decode cX1_go 311 = .ok (.goto (-305), 3) := by decide +kernel
theorem dX1_go_314 : decode cX1_go 314 = .ok (.aload_n 0, 1) := by decide +kernel
theorem dX1_go_315 : decode cX1_go 315 = .ok (.aload_n 0, 1) := by decide +kernel
theorem dX1_go_316 : decode cX1_go 316 = .ok (.getfield 61, 3) := by decide +kernel
theorem dX1_go_319 : decode cX1_go 319 = .ok (.ifCond .ne 7, 3) := by decide +kernel
theorem dX1_go_322 : decode cX1_go 322 = .ok (.iconst 3, 1) := by decide +kernel
theorem dX1_go_323 : decode cX1_go 323 = .ok (.goto 7, 3) := by decide +kernel
theorem dX1_go_326 : decode cX1_go 326 = .ok (.aload_n 0, 1) := by decide +kernel
theorem dX1_go_327 : decode cX1_go 327 = .ok (.getfield 61, 3) := by decide +kernel
theorem dX1_go_330 : decode cX1_go 330 = .ok (.putfield 61, 3) := by decide +kernel
theorem dX1_go_333 : decode cX1_go 333 = .ok (.return_, 1) := by decide +kernel
theorem dX1_begin_0 : decode cX1_begin 0 = .ok (.aload_n 0, 1) := by decide +kernel
theorem dX1_begin_1 : decode cX1_begin 1 = .ok (.aload_n 0, 1) := by decide +kernel
theorem dX1_begin_2 : decode cX1_begin 2 = .ok (.getfield 46, 3) := by decide +kernel
theorem dX1_begin_5 : decode cX1_begin 5 = .ok (.putfield 119, 3) := by decide +kernel
theorem dX1_begin_8 : decode cX1_begin 8 = .ok (.aload_n 0, 1) := by decide +kernel
theorem dX1_begin_9 : decode cX1_begin 9 = .ok (.iconst 0, 1) := by decide +kernel
theorem dX1_begin_10 : decode cX1_begin 10 = .ok (.putfield 122, 3) := by decide +kernel
theorem dX1_begin_13 : decode cX1_begin 13 = .ok (.aload_n 0, 1) := by decide +kernel
theorem dX1_begin_14 : decode cX1_begin 14 = .ok (.iconst 0, 1) := by decide +kernel
theorem dX1_begin_15 : decode cX1_begin 15 = .ok (.putfield 125, 3) := by decide +kernel
theorem dX1_begin_18 : decode cX1_begin 18 = .ok (.aload_n 0, 1) := by decide +kernel
theorem dX1_begin_19 : decode cX1_begin 19 = .ok (.iconst 0, 1) := by decide +kernel
theorem dX1_begin_20 : decode cX1_begin 20 = .ok (.putfield 61, 3) := by decide +kernel
theorem dX1_begin_23 : decode cX1_begin 23 = .ok (.aload_n 0, 1) := by decide +kernel
theorem dX1_begin_24 : decode cX1_begin 24 = .ok (.iconst 0, 1) := by decide +kernel
theorem dX1_begin_25 : decode cX1_begin 25 = .ok (.putfield 128, 3) := by decide +kernel
theorem dX1_begin_28 : decode cX1_begin 28 = .ok (.iconst 0, 1) := by decide +kernel
theorem dX1_begin_29 : decode cX1_begin 29 = .ok (.istore_n 1, 1) := by decide +kernel
theorem dX1_begin_30 : decode cX1_begin 30 = .ok (.iload_n 1, 1) := by decide +kernel
theorem dX1_begin_31 : decode cX1_begin 31 = .ok (.iconst 3, 1) := by decide +kernel
theorem dX1_begin_32 : decode cX1_begin 32 = .ok (.if_icmp .ge 38, 3) := by decide +kernel
theorem dX1_begin_35 : decode cX1_begin 35 = .ok (.iload_n 1, 1) := by decide +kernel
theorem dX1_begin_36 : decode cX1_begin 36 = .ok (.aload_n 0, 1) := by decide +kernel
theorem dX1_begin_37 : decode cX1_begin 37 = .ok (.getfield 27, 3) := by decide +kernel
theorem dX1_begin_40 : decode cX1_begin 40 = .ok (.arraylength, 1) := by decide +kernel
theorem dX1_begin_41 : decode cX1_begin 41 = .ok (.if_icmp .ge 29, 3) := by decide +kernel
theorem dX1_begin_44 : decode cX1_begin 44 = .ok (.aload_n 0, 1) := by decide +kernel
theorem dX1_begin_45 : decode cX1_begin 45 = .ok (.getfield 15, 3) := by decide +kernel
theorem dX1_begin_48 : decode cX1_begin 48 = .ok (.aload_n 0, 1) := by decide +kernel
theorem dX1_begin_49 : decode cX1_begin 49 = .ok (.getfield 119, 3) := by decide +kernel
theorem dX1_begin_52 : decode cX1_begin 52 = .ok (.bipush 11, 2) := by decide +kernel
theorem dX1_begin_54 : decode cX1_begin 54 = .ok (.imul, 1) := by decide +kernel
theorem dX1_begin_55 : decode cX1_begin 55 = .ok (.iload_n 1, 1) := by decide +kernel
theorem dX1_begin_56 : decode cX1_begin 56 = .ok (.iadd, 1) := by decide +kernel
theorem dX1_begin_57 : decode cX1_begin 57 = .ok (.aload_n 0, 1) := by decide +kernel
theorem dX1_begin_58 : decode cX1_begin 58 = .ok (.getfield 27, 3) := by decide +kernel
theorem dX1_begin_61 : decode cX1_begin 61 = .ok (.iload_n 1, 1) := by decide +kernel
theorem dX1_begin_62 : decode cX1_begin 62 = .ok (.iaload, 1) := by decide +kernel
theorem dX1_begin_63 : decode cX1_begin 63 = .ok (.iastore, 1) := by decide +kernel
theorem dX1_begin_64 : decode cX1_begin 64 = .ok (.iinc 1 1, 3) := by decide +kernel
theorem dX1_begin_67 : decode cX1_begin 67 = .ok (.goto (-37), 3) := by decide +kernel
theorem dX1_begin_70 : decode cX1_begin 70 = .ok (.return_, 1) := by decide +kernel
theorem dX1_push_0 : decode cX1_push 0 = .ok (.aload_n 0, 1) := by decide +kernel
theorem dX1_push_1 : decode cX1_push 1 = .ok (.getfield 122, 3) := by decide +kernel
theorem dX1_push_4 : decode cX1_push 4 = .ok (.sipush 700, 3) := by decide +kernel
theorem dX1_push_7 : decode cX1_push 7 = .ok (.if_icmp .ge 23, 3) := by decide +kernel
theorem dX1_push_10 : decode cX1_push 10 = .ok (.aload_n 0, 1) := by decide +kernel
theorem dX1_push_11 : decode cX1_push 11 = .ok (.getfield 11, 3) := by decide +kernel
theorem dX1_push_14 : decode cX1_push 14 = .ok (.aload_n 0, 1) := by decide +kernel
theorem dX1_push_15 : decode cX1_push 15 = .ok (.getfield 122, 3) := by decide +kernel
theorem dX1_push_18 : decode cX1_push 18 = .ok (.iload_n 1, 1) := by decide +kernel
theorem dX1_push_19 : decode cX1_push 19 = .ok (.iastore, 1) := by decide +kernel
theorem dX1_push_20 : decode cX1_push 20 = .ok (.aload_n 0, 1) := by decide +kernel
theorem dX1_push_21 : decode cX1_push 21 = .ok (.dup, 1) := by decide +kernel
theorem dX1_push_22 : decode cX1_push 22 = .ok (.getfield 122, 3) := by decide +kernel
theorem dX1_push_25 : decode cX1_push 25 = .ok (.iconst 1, 1) := by decide +kernel
theorem dX1_push_26 : decode cX1_push 26 = .ok (.iadd, 1) := by decide +kernel
theorem dX1_push_27 : decode cX1_push 27 = .ok (.putfield 122, 3) := by decide +kernel
theorem dX1_push_30 : decode cX1_push 30 = .ok (.return_, 1) := by decide +kernel
theorem dX1_pop_0 : decode cX1_pop 0 = .ok (.aload_n 0, 1) := by decide +kernel
theorem dX1_pop_1 : decode cX1_pop 1 = .ok (.getfield 122, 3) := by decide +kernel
theorem dX1_pop_4 : decode cX1_pop 4 = .ok (.ifCond .ne 5, 3) := by decide +kernel
theorem dX1_pop_7 : decode cX1_pop 7 = .ok (.iconst 0, 1) := by decide +kernel
theorem dX1_pop_8 : decode cX1_pop 8 = .ok (.ireturn, 1) := by decide +kernel
theorem dX1_pop_9 : decode cX1_pop 9 = .ok (.aload_n 0, 1) := by decide +kernel
theorem dX1_pop_10 : decode cX1_pop 10 = .ok (.dup, 1) := by decide +kernel
theorem dX1_pop_11 : decode cX1_pop 11 = .ok (.getfield 122, 3) := by decide +kernel
theorem dX1_pop_14 : decode cX1_pop 14 = .ok (.iconst 1, 1) := by decide +kernel
theorem dX1_pop_15 : decode cX1_pop 15 = .ok (.isub, 1) := by decide +kernel
theorem dX1_pop_16 : decode cX1_pop 16 = .ok (.putfield 122, 3) := by decide +kernel
theorem dX1_pop_19 : decode cX1_pop 19 = .ok (.aload_n 0, 1) := by decide +kernel
theorem dX1_pop_20 : decode cX1_pop 20 = .ok (.getfield 11, 3) := by decide +kernel
theorem dX1_pop_23 : decode cX1_pop 23 = .ok (.aload_n 0, 1) := by decide +kernel
theorem dX1_pop_24 : decode cX1_pop 24 = .ok (.getfield 122, 3) := by decide +kernel
theorem dX1_pop_27 : decode cX1_pop 27 = .ok (.iaload, 1) := by decide +kernel
theorem dX1_pop_28 : decode cX1_pop 28 = .ok (.ireturn, 1) := by decide +kernel
theorem dX1_fetch_0 : decode cX1_fetch 0 = .ok (.iload_n 2, 1) := by decide +kernel
theorem dX1_fetch_1 : decode cX1_fetch 1 = .ok (.iconst 4, 1) := by decide +kernel
theorem dX1_fetch_2 : decode cX1_fetch 2 = .ok (.ishr, 1) := by decide +kernel
theorem dX1_fetch_3 : decode cX1_fetch 3 = .ok (.istore_n 3, 1) := by decide +kernel
theorem dX1_fetch_4 : decode cX1_fetch 4 = .ok (.iload_n 1, 1) := by decide +kernel
theorem dX1_fetch_5 : decode cX1_fetch 5 = .ok (.tableswitch 88 1 4 #[31, 33, 48, 68], 31) := by decide +kernel
theorem dX1_fetch_36 : decode cX1_fetch 36 = .ok (.iload_n 2, 1) := by decide +kernel
theorem dX1_fetch_37 : decode cX1_fetch 37 = .ok (.ireturn, 1) := by decide +kernel
theorem dX1_fetch_38 : decode cX1_fetch 38 = .ok (.aload_n 0, 1) := by decide +kernel
theorem dX1_fetch_39 : decode cX1_fetch 39 = .ok (.getfield 15, 3) := by decide +kernel
theorem dX1_fetch_42 : decode cX1_fetch 42 = .ok (.aload_n 0, 1) := by decide +kernel
theorem dX1_fetch_43 : decode cX1_fetch 43 = .ok (.getfield 119, 3) := by decide +kernel
theorem dX1_fetch_46 : decode cX1_fetch 46 = .ok (.bipush 11, 2) := by decide +kernel
theorem dX1_fetch_48 : decode cX1_fetch 48 = .ok (.imul, 1) := by decide +kernel
theorem dX1_fetch_49 : decode cX1_fetch 49 = .ok (.iload_n 2, 1) := by decide +kernel
theorem dX1_fetch_50 : decode cX1_fetch 50 = .ok (.iadd, 1) := by decide +kernel
theorem dX1_fetch_51 : decode cX1_fetch 51 = .ok (.iaload, 1) := by decide +kernel
theorem dX1_fetch_52 : decode cX1_fetch 52 = .ok (.ireturn, 1) := by decide +kernel
theorem dX1_fetch_53 : decode cX1_fetch 53 = .ok (.iload_n 3, 1) := by decide +kernel
theorem dX1_fetch_54 : decode cX1_fetch 54 = .ok (.aload_n 0, 1) := by decide +kernel
theorem dX1_fetch_55 : decode cX1_fetch 55 = .ok (.getfield 21, 3) := by decide +kernel
theorem dX1_fetch_58 : decode cX1_fetch 58 = .ok (.arraylength, 1) := by decide +kernel
theorem dX1_fetch_59 : decode cX1_fetch 59 = .ok (.if_icmp .ge 12, 3) := by decide +kernel
theorem dX1_fetch_62 : decode cX1_fetch 62 = .ok (.aload_n 0, 1) := by decide +kernel
theorem dX1_fetch_63 : decode cX1_fetch 63 = .ok (.getfield 21, 3) := by decide +kernel
theorem dX1_fetch_66 : decode cX1_fetch 66 = .ok (.iload_n 3, 1) := by decide +kernel
theorem dX1_fetch_67 : decode cX1_fetch 67 = .ok (.iaload, 1) := by decide +kernel
theorem dX1_fetch_68 : decode cX1_fetch 68 = .ok (.goto 4, 3) := by decide +kernel
theorem dX1_fetch_71 : decode cX1_fetch 71 = .ok (.iconst 0, 1) := by decide +kernel
theorem dX1_fetch_72 : decode cX1_fetch 72 = .ok (.ireturn, 1) := by decide +kernel
theorem dX1_fetch_73 : decode cX1_fetch 73 = .ok (.iload_n 3, 1) := by decide +kernel
theorem dX1_fetch_74 : decode cX1_fetch 74 = .ok (.aload_n 0, 1) := by decide +kernel
theorem dX1_fetch_75 : decode cX1_fetch 75 = .ok (.getfield 24, 3) := by decide +kernel
theorem dX1_fetch_78 : decode cX1_fetch 78 = .ok (.arraylength, 1) := by decide +kernel
theorem dX1_fetch_79 : decode cX1_fetch 79 = .ok (.if_icmp .ge 12, 3) := by decide +kernel
theorem dX1_fetch_82 : decode cX1_fetch 82 = .ok (.aload_n 0, 1) := by decide +kernel
theorem dX1_fetch_83 : decode cX1_fetch 83 = .ok (.getfield 24, 3) := by decide +kernel
theorem dX1_fetch_86 : decode cX1_fetch 86 = .ok (.iload_n 3, 1) := by decide +kernel
theorem dX1_fetch_87 : decode cX1_fetch 87 = .ok (.iaload, 1) := by decide +kernel
theorem dX1_fetch_88 : decode cX1_fetch 88 = .ok (.goto 4, 3) := by decide +kernel
theorem dX1_fetch_91 : decode cX1_fetch 91 = .ok (.iconst 0, 1) := by decide +kernel
theorem dX1_fetch_92 : decode cX1_fetch 92 = .ok (.ireturn, 1) := by decide +kernel
theorem dX1_fetch_93 : decode cX1_fetch 93 = .ok (.aload_n 0, 1) := by decide +kernel
theorem dX1_fetch_94 : decode cX1_fetch 94 = .ok (.getfield 42, 3) := by decide +kernel
theorem dX1_fetch_97 : decode cX1_fetch 97 = .ok (.ireturn, 1) := by decide +kernel
theorem dX1_turn_0 : decode cX1_turn 0 = .ok (.iload_n 1, 1) := by decide +kernel
theorem dX1_turn_1 : decode cX1_turn 1 = .ok (.bipush 6, 2) := by decide +kernel
theorem dX1_turn_3 : decode cX1_turn 3 = .ok (.if_icmp .ne 6, 3) := by decide +kernel
theorem dX1_turn_6 : decode cX1_turn 6 = .ok (.iload_n 3, 1) := by decide +kernel
theorem dX1_turn_7 : decode cX1_turn 7 = .ok (.ineg, 1) := by decide +kernel
theorem dX1_turn_8 : decode cX1_turn 8 = .ok (.ireturn, 1) := by decide +kernel
theorem dX1_turn_9 : decode cX1_turn 9 = .ok (.iload_n 1, 1) := by decide +kernel
theorem dX1_turn_10 : decode cX1_turn 10 = .ok (.bipush 7, 2) := by decide +kernel
theorem dX1_turn_12 : decode cX1_turn 12 = .ok (.if_icmp .ne 13, 3) := by decide +kernel
theorem dX1_turn_15 : decode cX1_turn 15 = .ok (.iload_n 3, 1) := by decide +kernel
theorem dX1_turn_16 : decode cX1_turn 16 = .ok (.ifCond .ne 7, 3) := by decide +kernel
theorem dX1_turn_19 : decode cX1_turn 19 = .ok (.iconst 1, 1) := by decide +kernel
theorem dX1_turn_20 : decode cX1_turn 20 = .ok (.goto 4, 3) := by decide +kernel
theorem dX1_turn_23 : decode cX1_turn 23 = .ok (.iconst 0, 1) := by decide +kernel
theorem dX1_turn_24 : decode cX1_turn 24 = .ok (.ireturn, 1) := by decide +kernel
theorem dX1_turn_25 : decode cX1_turn 25 = .ok (.iload_n 1, 1) := by decide +kernel
theorem dX1_turn_26 : decode cX1_turn 26 = .ok (.bipush 8, 2) := by decide +kernel
theorem dX1_turn_28 : decode cX1_turn 28 = .ok (.if_icmp .ne 13, 3) := by decide +kernel
theorem dX1_turn_31 : decode cX1_turn 31 = .ok (.iload_n 3, 1) := by decide +kernel
theorem dX1_turn_32 : decode cX1_turn 32 = .ok (.ifCond .ne 7, 3) := by decide +kernel
theorem dX1_turn_35 : decode cX1_turn 35 = .ok (.iconst 0, 1) := by decide +kernel
theorem dX1_turn_36 : decode cX1_turn 36 = .ok (.goto 4, 3) := by decide +kernel
theorem dX1_turn_39 : decode cX1_turn 39 = .ok (.iconst 1, 1) := by decide +kernel
theorem dX1_turn_40 : decode cX1_turn 40 = .ok (.ireturn, 1) := by decide +kernel
theorem dX1_turn_41 : decode cX1_turn 41 = .ok (.iload_n 3, 1) := by decide +kernel
theorem dX1_turn_42 : decode cX1_turn 42 = .ok (.ifCond .lt 11, 3) := by decide +kernel
theorem dX1_turn_45 : decode cX1_turn 45 = .ok (.iload_n 3, 1) := by decide +kernel
theorem dX1_turn_46 : decode cX1_turn 46 = .ok (.iload_n 2, 1) := by decide +kernel
theorem dX1_turn_47 : decode cX1_turn 47 = .ok (.bipush 15, 2) := by decide +kernel
theorem dX1_turn_49 : decode cX1_turn 49 = .ok (.iand, 1) := by decide +kernel
theorem dX1_turn_50 : decode cX1_turn 50 = .ok (.if_icmp .lt 17, 3) := by decide +kernel
theorem dX1_turn_53 : decode cX1_turn 53 = .ok (.aload_n 0, 1) := by decide +kernel
theorem dX1_turn_54 : decode cX1_turn 54 = .ok (.iconst 2, 1) := by decide +kernel
theorem dX1_turn_55 : decode cX1_turn 55 = .ok (.putfield 61, 3) := by decide +kernel
theorem dX1_turn_58 : decode cX1_turn 58 = .ok (.aload_n 0, 1) := by decide +kernel
theorem dX1_turn_59 : decode cX1_turn 59 = .ok (.ldc2_w 131, 3) := by decide +kernel
theorem dX1_turn_62 : decode cX1_turn 62 = .ok (.putfield 133, 3) := by decide +kernel
theorem dX1_turn_65 : decode cX1_turn 65 = .ok (.iconst 0, 1) := by decide +kernel
theorem dX1_turn_66 : decode cX1_turn 66 = .ok (.ireturn, 1) := by decide +kernel
theorem dX1_turn_67 : decode cX1_turn 67 = .ok (.iload_n 2, 1) := by decide +kernel
theorem dX1_turn_68 : decode cX1_turn 68 = .ok (.iconst 4, 1) := by decide +kernel
theorem dX1_turn_69 : decode cX1_turn 69 = .ok (.ishr, 1) := by decide +kernel
theorem dX1_turn_70 : decode cX1_turn 70 = .ok (.iload_n 3, 1) := by decide +kernel
theorem dX1_turn_71 : decode cX1_turn 71 = .ok (.iadd, 1) := by decide +kernel
theorem dX1_turn_72 : decode cX1_turn 72 = .ok (.istore 4, 2) := by decide +kernel
theorem dX1_turn_74 : decode cX1_turn 74 = .ok (.iload_n 1, 1) := by decide +kernel
theorem dX1_turn_75 : decode cX1_turn 75 = .ok (.bipush 11, 2) := by decide +kernel
theorem dX1_turn_77 : decode cX1_turn 77 = .ok (.if_icmp .eq 23, 3) := by decide +kernel
theorem dX1_turn_80 : decode cX1_turn 80 = .ok (.iload 4, 2) := by decide +kernel
theorem dX1_turn_82 : decode cX1_turn 82 = .ok (.aload_n 0, 1) := by decide +kernel
theorem dX1_turn_83 : decode cX1_turn 83 = .ok (.getfield 21, 3) := by decide +kernel
theorem dX1_turn_86 : decode cX1_turn 86 = .ok (.arraylength, 1) := by decide +kernel
theorem dX1_turn_87 : decode cX1_turn 87 = .ok (.if_icmp .ge 13, 3) := by decide +kernel
theorem dX1_turn_90 : decode cX1_turn 90 = .ok (.iload 4, 2) := by decide +kernel
theorem dX1_turn_92 : decode cX1_turn 92 = .ok (.aload_n 0, 1) := by decide +kernel
theorem dX1_turn_93 : decode cX1_turn 93 = .ok (.getfield 24, 3) := by decide +kernel
theorem dX1_turn_96 : decode cX1_turn 96 = .ok (.arraylength, 1) := by decide +kernel
theorem dX1_turn_97 : decode cX1_turn 97 = .ok (.if_icmp .lt 5, 3) := by decide +kernel
theorem dX1_turn_100 : decode cX1_turn 100 = .ok (.iload_n 3, 1) := by decide +kernel
theorem dX1_turn_101 : decode cX1_turn 101 = .ok (.ireturn, 1) := by decide +kernel
theorem dX1_turn_102 : decode cX1_turn 102 = .ok (.iload_n 1, 1) := by decide +kernel
theorem dX1_turn_103 : decode cX1_turn 103 = .ok (.bipush 9, 2) := by decide +kernel
theorem dX1_turn_105 : decode cX1_turn 105 = .ok (.if_icmp .ne 13, 3) := by decide +kernel
theorem dX1_turn_108 : decode cX1_turn 108 = .ok (.aload_n 0, 1) := by decide +kernel
theorem dX1_turn_109 : decode cX1_turn 109 = .ok (.getfield 21, 3) := by decide +kernel
theorem dX1_turn_112 : decode cX1_turn 112 = .ok (.iload 4, 2) := by decide +kernel
theorem dX1_turn_114 : decode cX1_turn 114 = .ok (.iaload, 1) := by decide +kernel
theorem dX1_turn_115 : decode cX1_turn 115 = .ok (.goto 10, 3) := by decide +kernel
theorem dX1_turn_118 : decode cX1_turn 118 = .ok (.aload_n 0, 1) := by decide +kernel
theorem dX1_turn_119 : decode cX1_turn 119 = .ok (.getfield 24, 3) := by decide +kernel
theorem dX1_turn_122 : decode cX1_turn 122 = .ok (.iload 4, 2) := by decide +kernel
theorem dX1_turn_124 : decode cX1_turn 124 = .ok (.iaload, 1) := by decide +kernel
theorem dX1_turn_125 : decode cX1_turn 125 = .ok (.ireturn, 1) := by decide +kernel
theorem dX1_reckon_0 : decode cX1_reckon 0 = .ok (.iload_n 1, 1) := by decide +kernel
theorem dX1_reckon_1 : decode cX1_reckon 1 = .ok (.lookupswitch 161 #[(42, 91), (43, 83), (45, 87), (60, 95), (62, 106), (201, 117), (202, 128), (203, 139), (204, 150)], 83) := by decide +kernel
theorem dX1_reckon_84 : decode cX1_reckon 84 = .ok (.iload_n 2, 1) := by decide +kernel
theorem dX1_reckon_85 : decode cX1_reckon 85 = .ok (.iload_n 3, 1) := by decide +kernel
theorem dX1_reckon_86 : decode cX1_reckon 86 = .ok (.iadd, 1) := by decide +kernel
theorem dX1_reckon_87 : decode cX1_reckon 87 = .ok (.ireturn, 1) := by decide +kernel
theorem dX1_reckon_88 : decode cX1_reckon 88 = .ok (.iload_n 2, 1) := by decide +kernel
theorem dX1_reckon_89 : decode cX1_reckon 89 = .ok (.iload_n 3, 1) := by decide +kernel
theorem dX1_reckon_90 : decode cX1_reckon 90 = .ok (.isub, 1) := by decide +kernel
theorem dX1_reckon_91 : decode cX1_reckon 91 = .ok (.ireturn, 1) := by decide +kernel
theorem dX1_reckon_92 : decode cX1_reckon 92 = .ok (.iload_n 2, 1) := by decide +kernel
theorem dX1_reckon_93 : decode cX1_reckon 93 = .ok (.iload_n 3, 1) := by decide +kernel
theorem dX1_reckon_94 : decode cX1_reckon 94 = .ok (.imul, 1) := by decide +kernel
theorem dX1_reckon_95 : decode cX1_reckon 95 = .ok (.ireturn, 1) := by decide +kernel
theorem dX1_reckon_96 : decode cX1_reckon 96 = .ok (.iload_n 2, 1) := by decide +kernel
theorem dX1_reckon_97 : decode cX1_reckon 97 = .ok (.iload_n 3, 1) := by decide +kernel
theorem dX1_reckon_98 : decode cX1_reckon 98 = .ok (.if_icmp .ge 7, 3) := by decide +kernel
theorem dX1_reckon_101 : decode cX1_reckon 101 = .ok (.iconst 1, 1) := by decide +kernel
theorem dX1_reckon_102 : decode cX1_reckon 102 = .ok (.goto 4, 3) := by decide +kernel
theorem dX1_reckon_105 : decode cX1_reckon 105 = .ok (.iconst 0, 1) := by decide +kernel
theorem dX1_reckon_106 : decode cX1_reckon 106 = .ok (.ireturn, 1) := by decide +kernel
theorem dX1_reckon_107 : decode cX1_reckon 107 = .ok (.iload_n 2, 1) := by decide +kernel
theorem dX1_reckon_108 : decode cX1_reckon 108 = .ok (.iload_n 3, 1) := by decide +kernel
theorem dX1_reckon_109 : decode cX1_reckon 109 = .ok (.if_icmp .le 7, 3) := by decide +kernel
theorem dX1_reckon_112 : decode cX1_reckon 112 = .ok (.iconst 1, 1) := by decide +kernel
theorem dX1_reckon_113 : decode cX1_reckon 113 = .ok (.goto 4, 3) := by decide +kernel
theorem dX1_reckon_116 : decode cX1_reckon 116 = .ok (.iconst 0, 1) := by decide +kernel
theorem dX1_reckon_117 : decode cX1_reckon 117 = .ok (.ireturn, 1) := by decide +kernel
theorem dX1_reckon_118 : decode cX1_reckon 118 = .ok (.iload_n 2, 1) := by decide +kernel
theorem dX1_reckon_119 : decode cX1_reckon 119 = .ok (.iload_n 3, 1) := by decide +kernel
theorem dX1_reckon_120 : decode cX1_reckon 120 = .ok (.if_icmp .ne 7, 3) := by decide +kernel
theorem dX1_reckon_123 : decode cX1_reckon 123 = .ok (.iconst 1, 1) := by decide +kernel
theorem dX1_reckon_124 : decode cX1_reckon 124 = .ok (.goto 4, 3) := by decide +kernel
theorem dX1_reckon_127 : decode cX1_reckon 127 = .ok (.iconst 0, 1) := by decide +kernel
theorem dX1_reckon_128 : decode cX1_reckon 128 = .ok (.ireturn, 1) := by decide +kernel
theorem dX1_reckon_129 : decode cX1_reckon 129 = .ok (.iload_n 2, 1) := by decide +kernel
theorem dX1_reckon_130 : decode cX1_reckon 130 = .ok (.iload_n 3, 1) := by decide +kernel
theorem dX1_reckon_131 : decode cX1_reckon 131 = .ok (.if_icmp .eq 7, 3) := by decide +kernel
theorem dX1_reckon_134 : decode cX1_reckon 134 = .ok (.iconst 1, 1) := by decide +kernel
theorem dX1_reckon_135 : decode cX1_reckon 135 = .ok (.goto 4, 3) := by decide +kernel
theorem dX1_reckon_138 : decode cX1_reckon 138 = .ok (.iconst 0, 1) := by decide +kernel
theorem dX1_reckon_139 : decode cX1_reckon 139 = .ok (.ireturn, 1) := by decide +kernel
theorem dX1_reckon_140 : decode cX1_reckon 140 = .ok (.iload_n 2, 1) := by decide +kernel
theorem dX1_reckon_141 : decode cX1_reckon 141 = .ok (.iload_n 3, 1) := by decide +kernel
theorem dX1_reckon_142 : decode cX1_reckon 142 = .ok (.if_icmp .gt 7, 3) := by decide +kernel
theorem dX1_reckon_145 : decode cX1_reckon 145 = .ok (.iconst 1, 1) := by decide +kernel
theorem dX1_reckon_146 : decode cX1_reckon 146 = .ok (.goto 4, 3) := by decide +kernel
theorem dX1_reckon_149 : decode cX1_reckon 149 = .ok (.iconst 0, 1) := by decide +kernel
theorem dX1_reckon_150 : decode cX1_reckon 150 = .ok (.ireturn, 1) := by decide +kernel
theorem dX1_reckon_151 : decode cX1_reckon 151 = .ok (.iload_n 2, 1) := by decide +kernel
theorem dX1_reckon_152 : decode cX1_reckon 152 = .ok (.iload_n 3, 1) := by decide +kernel
theorem dX1_reckon_153 : decode cX1_reckon 153 = .ok (.if_icmp .lt 7, 3) := by decide +kernel
theorem dX1_reckon_156 : decode cX1_reckon 156 = .ok (.iconst 1, 1) := by decide +kernel
theorem dX1_reckon_157 : decode cX1_reckon 157 = .ok (.goto 4, 3) := by decide +kernel
theorem dX1_reckon_160 : decode cX1_reckon 160 = .ok (.iconst 0, 1) := by decide +kernel
theorem dX1_reckon_161 : decode cX1_reckon 161 = .ok (.ireturn, 1) := by decide +kernel
theorem dX1_reckon_162 : decode cX1_reckon 162 = .ok (.iload_n 3, 1) := by decide +kernel
theorem dX1_reckon_163 : decode cX1_reckon 163 = .ok (.ifCond .ne 17, 3) := by decide +kernel
theorem dX1_reckon_166 : decode cX1_reckon 166 = .ok (.aload_n 0, 1) := by decide +kernel
theorem dX1_reckon_167 : decode cX1_reckon 167 = .ok (.iconst 2, 1) := by decide +kernel
theorem dX1_reckon_168 : decode cX1_reckon 168 = .ok (.putfield 61, 3) := by decide +kernel
theorem dX1_reckon_171 : decode cX1_reckon 171 = .ok (.aload_n 0, 1) := by decide +kernel
theorem dX1_reckon_172 : decode cX1_reckon 172 = .ok (.ldc2_w 137, 3) := by decide +kernel
theorem dX1_reckon_175 : decode cX1_reckon 175 = .ok (.putfield 133, 3) := by decide +kernel
theorem dX1_reckon_178 : decode cX1_reckon 178 = .ok (.iconst 0, 1) := by decide +kernel
theorem dX1_reckon_179 : decode cX1_reckon 179 = .ok (.ireturn, 1) := by decide +kernel
theorem dX1_reckon_180 : decode cX1_reckon 180 = .ok (.iload_n 1, 1) := by decide +kernel
theorem dX1_reckon_181 : decode cX1_reckon 181 = .ok (.bipush 47, 2) := by decide +kernel
theorem dX1_reckon_183 : decode cX1_reckon 183 = .ok (.if_icmp .ne 9, 3) := by decide +kernel
theorem dX1_reckon_186 : decode cX1_reckon 186 = .ok (.iload_n 2, 1) := by decide +kernel
theorem dX1_reckon_187 : decode cX1_reckon 187 = .ok (.iload_n 3, 1) := by decide +kernel
theorem dX1_reckon_188 : decode cX1_reckon 188 = .ok (.idiv, 1) := by decide +kernel
theorem dX1_reckon_189 : decode cX1_reckon 189 = .ok (.goto 6, 3) := by decide +kernel
theorem dX1_reckon_192 : decode cX1_reckon 192 = .ok (.iload_n 2, 1) := by decide +kernel
theorem dX1_reckon_193 : decode cX1_reckon 193 = .ok (.iload_n 3, 1) := by decide +kernel
theorem dX1_reckon_194 : decode cX1_reckon 194 = .ok (.irem, 1) := by decide +kernel
theorem dX1_reckon_195 : decode cX1_reckon 195 = .ok (.ireturn, 1) := by decide +kernel
theorem dX1_act_0 : decode cX1_act 0 = .ok (.iload_n 1, 1) := by decide +kernel
theorem dX1_act_1 : decode cX1_act 1 = .ok (.bipush 12, 2) := by decide +kernel
theorem dX1_act_3 : decode cX1_act 3 = .ok (.if_icmp .ne 28, 3) := by decide +kernel
theorem dX1_act_6 : decode cX1_act 6 = .ok (.iload_n 2, 1) := by decide +kernel
theorem dX1_act_7 : decode cX1_act 7 = .ok (.ifCond .lt 24, 3) := by decide +kernel
theorem dX1_act_10 : decode cX1_act 10 = .ok (.iload_n 2, 1) := by decide +kernel
theorem dX1_act_11 : decode cX1_act 11 = .ok (.aload_n 0, 1) := by decide +kernel
theorem dX1_act_12 : decode cX1_act 12 = .ok (.getfield 30, 3) := by decide +kernel
theorem dX1_act_15 : decode cX1_act 15 = .ok (.getfield 139, 3) := by decide +kernel
theorem dX1_act_18 : decode cX1_act 18 = .ok (.if_icmp .ge 13, 3) := by decide +kernel
theorem dX1_act_21 : decode cX1_act 21 = .ok (.aload_n 0, 1) := by decide +kernel
theorem dX1_act_22 : decode cX1_act 22 = .ok (.getfield 30, 3) := by decide +kernel
theorem dX1_act_25 : decode cX1_act 25 = .ok (.getfield 142, 3) := by decide +kernel
theorem dX1_act_28 : decode cX1_act 28 = .ok (.iload_n 2, 1) := by decide +kernel
theorem dX1_act_29 : decode cX1_act 29 = .ok (.iconst 1, 1) := by decide +kernel
theorem dX1_act_30 : decode cX1_act 30 = .ok (.bastore, 1) := by decide +kernel
theorem dX1_act_31 : decode cX1_act 31 = .ok (.iload_n 1, 1) := by decide +kernel
theorem dX1_act_32 : decode cX1_act 32 = .ok (.bipush 12, 2) := by decide +kernel
theorem dX1_act_34 : decode cX1_act 34 = .ok (.if_icmp .eq 9, 3) := by decide +kernel
theorem dX1_act_37 : decode cX1_act 37 = .ok (.iload_n 1, 1) := by decide +kernel
theorem dX1_act_38 : decode cX1_act 38 = .ok (.bipush 13, 2) := by decide +kernel
theorem dX1_act_40 : decode cX1_act 40 = .ok (.if_icmp .ne 38, 3) := by decide +kernel
theorem dX1_act_43 : decode cX1_act 43 = .ok (.aload_n 0, 1) := by decide +kernel
theorem dX1_act_44 : decode cX1_act 44 = .ok (.dup, 1) := by decide +kernel
theorem dX1_act_45 : decode cX1_act 45 = .ok (.getfield 125, 3) := by decide +kernel
theorem dX1_act_48 : decode cX1_act 48 = .ok (.iconst 1, 1) := by decide +kernel
theorem dX1_act_49 : decode cX1_act 49 = .ok (.iadd, 1) := by decide +kernel
theorem dX1_act_50 : decode cX1_act 50 = .ok (.putfield 125, 3) := by decide +kernel
theorem dX1_act_53 : decode cX1_act 53 = .ok (.aload_n 0, 1) := by decide +kernel
theorem dX1_act_54 : decode cX1_act 54 = .ok (.aload_n 0, 1) := by decide +kernel
theorem dX1_act_55 : decode cX1_act 55 = .ok (.getfield 125, 3) := by decide +kernel
theorem dX1_act_58 : decode cX1_act 58 = .ok (.sipush 300, 3) := by decide +kernel
theorem dX1_act_61 : decode cX1_act 61 = .ok (.if_icmp .le 7, 3) := by decide +kernel
theorem dX1_act_64 : decode cX1_act 64 = .ok (.iconst 3, 1) := by decide +kernel
theorem dX1_act_65 : decode cX1_act 65 = .ok (.goto 7, 3) := by decide +kernel
theorem dX1_act_68 : decode cX1_act 68 = .ok (.aload_n 0, 1) := by decide +kernel
theorem dX1_act_69 : decode cX1_act 69 = .ok (.getfield 61, 3) := by decide +kernel
theorem dX1_act_72 : decode cX1_act 72 = .ok (.putfield 61, 3) := by decide +kernel
theorem dX1_act_75 : decode cX1_act 75 = .ok (.goto 80, 3) := by decide +kernel
theorem dX1_act_78 : decode cX1_act 78 = .ok (.iload_n 1, 1) := by decide +kernel
theorem dX1_act_79 : decode cX1_act 79 = .ok (.bipush 14, 2) := by decide +kernel
theorem dX1_act_81 : decode cX1_act 81 = .ok (.if_icmp .ne 21, 3) := by decide +kernel
theorem dX1_act_84 : decode cX1_act 84 = .ok (.aload_n 0, 1) := by decide +kernel
theorem dX1_act_85 : decode cX1_act 85 = .ok (.getfield 15, 3) := by decide +kernel
theorem dX1_act_88 : decode cX1_act 88 = .ok (.aload_n 0, 1) := by decide +kernel
theorem dX1_act_89 : decode cX1_act 89 = .ok (.getfield 119, 3) := by decide +kernel
theorem dX1_act_92 : decode cX1_act 92 = .ok (.bipush 11, 2) := by decide +kernel
theorem dX1_act_94 : decode cX1_act 94 = .ok (.imul, 1) := by decide +kernel
theorem dX1_act_95 : decode cX1_act 95 = .ok (.iload_n 2, 1) := by decide +kernel
theorem dX1_act_96 : decode cX1_act 96 = .ok (.iadd, 1) := by decide +kernel
theorem dX1_act_97 : decode cX1_act 97 = .ok (.iconst 0, 1) := by decide +kernel
theorem dX1_act_98 : decode cX1_act 98 = .ok (.iastore, 1) := by decide +kernel
theorem dX1_act_99 : decode cX1_act 99 = .ok (.goto 56, 3) := by decide +kernel
theorem dX1_act_102 : decode cX1_act 102 = .ok (.iload_n 1, 1) := by decide +kernel
theorem dX1_act_103 : decode cX1_act 103 = .ok (.bipush 15, 2) := by decide +kernel
theorem dX1_act_105 : decode cX1_act 105 = .ok (.if_icmp .ne 11, 3) := by decide +kernel
theorem dX1_act_108 : decode cX1_act 108 = .ok (.aload_n 0, 1) := by decide +kernel
theorem dX1_act_109 : decode cX1_act 109 = .ok (.iload_n 2, 1) := by decide +kernel
theorem dX1_act_110 : decode cX1_act 110 = .ok (.putfield 49, 3) := by decide +kernel
theorem dX1_act_113 : decode cX1_act 113 = .ok (.goto 42, 3) := by decide +kernel
theorem dX1_act_116 : decode cX1_act 116 = .ok (.iload_n 1, 1) := by decide +kernel
theorem dX1_act_117 : decode cX1_act 117 = .ok (.bipush 16, 2) := by decide +kernel
theorem dX1_act_119 : decode cX1_act 119 = .ok (.if_icmp .ne 36, 3) := by decide +kernel
theorem dX1_act_122 : decode cX1_act 122 = .ok (.iload_n 2, 1) := by decide +kernel
theorem dX1_act_123 : decode cX1_act 123 = .ok (.ifCond .lt 32, 3) := by decide +kernel
theorem dX1_act_126 : decode cX1_act 126 = .ok (.iload_n 2, 1) := by decide +kernel
theorem dX1_act_127 : decode cX1_act 127 = .ok (.aload_n 0, 1) := by decide +kernel
theorem dX1_act_128 : decode cX1_act 128 = .ok (.getfield 30, 3) := by decide +kernel
theorem dX1_act_131 : decode cX1_act 131 = .ok (.getfield 146, 3) := by decide +kernel
theorem dX1_act_134 : decode cX1_act 134 = .ok (.if_icmp .ge 21, 3) := by decide +kernel
theorem dX1_act_137 : decode cX1_act 137 = .ok (.aload_n 0, 1) := by decide +kernel
theorem dX1_act_138 : decode cX1_act 138 = .ok (.iconst 2, 1) := by decide +kernel
theorem dX1_act_139 : decode cX1_act 139 = .ok (.putfield 61, 3) := by decide +kernel
theorem dX1_act_142 : decode cX1_act 142 = .ok (.aload_n 0, 1) := by decide +kernel
theorem dX1_act_143 : decode cX1_act 143 = .ok (.aload_n 0, 1) := by decide +kernel
theorem dX1_act_144 : decode cX1_act 144 = .ok (.getfield 30, 3) := by decide +kernel
theorem dX1_act_147 : decode cX1_act 147 = .ok (.getfield 149, 3) := by decide +kernel
theorem dX1_act_150 : decode cX1_act 150 = .ok (.iload_n 2, 1) := by decide +kernel
theorem dX1_act_151 : decode cX1_act 151 = .ok (.laload, 1) := by decide +kernel
theorem dX1_act_152 : decode cX1_act 152 = .ok (.putfield 133, 3) := by decide +kernel
theorem dX1_act_155 : decode cX1_act 155 = .ok (.return_, 1) := by decide +kernel
theorem dX1_use_0 : decode cX1_use 0 = .ok (.iload_n 1, 1) := by decide +kernel
theorem dX1_use_1 : decode cX1_use 1 = .ok (.bipush 20, 2) := by decide +kernel
theorem dX1_use_3 : decode cX1_use 3 = .ok (.if_icmp .ne 21, 3) := by decide +kernel
theorem dX1_use_6 : decode cX1_use 6 = .ok (.aload_n 0, 1) := by decide +kernel
theorem dX1_use_7 : decode cX1_use 7 = .ok (.getfield 15, 3) := by decide +kernel
theorem dX1_use_10 : decode cX1_use 10 = .ok (.aload_n 0, 1) := by decide +kernel
theorem dX1_use_11 : decode cX1_use 11 = .ok (.getfield 119, 3) := by decide +kernel
theorem dX1_use_14 : decode cX1_use 14 = .ok (.bipush 11, 2) := by decide +kernel
theorem dX1_use_16 : decode cX1_use 16 = .ok (.imul, 1) := by decide +kernel
theorem dX1_use_17 : decode cX1_use 17 = .ok (.iload_n 2, 1) := by decide +kernel
theorem dX1_use_18 : decode cX1_use 18 = .ok (.iadd, 1) := by decide +kernel
theorem dX1_use_19 : decode cX1_use 19 = .ok (.iload_n 3, 1) := by decide +kernel
theorem dX1_use_20 : decode cX1_use 20 = .ok (.iastore, 1) := by decide +kernel
theorem dX1_use_21 : decode cX1_use 21 = .ok (.goto 124, 3) := by decide +kernel
theorem dX1_use_24 : decode cX1_use 24 = .ok (.iload_n 1, 1) := by decide +kernel
theorem dX1_use_25 : decode cX1_use 25 = .ok (.bipush 21, 2) := by decide +kernel
theorem dX1_use_27 : decode cX1_use 27 = .ok (.if_icmp .ne 18, 3) := by decide +kernel
theorem dX1_use_30 : decode cX1_use 30 = .ok (.aload_n 0, 1) := by decide +kernel
theorem dX1_use_31 : decode cX1_use 31 = .ok (.getfield 38, 3) := by decide +kernel
theorem dX1_use_34 : decode cX1_use 34 = .ok (.ifCond .eq 11, 3) := by decide +kernel
theorem dX1_use_37 : decode cX1_use 37 = .ok (.aload_n 0, 1) := by decide +kernel
theorem dX1_use_38 : decode cX1_use 38 = .ok (.iconst 4, 1) := by decide +kernel
theorem dX1_use_39 : decode cX1_use 39 = .ok (.putfield 61, 3) := by decide +kernel
theorem dX1_use_42 : decode cX1_use 42 = .ok (.goto 103, 3) := by decide +kernel
theorem dX1_use_45 : decode cX1_use 45 = .ok (.iload_n 1, 1) := by decide +kernel
theorem dX1_use_46 : decode cX1_use 46 = .ok (.bipush 21, 2) := by decide +kernel
theorem dX1_use_48 : decode cX1_use 48 = .ok (.if_icmp .ne 26, 3) := by decide +kernel
theorem dX1_use_51 : decode cX1_use 51 = .ok (.iload_n 2, 1) := by decide +kernel
theorem dX1_use_52 : decode cX1_use 52 = .ok (.iconst 4, 1) := by decide +kernel
theorem dX1_use_53 : decode cX1_use 53 = .ok (.ishr, 1) := by decide +kernel
theorem dX1_use_54 : decode cX1_use 54 = .ok (.aload_n 0, 1) := by decide +kernel
theorem dX1_use_55 : decode cX1_use 55 = .ok (.getfield 21, 3) := by decide +kernel
theorem dX1_use_58 : decode cX1_use 58 = .ok (.arraylength, 1) := by decide +kernel
theorem dX1_use_59 : decode cX1_use 59 = .ok (.if_icmp .ge 15, 3) := by decide +kernel
theorem dX1_use_62 : decode cX1_use 62 = .ok (.aload_n 0, 1) := by decide +kernel
theorem dX1_use_63 : decode cX1_use 63 = .ok (.getfield 21, 3) := by decide +kernel
theorem dX1_use_66 : decode cX1_use 66 = .ok (.iload_n 2, 1) := by decide +kernel
theorem dX1_use_67 : decode cX1_use 67 = .ok (.iconst 4, 1) := by decide +kernel
theorem dX1_use_68 : decode cX1_use 68 = .ok (.ishr, 1) := by decide +kernel
theorem dX1_use_69 : decode cX1_use 69 = .ok (.iload_n 3, 1) := by decide +kernel
theorem dX1_use_70 : decode cX1_use 70 = .ok (.iastore, 1) := by decide +kernel
theorem dX1_use_71 : decode cX1_use 71 = .ok (.goto 74, 3) := by decide +kernel
theorem dX1_use_74 : decode cX1_use 74 = .ok (.iload_n 1, 1) := by decide +kernel
theorem dX1_use_75 : decode cX1_use 75 = .ok (.bipush 23, 2) := by decide +kernel
theorem dX1_use_77 : decode cX1_use 77 = .ok (.if_icmp .ne 15, 3) := by decide +kernel
theorem dX1_use_80 : decode cX1_use 80 = .ok (.iload_n 3, 1) := by decide +kernel
theorem dX1_use_81 : decode cX1_use 81 = .ok (.ifCond .ne 11, 3) := by decide +kernel
theorem dX1_use_84 : decode cX1_use 84 = .ok (.aload_n 0, 1) := by decide +kernel
theorem dX1_use_85 : decode cX1_use 85 = .ok (.iload_n 2, 1) := by decide +kernel
theorem dX1_use_86 : decode cX1_use 86 = .ok (.putfield 49, 3) := by decide +kernel
theorem dX1_use_89 : decode cX1_use 89 = .ok (.goto 56, 3) := by decide +kernel
theorem dX1_use_92 : decode cX1_use 92 = .ok (.iload_n 1, 1) := by decide +kernel
theorem dX1_use_93 : decode cX1_use 93 = .ok (.bipush 24, 2) := by decide +kernel
theorem dX1_use_95 : decode cX1_use 95 = .ok (.if_icmp .ne 7, 3) := by decide +kernel
theorem dX1_use_98 : decode cX1_use 98 = .ok (.iload_n 3, 1) := by decide +kernel
theorem dX1_use_99 : decode cX1_use 99 = .ok (.ifCond .eq 13, 3) := by decide +kernel
theorem dX1_use_102 : decode cX1_use 102 = .ok (.iload_n 1, 1) := by decide +kernel
theorem dX1_use_103 : decode cX1_use 103 = .ok (.bipush 25, 2) := by decide +kernel
theorem dX1_use_105 : decode cX1_use 105 = .ok (.if_icmp .ne 40, 3) := by decide +kernel
theorem dX1_use_108 : decode cX1_use 108 = .ok (.iload_n 3, 1) := by decide +kernel
theorem dX1_use_109 : decode cX1_use 109 = .ok (.ifCond .eq 36, 3) := by decide +kernel
theorem dX1_use_112 : decode cX1_use 112 = .ok (.aload_n 0, 1) := by decide +kernel
theorem dX1_use_113 : decode cX1_use 113 = .ok (.getfield 11, 3) := by decide +kernel
theorem dX1_use_116 : decode cX1_use 116 = .ok (.aload_n 0, 1) := by decide +kernel
theorem dX1_use_117 : decode cX1_use 117 = .ok (.getfield 122, 3) := by decide +kernel
theorem dX1_use_120 : decode cX1_use 120 = .ok (.iload_n 3, 1) := by decide +kernel
theorem dX1_use_121 : decode cX1_use 121 = .ok (.ifCond .ne 7, 3) := by decide +kernel
theorem dX1_use_124 : decode cX1_use 124 = .ok (.iconst 0, 1) := by decide +kernel
theorem dX1_use_125 : decode cX1_use 125 = .ok (.goto 4, 3) := by decide +kernel
theorem dX1_use_128 : decode cX1_use 128 = .ok (.iconst 1, 1) := by decide +kernel
theorem dX1_use_129 : decode cX1_use 129 = .ok (.iastore, 1) := by decide +kernel
theorem dX1_use_130 : decode cX1_use 130 = .ok (.aload_n 0, 1) := by decide +kernel
theorem dX1_use_131 : decode cX1_use 131 = .ok (.dup, 1) := by decide +kernel
theorem dX1_use_132 : decode cX1_use 132 = .ok (.getfield 122, 3) := by decide +kernel
theorem dX1_use_135 : decode cX1_use 135 = .ok (.iconst 1, 1) := by decide +kernel
theorem dX1_use_136 : decode cX1_use 136 = .ok (.iadd, 1) := by decide +kernel
theorem dX1_use_137 : decode cX1_use 137 = .ok (.putfield 122, 3) := by decide +kernel
theorem dX1_use_140 : decode cX1_use 140 = .ok (.aload_n 0, 1) := by decide +kernel
theorem dX1_use_141 : decode cX1_use 141 = .ok (.iload_n 2, 1) := by decide +kernel
theorem dX1_use_142 : decode cX1_use 142 = .ok (.putfield 49, 3) := by decide +kernel
theorem dX1_use_145 : decode cX1_use 145 = .ok (.return_, 1) := by decide +kernel
theorem dX1_setCell_0 : decode cX1_setCell 0 = .ok (.iload_n 1, 1) := by decide +kernel
theorem dX1_setCell_1 : decode cX1_setCell 1 = .ok (.iconst 4, 1) := by decide +kernel
theorem dX1_setCell_2 : decode cX1_setCell 2 = .ok (.ishr, 1) := by decide +kernel
theorem dX1_setCell_3 : decode cX1_setCell 3 = .ok (.iload_n 2, 1) := by decide +kernel
theorem dX1_setCell_4 : decode cX1_setCell 4 = .ok (.iadd, 1) := by decide +kernel
theorem dX1_setCell_5 : decode cX1_setCell 5 = .ok (.istore 4, 2) := by decide +kernel
theorem dX1_setCell_7 : decode cX1_setCell 7 = .ok (.aload_n 0, 1) := by decide +kernel
theorem dX1_setCell_8 : decode cX1_setCell 8 = .ok (.getfield 38, 3) := by decide +kernel
theorem dX1_setCell_11 : decode cX1_setCell 11 = .ok (.ifCond .eq 11, 3) := by decide +kernel
theorem dX1_setCell_14 : decode cX1_setCell 14 = .ok (.aload_n 0, 1) := by decide +kernel
theorem dX1_setCell_15 : decode cX1_setCell 15 = .ok (.iconst 4, 1) := by decide +kernel
theorem dX1_setCell_16 : decode cX1_setCell 16 = .ok (.putfield 61, 3) := by decide +kernel
theorem dX1_setCell_19 : decode cX1_setCell 19 = .ok (.goto 33, 3) := by decide +kernel
theorem dX1_setCell_22 : decode cX1_setCell 22 = .ok (.iload_n 2, 1) := by decide +kernel
theorem dX1_setCell_23 : decode cX1_setCell 23 = .ok (.ifCond .lt 29, 3) := by decide +kernel
theorem dX1_setCell_26 : decode cX1_setCell 26 = .ok (.iload_n 2, 1) := by decide +kernel
theorem dX1_setCell_27 : decode cX1_setCell 27 = .ok (.iload_n 1, 1) := by decide +kernel
theorem dX1_setCell_28 : decode cX1_setCell 28 = .ok (.bipush 15, 2) := by decide +kernel
theorem dX1_setCell_30 : decode cX1_setCell 30 = .ok (.iand, 1) := by decide +kernel
theorem dX1_setCell_31 : decode cX1_setCell 31 = .ok (.if_icmp .ge 21, 3) := by decide +kernel
theorem dX1_setCell_34 : decode cX1_setCell 34 = .ok (.iload 4, 2) := by decide +kernel
theorem dX1_setCell_36 : decode cX1_setCell 36 = .ok (.aload_n 0, 1) := by decide +kernel
theorem dX1_setCell_37 : decode cX1_setCell 37 = .ok (.getfield 21, 3) := by decide +kernel
theorem dX1_setCell_40 : decode cX1_setCell 40 = .ok (.arraylength, 1) := by decide +kernel
theorem dX1_setCell_41 : decode cX1_setCell 41 = .ok (.if_icmp .ge 11, 3) := by decide +kernel
theorem dX1_setCell_44 : decode cX1_setCell 44 = .ok (.aload_n 0, 1) := by decide +kernel
theorem dX1_setCell_45 : decode cX1_setCell 45 = .ok (.getfield 21, 3) := by decide +kernel
theorem dX1_setCell_48 : decode cX1_setCell 48 = .ok (.iload 4, 2) := by decide +kernel
theorem dX1_setCell_50 : decode cX1_setCell 50 = .ok (.iload_n 3, 1) := by decide +kernel
theorem dX1_setCell_51 : decode cX1_setCell 51 = .ok (.iastore, 1) := by decide +kernel
theorem dX1_setCell_52 : decode cX1_setCell 52 = .ok (.return_, 1) := by decide +kernel
theorem dX1_enter_0 : decode cX1_enter 0 = .ok (.aload_n 0, 1) := by decide +kernel
theorem dX1_enter_1 : decode cX1_enter 1 = .ok (.getfield 119, 3) := by decide +kernel
theorem dX1_enter_4 : decode cX1_enter 4 = .ok (.bipush 20, 2) := by decide +kernel
theorem dX1_enter_6 : decode cX1_enter 6 = .ok (.if_icmp .ge 18, 3) := by decide +kernel
theorem dX1_enter_9 : decode cX1_enter 9 = .ok (.iload_n 1, 1) := by decide +kernel
theorem dX1_enter_10 : decode cX1_enter 10 = .ok (.ifCond .lt 14, 3) := by decide +kernel
theorem dX1_enter_13 : decode cX1_enter 13 = .ok (.iload_n 1, 1) := by decide +kernel
theorem dX1_enter_14 : decode cX1_enter 14 = .ok (.aload_n 0, 1) := by decide +kernel
theorem dX1_enter_15 : decode cX1_enter 15 = .ok (.getfield 30, 3) := by decide +kernel
theorem dX1_enter_18 : decode cX1_enter 18 = .ok (.getfield 153, 3) := by decide +kernel
theorem dX1_enter_21 : decode cX1_enter 21 = .ok (.if_icmp .lt 9, 3) := by decide +kernel
theorem dX1_enter_24 : decode cX1_enter 24 = .ok (.aload_n 0, 1) := by decide +kernel
theorem dX1_enter_25 : decode cX1_enter 25 = .ok (.iconst 3, 1) := by decide +kernel
theorem dX1_enter_26 : decode cX1_enter 26 = .ok (.putfield 61, 3) := by decide +kernel
theorem dX1_enter_29 : decode cX1_enter 29 = .ok (.return_, 1) := by decide +kernel
theorem dX1_enter_30 : decode cX1_enter 30 = .ok (.aload_n 0, 1) := by decide +kernel
theorem dX1_enter_31 : decode cX1_enter 31 = .ok (.getfield 30, 3) := by decide +kernel
theorem dX1_enter_34 : decode cX1_enter 34 = .ok (.getfield 156, 3) := by decide +kernel
theorem dX1_enter_37 : decode cX1_enter 37 = .ok (.iload_n 1, 1) := by decide +kernel
theorem dX1_enter_38 : decode cX1_enter 38 = .ok (.aaload, 1) := by decide +kernel
theorem dX1_enter_39 : decode cX1_enter 39 = .ok (.astore_n 2, 1) := by decide +kernel
theorem dX1_enter_40 : decode cX1_enter 40 = .ok (.aload_n 0, 1) := by decide +kernel
theorem dX1_enter_41 : decode cX1_enter 41 = .ok (.dup, 1) := by decide +kernel
theorem dX1_enter_42 : decode cX1_enter 42 = .ok (.getfield 119, 3) := by decide +kernel
theorem dX1_enter_45 : decode cX1_enter 45 = .ok (.iconst 1, 1) := by decide +kernel
theorem dX1_enter_46 : decode cX1_enter 46 = .ok (.iadd, 1) := by decide +kernel
theorem dX1_enter_47 : decode cX1_enter 47 = .ok (.putfield 119, 3) := by decide +kernel
theorem dX1_enter_50 : decode cX1_enter 50 = .ok (.aload_n 0, 1) := by decide +kernel
theorem dX1_enter_51 : decode cX1_enter 51 = .ok (.getfield 18, 3) := by decide +kernel
theorem dX1_enter_54 : decode cX1_enter 54 = .ok (.aload_n 0, 1) := by decide +kernel
theorem dX1_enter_55 : decode cX1_enter 55 = .ok (.getfield 119, 3) := by decide +kernel
theorem dX1_enter_58 : decode cX1_enter 58 = .ok (.aload_n 0, 1) := by decide +kernel
theorem dX1_enter_59 : decode cX1_enter 59 = .ok (.getfield 49, 3) := by decide +kernel
theorem dX1_enter_62 : decode cX1_enter 62 = .ok (.iastore, 1) := by decide +kernel
theorem dX1_enter_63 : decode cX1_enter 63 = .ok (.aload_n 0, 1) := by decide +kernel
theorem dX1_enter_64 : decode cX1_enter 64 = .ok (.aload_n 2, 1) := by decide +kernel
theorem dX1_enter_65 : decode cX1_enter 65 = .ok (.getfield 52, 3) := by decide +kernel
theorem dX1_enter_68 : decode cX1_enter 68 = .ok (.putfield 49, 3) := by decide +kernel
theorem dX1_enter_71 : decode cX1_enter 71 = .ok (.aload_n 0, 1) := by decide +kernel
theorem dX1_enter_72 : decode cX1_enter 72 = .ok (.aload_n 0, 1) := by decide +kernel
theorem dX1_enter_73 : decode cX1_enter 73 = .ok (.getfield 122, 3) := by decide +kernel
theorem dX1_enter_76 : decode cX1_enter 76 = .ok (.aload_n 2, 1) := by decide +kernel
theorem dX1_enter_77 : decode cX1_enter 77 = .ok (.getfield 160, 3) := by decide +kernel
theorem dX1_enter_80 : decode cX1_enter 80 = .ok (.if_icmp .le 15, 3) := by decide +kernel
theorem dX1_enter_83 : decode cX1_enter 83 = .ok (.aload_n 0, 1) := by decide +kernel
theorem dX1_enter_84 : decode cX1_enter 84 = .ok (.getfield 122, 3) := by decide +kernel
theorem dX1_enter_87 : decode cX1_enter 87 = .ok (.aload_n 2, 1) := by decide +kernel
theorem dX1_enter_88 : decode cX1_enter 88 = .ok (.getfield 160, 3) := by decide +kernel
theorem dX1_enter_91 : decode cX1_enter 91 = .ok (.isub, 1) := by decide +kernel
theorem dX1_enter_92 : decode cX1_enter 92 = .ok (.goto 4, 3) := by decide +kernel
theorem dX1_enter_95 : decode cX1_enter 95 = .ok (.iconst 0, 1) := by decide +kernel
theorem dX1_enter_96 : decode cX1_enter 96 = .ok (.putfield 122, 3) := by decide +kernel
theorem dX1_enter_99 : decode cX1_enter 99 = .ok (.iconst 0, 1) := by decide +kernel
theorem dX1_enter_100 : decode cX1_enter 100 = .ok (.istore_n 3, 1) := by decide +kernel
theorem dX1_enter_101 : decode cX1_enter 101 = .ok (.iload_n 3, 1) := by decide +kernel
theorem dX1_enter_102 : decode cX1_enter 102 = .ok (.aload_n 2, 1) := by decide +kernel
theorem dX1_enter_103 : decode cX1_enter 103 = .ok (.getfield 160, 3) := by decide +kernel
theorem dX1_enter_106 : decode cX1_enter 106 = .ok (.if_icmp .ge 34, 3) := by decide +kernel
theorem dX1_enter_109 : decode cX1_enter 109 = .ok (.aload_n 0, 1) := by decide +kernel
theorem dX1_enter_110 : decode cX1_enter 110 = .ok (.getfield 15, 3) := by decide +kernel
theorem dX1_enter_113 : decode cX1_enter 113 = .ok (.aload_n 0, 1) := by decide +kernel
theorem dX1_enter_114 : decode cX1_enter 114 = .ok (.getfield 119, 3) := by decide +kernel
theorem dX1_enter_117 : decode cX1_enter 117 = .ok (.bipush 11, 2) := by decide +kernel
theorem dX1_enter_119 : decode cX1_enter 119 = .ok (.imul, 1) := by decide +kernel
theorem dX1_enter_120 : decode cX1_enter 120 = .ok (.iload_n 3, 1) := by decide +kernel
theorem dX1_enter_121 : decode cX1_enter 121 = .ok (.iadd, 1) := by decide +kernel
theorem dX1_enter_122 : decode cX1_enter 122 = .ok (.aload_n 0, 1) := by decide +kernel
theorem dX1_enter_123 : decode cX1_enter 123 = .ok (.getfield 11, 3) := by decide +kernel
theorem dX1_enter_126 : decode cX1_enter 126 = .ok (.aload_n 0, 1) := by decide +kernel
theorem dX1_enter_127 : decode cX1_enter 127 = .ok (.getfield 122, 3) := by decide +kernel
theorem dX1_enter_130 : decode cX1_enter 130 = .ok (.iload_n 3, 1) := by decide +kernel
theorem dX1_enter_131 : decode cX1_enter 131 = .ok (.iadd, 1) := by decide +kernel
theorem dX1_enter_132 : decode cX1_enter 132 = .ok (.iaload, 1) := by decide +kernel
theorem dX1_enter_133 : decode cX1_enter 133 = .ok (.iastore, 1) := by decide +kernel
theorem dX1_enter_134 : decode cX1_enter 134 = .ok (.iinc 3 1, 3) := by decide +kernel
theorem dX1_enter_137 : decode cX1_enter 137 = .ok (.goto (-36), 3) := by decide +kernel
theorem dX1_enter_140 : decode cX1_enter 140 = .ok (.return_, 1) := by decide +kernel
theorem dX1_leave_0 : decode cX1_leave 0 = .ok (.aload_n 0, 1) := by decide +kernel
theorem dX1_leave_1 : decode cX1_leave 1 = .ok (.getfield 119, 3) := by decide +kernel
theorem dX1_leave_4 : decode cX1_leave 4 = .ok (.aload_n 0, 1) := by decide +kernel
theorem dX1_leave_5 : decode cX1_leave 5 = .ok (.getfield 46, 3) := by decide +kernel
theorem dX1_leave_8 : decode cX1_leave 8 = .ok (.if_icmp .ne 14, 3) := by decide +kernel
theorem dX1_leave_11 : decode cX1_leave 11 = .ok (.aload_n 0, 1) := by decide +kernel
theorem dX1_leave_12 : decode cX1_leave 12 = .ok (.iload_n 1, 1) := by decide +kernel
theorem dX1_leave_13 : decode cX1_leave 13 = .ok (.putfield 128, 3) := by decide +kernel
theorem dX1_leave_16 : decode cX1_leave 16 = .ok (.aload_n 0, 1) := by decide +kernel
theorem dX1_leave_17 : decode cX1_leave 17 = .ok (.iconst 1, 1) := by decide +kernel
theorem dX1_leave_18 : decode cX1_leave 18 = .ok (.putfield 61, 3) := by decide +kernel
theorem dX1_leave_21 : decode cX1_leave 21 = .ok (.return_, 1) := by decide +kernel
theorem dX1_leave_22 : decode cX1_leave 22 = .ok (.aload_n 0, 1) := by decide +kernel
theorem dX1_leave_23 : decode cX1_leave 23 = .ok (.aload_n 0, 1) := by decide +kernel
theorem dX1_leave_24 : decode cX1_leave 24 = .ok (.getfield 18, 3) := by decide +kernel
theorem dX1_leave_27 : decode cX1_leave 27 = .ok (.aload_n 0, 1) := by decide +kernel
theorem dX1_leave_28 : decode cX1_leave 28 = .ok (.getfield 119, 3) := by decide +kernel
theorem dX1_leave_31 : decode cX1_leave 31 = .ok (.iaload, 1) := by decide +kernel
theorem dX1_leave_32 : decode cX1_leave 32 = .ok (.putfield 49, 3) := by decide +kernel
theorem dX1_leave_35 : decode cX1_leave 35 = .ok (.aload_n 0, 1) := by decide +kernel
theorem dX1_leave_36 : decode cX1_leave 36 = .ok (.dup, 1) := by decide +kernel
theorem dX1_leave_37 : decode cX1_leave 37 = .ok (.getfield 119, 3) := by decide +kernel
theorem dX1_leave_40 : decode cX1_leave 40 = .ok (.iconst 1, 1) := by decide +kernel
theorem dX1_leave_41 : decode cX1_leave 41 = .ok (.isub, 1) := by decide +kernel
theorem dX1_leave_42 : decode cX1_leave 42 = .ok (.putfield 119, 3) := by decide +kernel
theorem dX1_leave_45 : decode cX1_leave 45 = .ok (.aload_n 0, 1) := by decide +kernel
theorem dX1_leave_46 : decode cX1_leave 46 = .ok (.getfield 122, 3) := by decide +kernel
theorem dX1_leave_49 : decode cX1_leave 49 = .ok (.sipush 700, 3) := by decide +kernel
theorem dX1_leave_52 : decode cX1_leave 52 = .ok (.if_icmp .ge 23, 3) := by decide +kernel
theorem dX1_leave_55 : decode cX1_leave 55 = .ok (.aload_n 0, 1) := by decide +kernel
theorem dX1_leave_56 : decode cX1_leave 56 = .ok (.getfield 11, 3) := by decide +kernel
theorem dX1_leave_59 : decode cX1_leave 59 = .ok (.aload_n 0, 1) := by decide +kernel
theorem dX1_leave_60 : decode cX1_leave 60 = .ok (.getfield 122, 3) := by decide +kernel
theorem dX1_leave_63 : decode cX1_leave 63 = .ok (.iload_n 1, 1) := by decide +kernel
theorem dX1_leave_64 : decode cX1_leave 64 = .ok (.iastore, 1) := by decide +kernel
theorem dX1_leave_65 : decode cX1_leave 65 = .ok (.aload_n 0, 1) := by decide +kernel
theorem dX1_leave_66 : decode cX1_leave 66 = .ok (.dup, 1) := by decide +kernel
theorem dX1_leave_67 : decode cX1_leave 67 = .ok (.getfield 122, 3) := by decide +kernel
theorem dX1_leave_70 : decode cX1_leave 70 = .ok (.iconst 1, 1) := by decide +kernel
theorem dX1_leave_71 : decode cX1_leave 71 = .ok (.iadd, 1) := by decide +kernel
theorem dX1_leave_72 : decode cX1_leave 72 = .ok (.putfield 122, 3) := by decide +kernel
theorem dX1_leave_75 : decode cX1_leave 75 = .ok (.return_, 1) := by decide +kernel
theorem dX3_roomForCall_0 : decode cX3_roomForCall 0 = .ok (.aload_n 0, 1) := by decide +kernel
theorem dX3_roomForCall_1 : decode cX3_roomForCall 1 = .ok (.getfield 28, 3) := by decide +kernel
theorem dX3_roomForCall_4 : decode cX3_roomForCall 4 = .ok (.bipush 10, 2) := by decide +kernel
theorem dX3_roomForCall_6 : decode cX3_roomForCall 6 = .ok (.if_icmp .ge 7, 3) := by decide +kernel
theorem dX3_roomForCall_9 : decode cX3_roomForCall 9 = .ok (.iconst 1, 1) := by decide +kernel
theorem dX3_roomForCall_10 : decode cX3_roomForCall 10 = .ok (.goto 4, 3) := by decide +kernel
theorem dX3_roomForCall_13 : decode cX3_roomForCall 13 = .ok (.iconst 0, 1) := by decide +kernel
theorem dX3_roomForCall_14 : decode cX3_roomForCall 14 = .ok (.ireturn, 1) := by decide +kernel
theorem dX3_roomForMake_0 : decode cX3_roomForMake 0 = .ok (.aload_n 0, 1) := by decide +kernel
theorem dX3_roomForMake_1 : decode cX3_roomForMake 1 = .ok (.getfield 28, 3) := by decide +kernel
theorem dX3_roomForMake_4 : decode cX3_roomForMake 4 = .ok (.bipush 10, 2) := by decide +kernel
theorem dX3_roomForMake_6 : decode cX3_roomForMake 6 = .ok (.if_icmp .ge 15, 3) := by decide +kernel
theorem dX3_roomForMake_9 : decode cX3_roomForMake 9 = .ok (.aload_n 0, 1) := by decide +kernel
theorem dX3_roomForMake_10 : decode cX3_roomForMake 10 = .ok (.getfield 32, 3) := by decide +kernel
theorem dX3_roomForMake_13 : decode cX3_roomForMake 13 = .ok (.iconst 3, 1) := by decide +kernel
theorem dX3_roomForMake_14 : decode cX3_roomForMake 14 = .ok (.if_icmp .ge 7, 3) := by decide +kernel
theorem dX3_roomForMake_17 : decode cX3_roomForMake 17 = .ok (.iconst 1, 1) := by decide +kernel
theorem dX3_roomForMake_18 : decode cX3_roomForMake 18 = .ok (.goto 4, 3) := by decide +kernel
theorem dX3_roomForMake_21 : decode cX3_roomForMake 21 = .ok (.iconst 0, 1) := by decide +kernel
theorem dX3_roomForMake_22 : decode cX3_roomForMake 22 = .ok (.ireturn, 1) := by decide +kernel
theorem dX3_wipe_0 : decode cX3_wipe 0 = .ok (.aload_n 0, 1) := by decide +kernel
theorem dX3_wipe_1 : decode cX3_wipe 1 = .ok (.iconst 0, 1) := by decide +kernel
theorem dX3_wipe_2 : decode cX3_wipe 2 = .ok (.putfield 28, 3) := by decide +kernel
theorem dX3_wipe_5 : decode cX3_wipe 5 = .ok (.aload_n 0, 1) := by decide +kernel
theorem dX3_wipe_6 : decode cX3_wipe 6 = .ok (.iconst 0, 1) := by decide +kernel
theorem dX3_wipe_7 : decode cX3_wipe 7 = .ok (.putfield 32, 3) := by decide +kernel
theorem dX3_wipe_10 : decode cX3_wipe 10 = .ok (.return_, 1) := by decide +kernel
theorem dX3_addMake_0 : decode cX3_addMake 0 = .ok (.aload_n 0, 1) := by decide +kernel
theorem dX3_addMake_1 : decode cX3_addMake 1 = .ok (.getfield 28, 3) := by decide +kernel
theorem dX3_addMake_4 : decode cX3_addMake 4 = .ok (.bipush 10, 2) := by decide +kernel
theorem dX3_addMake_6 : decode cX3_addMake 6 = .ok (.if_icmp .ge 57, 3) := by decide +kernel
theorem dX3_addMake_9 : decode cX3_addMake 9 = .ok (.aload_n 0, 1) := by decide +kernel
theorem dX3_addMake_10 : decode cX3_addMake 10 = .ok (.getfield 32, 3) := by decide +kernel
theorem dX3_addMake_13 : decode cX3_addMake 13 = .ok (.iconst 3, 1) := by decide +kernel
theorem dX3_addMake_14 : decode cX3_addMake 14 = .ok (.if_icmp .ge 49, 3) := by decide +kernel
theorem dX3_addMake_17 : decode cX3_addMake 17 = .ok (.aload_n 0, 1) := by decide +kernel
theorem dX3_addMake_18 : decode cX3_addMake 18 = .ok (.getfield 25, 3) := by decide +kernel
theorem dX3_addMake_21 : decode cX3_addMake 21 = .ok (.aload_n 0, 1) := by decide +kernel
theorem dX3_addMake_22 : decode cX3_addMake 22 = .ok (.getfield 32, 3) := by decide +kernel
theorem dX3_addMake_25 : decode cX3_addMake 25 = .ok (.iload_n 1, 1) := by decide +kernel
theorem dX3_addMake_26 : decode cX3_addMake 26 = .ok (.iastore, 1) := by decide +kernel
theorem dX3_addMake_27 : decode cX3_addMake 27 = .ok (.aload_n 0, 1) := by decide +kernel
theorem dX3_addMake_28 : decode cX3_addMake 28 = .ok (.aload_n 0, 1) := by decide +kernel
theorem dX3_addMake_29 : decode cX3_addMake 29 = .ok (.getfield 28, 3) := by decide +kernel
theorem dX3_addMake_32 : decode cX3_addMake 32 = .ok (.aload_n 0, 1) := by decide +kernel
theorem dX3_addMake_33 : decode cX3_addMake 33 = .ok (.getfield 32, 3) := by decide +kernel
theorem dX3_addMake_36 : decode cX3_addMake 36 = .ok (.iconst (-1), 1) := by decide +kernel
theorem dX3_addMake_37 : decode cX3_addMake 37 = .ok (.iload_n 1, 1) := by decide +kernel
theorem dX3_addMake_38 : decode cX3_addMake 38 = .ok (.iconst 0, 1) := by decide +kernel
theorem dX3_addMake_39 : decode cX3_addMake 39 = .ok (.iconst 0, 1) := by decide +kernel
theorem dX3_addMake_40 : decode cX3_addMake 40 = .ok (.invokevirtual 61, 3) := by decide +kernel
theorem dX3_addMake_43 : decode cX3_addMake 43 = .ok (.aload_n 0, 1) := by decide +kernel
theorem dX3_addMake_44 : decode cX3_addMake 44 = .ok (.dup, 1) := by decide +kernel
theorem dX3_addMake_45 : decode cX3_addMake 45 = .ok (.getfield 32, 3) := by decide +kernel
theorem dX3_addMake_48 : decode cX3_addMake 48 = .ok (.iconst 1, 1) := by decide +kernel
theorem dX3_addMake_49 : decode cX3_addMake 49 = .ok (.iadd, 1) := by decide +kernel
theorem dX3_addMake_50 : decode cX3_addMake 50 = .ok (.putfield 32, 3) := by decide +kernel
theorem dX3_addMake_53 : decode cX3_addMake 53 = .ok (.aload_n 0, 1) := by decide +kernel
theorem dX3_addMake_54 : decode cX3_addMake 54 = .ok (.dup, 1) := by decide +kernel
theorem dX3_addMake_55 : decode cX3_addMake 55 = .ok (.getfield 28, 3) := by decide +kernel
theorem dX3_addMake_58 : decode cX3_addMake 58 = .ok (.iconst 1, 1) := by decide +kernel
theorem dX3_addMake_59 : decode cX3_addMake 59 = .ok (.iadd, 1) := by decide +kernel
theorem dX3_addMake_60 : decode cX3_addMake 60 = .ok (.putfield 28, 3) := by decide +kernel
theorem dX3_addMake_63 : decode cX3_addMake 63 = .ok (.return_, 1) := by decide +kernel
theorem dX3_addCall_0 : decode cX3_addCall 0 = .ok (.aload_n 0, 1) := by decide +kernel
theorem dX3_addCall_1 : decode cX3_addCall 1 = .ok (.getfield 28, 3) := by decide +kernel
theorem dX3_addCall_4 : decode cX3_addCall 4 = .ok (.bipush 10, 2) := by decide +kernel
theorem dX3_addCall_6 : decode cX3_addCall 6 = .ok (.if_icmp .ge 28, 3) := by decide +kernel
theorem dX3_addCall_9 : decode cX3_addCall 9 = .ok (.aload_n 0, 1) := by decide +kernel
theorem dX3_addCall_10 : decode cX3_addCall 10 = .ok (.aload_n 0, 1) := by decide +kernel
theorem dX3_addCall_11 : decode cX3_addCall 11 = .ok (.getfield 28, 3) := by decide +kernel
theorem dX3_addCall_14 : decode cX3_addCall 14 = .ok (.iload_n 1, 1) := by decide +kernel
theorem dX3_addCall_15 : decode cX3_addCall 15 = .ok (.iload_n 2, 1) := by decide +kernel
theorem dX3_addCall_16 : decode cX3_addCall 16 = .ok (.iload_n 3, 1) := by decide +kernel
theorem dX3_addCall_17 : decode cX3_addCall 17 = .ok (.iload 4, 2) := by decide +kernel
theorem dX3_addCall_19 : decode cX3_addCall 19 = .ok (.iload 5, 2) := by decide +kernel
theorem dX3_addCall_21 : decode cX3_addCall 21 = .ok (.invokevirtual 61, 3) := by decide +kernel
theorem dX3_addCall_24 : decode cX3_addCall 24 = .ok (.aload_n 0, 1) := by decide +kernel
theorem dX3_addCall_25 : decode cX3_addCall 25 = .ok (.dup, 1) := by decide +kernel
theorem dX3_addCall_26 : decode cX3_addCall 26 = .ok (.getfield 28, 3) := by decide +kernel
theorem dX3_addCall_29 : decode cX3_addCall 29 = .ok (.iconst 1, 1) := by decide +kernel
theorem dX3_addCall_30 : decode cX3_addCall 30 = .ok (.iadd, 1) := by decide +kernel
theorem dX3_addCall_31 : decode cX3_addCall 31 = .ok (.putfield 28, 3) := by decide +kernel
theorem dX3_addCall_34 : decode cX3_addCall 34 = .ok (.return_, 1) := by decide +kernel
theorem dX3_setTo_0 : decode cX3_setTo 0 = .ok (.aload_n 0, 1) := by decide +kernel
theorem dX3_setTo_1 : decode cX3_setTo 1 = .ok (.getfield 13, 3) := by decide +kernel
theorem dX3_setTo_4 : decode cX3_setTo 4 = .ok (.iload_n 1, 1) := by decide +kernel
theorem dX3_setTo_5 : decode cX3_setTo 5 = .ok (.iload_n 2, 1) := by decide +kernel
theorem dX3_setTo_6 : decode cX3_setTo 6 = .ok (.iastore, 1) := by decide +kernel
theorem dX3_setTo_7 : decode cX3_setTo 7 = .ok (.aload_n 0, 1) := by decide +kernel
theorem dX3_setTo_8 : decode cX3_setTo 8 = .ok (.getfield 17, 3) := by decide +kernel
theorem dX3_setTo_11 : decode cX3_setTo 11 = .ok (.iload_n 1, 1) := by decide +kernel
theorem dX3_setTo_12 : decode cX3_setTo 12 = .ok (.iload_n 3, 1) := by decide +kernel
theorem dX3_setTo_13 : decode cX3_setTo 13 = .ok (.iastore, 1) := by decide +kernel
theorem dX3_setTo_14 : decode cX3_setTo 14 = .ok (.aload_n 0, 1) := by decide +kernel
theorem dX3_setTo_15 : decode cX3_setTo 15 = .ok (.getfield 22, 3) := by decide +kernel
theorem dX3_setTo_18 : decode cX3_setTo 18 = .ok (.iload_n 1, 1) := by decide +kernel
theorem dX3_setTo_19 : decode cX3_setTo 19 = .ok (.aaload, 1) := by decide +kernel
theorem dX3_setTo_20 : decode cX3_setTo 20 = .ok (.iconst 0, 1) := by decide +kernel
theorem dX3_setTo_21 : decode cX3_setTo 21 = .ok (.iload 4, 2) := by decide +kernel
theorem dX3_setTo_23 : decode cX3_setTo 23 = .ok (.iastore, 1) := by decide +kernel
theorem dX3_setTo_24 : decode cX3_setTo 24 = .ok (.aload_n 0, 1) := by decide +kernel
theorem dX3_setTo_25 : decode cX3_setTo 25 = .ok (.getfield 22, 3) := by decide +kernel
theorem dX3_setTo_28 : decode cX3_setTo 28 = .ok (.iload_n 1, 1) := by decide +kernel
theorem dX3_setTo_29 : decode cX3_setTo 29 = .ok (.aaload, 1) := by decide +kernel
theorem dX3_setTo_30 : decode cX3_setTo 30 = .ok (.iconst 1, 1) := by decide +kernel
theorem dX3_setTo_31 : decode cX3_setTo 31 = .ok (.iload 5, 2) := by decide +kernel
theorem dX3_setTo_33 : decode cX3_setTo 33 = .ok (.iastore, 1) := by decide +kernel
theorem dX3_setTo_34 : decode cX3_setTo 34 = .ok (.aload_n 0, 1) := by decide +kernel
theorem dX3_setTo_35 : decode cX3_setTo 35 = .ok (.getfield 22, 3) := by decide +kernel
theorem dX3_setTo_38 : decode cX3_setTo 38 = .ok (.iload_n 1, 1) := by decide +kernel
theorem dX3_setTo_39 : decode cX3_setTo 39 = .ok (.aaload, 1) := by decide +kernel
theorem dX3_setTo_40 : decode cX3_setTo 40 = .ok (.iconst 2, 1) := by decide +kernel
theorem dX3_setTo_41 : decode cX3_setTo 41 = .ok (.iload 6, 2) := by decide +kernel
theorem dX3_setTo_43 : decode cX3_setTo 43 = .ok (.iastore, 1) := by decide +kernel
theorem dX3_setTo_44 : decode cX3_setTo 44 = .ok (.return_, 1) := by decide +kernel
theorem dX3_shorten_0 : decode cX3_shorten 0 = .ok (.aload_n 0, 1) := by decide +kernel
theorem dX3_shorten_1 : decode cX3_shorten 1 = .ok (.getfield 28, 3) := by decide +kernel
theorem dX3_shorten_4 : decode cX3_shorten 4 = .ok (.iconst 1, 1) := by decide +kernel
theorem dX3_shorten_5 : decode cX3_shorten 5 = .ok (.isub, 1) := by decide +kernel
theorem dX3_shorten_6 : decode cX3_shorten 6 = .ok (.istore_n 2, 1) := by decide +kernel
theorem dX3_shorten_7 : decode cX3_shorten 7 = .ok (.iload_n 2, 1) := by decide +kernel
theorem dX3_shorten_8 : decode cX3_shorten 8 = .ok (.iload_n 1, 1) := by decide +kernel
theorem dX3_shorten_9 : decode cX3_shorten 9 = .ok (.if_icmp .lt 42, 3) := by decide +kernel
theorem dX3_shorten_12 : decode cX3_shorten 12 = .ok (.iload_n 2, 1) := by decide +kernel
theorem dX3_shorten_13 : decode cX3_shorten 13 = .ok (.ifCond .lt 38, 3) := by decide +kernel
theorem dX3_shorten_16 : decode cX3_shorten 16 = .ok (.aload_n 0, 1) := by decide +kernel
theorem dX3_shorten_17 : decode cX3_shorten 17 = .ok (.iload_n 2, 1) := by decide +kernel
theorem dX3_shorten_18 : decode cX3_shorten 18 = .ok (.putfield 28, 3) := by decide +kernel
theorem dX3_shorten_21 : decode cX3_shorten 21 = .ok (.aload_n 0, 1) := by decide +kernel
theorem dX3_shorten_22 : decode cX3_shorten 22 = .ok (.dup, 1) := by decide +kernel
theorem dX3_shorten_23 : decode cX3_shorten 23 = .ok (.getfield 32, 3) := by decide +kernel
theorem dX3_shorten_26 : decode cX3_shorten 26 = .ok (.aload_n 0, 1) := by decide +kernel
theorem dX3_shorten_27 : decode cX3_shorten 27 = .ok (.getfield 17, 3) := by decide +kernel
theorem dX3_shorten_30 : decode cX3_shorten 30 = .ok (.iload_n 2, 1) := by decide +kernel
theorem dX3_shorten_31 : decode cX3_shorten 31 = .ok (.iaload, 1) := by decide +kernel
theorem dX3_shorten_32 : decode cX3_shorten 32 = .ok (.iconst (-1), 1) := by decide +kernel
theorem dX3_shorten_33 : decode cX3_shorten 33 = .ok (.if_icmp .ne 7, 3) := by decide +kernel
theorem dX3_shorten_36 : decode cX3_shorten 36 = .ok (.iconst 1, 1) := by decide +kernel
theorem dX3_shorten_37 : decode cX3_shorten 37 = .ok (.goto 4, 3) := by decide +kernel
theorem dX3_shorten_40 : decode cX3_shorten 40 = .ok (.iconst 0, 1) := by decide +kernel
theorem dX3_shorten_41 : decode cX3_shorten 41 = .ok (.isub, 1) := by decide +kernel
theorem dX3_shorten_42 : decode cX3_shorten 42 = .ok (.putfield 32, 3) := by decide +kernel
theorem dX3_shorten_45 : decode cX3_shorten 45 = .ok (.iinc 2 (-1), 3) := by decide +kernel
theorem dX3_shorten_48 : decode cX3_shorten 48 = .ok (.goto (-41), 3) := by decide +kernel
theorem dX3_shorten_51 : decode cX3_shorten 51 = .ok (.return_, 1) := by decide +kernel
theorem dX4_wipe_0 : decode cX4_wipe 0 = .ok (.aload_n 0, 1) := by decide +kernel
theorem dX4_wipe_1 : decode cX4_wipe 1 = .ok (.iconst 0, 1) := by decide +kernel
theorem dX4_wipe_2 : decode cX4_wipe 2 = .ok (.putfield 52, 3) := by decide +kernel
theorem dX4_wipe_5 : decode cX4_wipe 5 = .ok (.aload_n 0, 1) := by decide +kernel
theorem dX4_wipe_6 : decode cX4_wipe 6 = .ok (.iconst (-1), 1) := by decide +kernel
theorem dX4_wipe_7 : decode cX4_wipe 7 = .ok (.putfield 39, 3) := by decide +kernel
theorem dX4_wipe_10 : decode cX4_wipe 10 = .ok (.aload_n 0, 1) := by decide +kernel
theorem dX4_wipe_11 : decode cX4_wipe 11 = .ok (.iconst (-1), 1) := by decide +kernel
theorem dX4_wipe_12 : decode cX4_wipe 12 = .ok (.putfield 43, 3) := by decide +kernel
theorem dX4_wipe_15 : decode cX4_wipe 15 = .ok (.aload_n 0, 1) := by decide +kernel
theorem dX4_wipe_16 : decode cX4_wipe 16 = .ok (.iconst (-1), 1) := by decide +kernel
theorem dX4_wipe_17 : decode cX4_wipe 17 = .ok (.putfield 46, 3) := by decide +kernel
theorem dX4_wipe_20 : decode cX4_wipe 20 = .ok (.aload_n 0, 1) := by decide +kernel
theorem dX4_wipe_21 : decode cX4_wipe 21 = .ok (.iconst (-1), 1) := by decide +kernel
theorem dX4_wipe_22 : decode cX4_wipe 22 = .ok (.putfield 49, 3) := by decide +kernel
theorem dX4_wipe_25 : decode cX4_wipe 25 = .ok (.aload_n 0, 1) := by decide +kernel
theorem dX4_wipe_26 : decode cX4_wipe 26 = .ok (.lconst 0, 1) := by decide +kernel
theorem dX4_wipe_27 : decode cX4_wipe 27 = .ok (.putfield 55, 3) := by decide +kernel
theorem dX4_wipe_30 : decode cX4_wipe 30 = .ok (.aload_n 0, 1) := by decide +kernel
theorem dX4_wipe_31 : decode cX4_wipe 31 = .ok (.iconst 0, 1) := by decide +kernel
theorem dX4_wipe_32 : decode cX4_wipe 32 = .ok (.putfield 59, 3) := by decide +kernel
theorem dX4_wipe_35 : decode cX4_wipe 35 = .ok (.aload_n 0, 1) := by decide +kernel
theorem dX4_wipe_36 : decode cX4_wipe 36 = .ok (.iconst 0, 1) := by decide +kernel
theorem dX4_wipe_37 : decode cX4_wipe 37 = .ok (.putfield 62, 3) := by decide +kernel
theorem dX4_wipe_40 : decode cX4_wipe 40 = .ok (.iconst 0, 1) := by decide +kernel
theorem dX4_wipe_41 : decode cX4_wipe 41 = .ok (.istore_n 1, 1) := by decide +kernel
theorem dX4_wipe_42 : decode cX4_wipe 42 = .ok (.iload_n 1, 1) := by decide +kernel
theorem dX4_wipe_43 : decode cX4_wipe 43 = .ok (.bipush 10, 2) := by decide +kernel
theorem dX4_wipe_45 : decode cX4_wipe 45 = .ok (.if_icmp .ge 14, 3) := by decide +kernel
theorem dX4_wipe_48 : decode cX4_wipe 48 = .ok (.aload_n 0, 1) := by decide +kernel
theorem dX4_wipe_49 : decode cX4_wipe 49 = .ok (.iload_n 1, 1) := by decide +kernel
theorem dX4_wipe_50 : decode cX4_wipe 50 = .ok (.invokevirtual 65, 3) := by decide +kernel
theorem dX4_wipe_53 : decode cX4_wipe 53 = .ok (.iinc 1 1, 3) := by decide +kernel
theorem dX4_wipe_56 : decode cX4_wipe 56 = .ok (.goto (-14), 3) := by decide +kernel
theorem dX4_wipe_59 : decode cX4_wipe 59 = .ok (.return_, 1) := by decide +kernel
theorem dX4_forgetCall_0 : decode cX4_forgetCall 0 = .ok (.iload_n 1, 1) := by decide +kernel
theorem dX4_forgetCall_1 : decode cX4_forgetCall 1 = .ok (.ifCond .lt 23, 3) := by decide +kernel
theorem dX4_forgetCall_4 : decode cX4_forgetCall 4 = .ok (.iload_n 1, 1) := by decide +kernel
theorem dX4_forgetCall_5 : decode cX4_forgetCall 5 = .ok (.bipush 10, 2) := by decide +kernel
theorem dX4_forgetCall_7 : decode cX4_forgetCall 7 = .ok (.if_icmp .ge 17, 3) := by decide +kernel
theorem dX4_forgetCall_10 : decode cX4_forgetCall 10 = .ok (.aload_n 0, 1) := by decide +kernel
theorem dX4_forgetCall_11 : decode cX4_forgetCall 11 = .ok (.getfield 33, 3) := by decide +kernel
theorem dX4_forgetCall_14 : decode cX4_forgetCall 14 = .ok (.iload_n 1, 1) := by decide +kernel
theorem dX4_forgetCall_15 : decode cX4_forgetCall 15 = .ok (.iconst 0, 1) := by decide +kernel
theorem dX4_forgetCall_16 : decode cX4_forgetCall 16 = .ok (.iastore, 1) := by decide +kernel
theorem dX4_forgetCall_17 : decode cX4_forgetCall 17 = .ok (.aload_n 0, 1) := by decide +kernel
theorem dX4_forgetCall_18 : decode cX4_forgetCall 18 = .ok (.getfield 36, 3) := by decide +kernel
theorem dX4_forgetCall_21 : decode cX4_forgetCall 21 = .ok (.iload_n 1, 1) := by decide +kernel
theorem dX4_forgetCall_22 : decode cX4_forgetCall 22 = .ok (.iconst 0, 1) := by decide +kernel
theorem dX4_forgetCall_23 : decode cX4_forgetCall 23 = .ok (.iastore, 1) := by decide +kernel
theorem dX4_forgetCall_24 : decode cX4_forgetCall 24 = .ok (.return_, 1) := by decide +kernel
theorem dX4_breakBy_0 : decode cX4_breakBy 0 = .ok (.aload_n 0, 1) := by decide +kernel
theorem dX4_breakBy_1 : decode cX4_breakBy 1 = .ok (.iload_n 1, 1) := by decide +kernel
theorem dX4_breakBy_2 : decode cX4_breakBy 2 = .ok (.putfield 52, 3) := by decide +kernel
theorem dX4_breakBy_5 : decode cX4_breakBy 5 = .ok (.aload_n 0, 1) := by decide +kernel
theorem dX4_breakBy_6 : decode cX4_breakBy 6 = .ok (.iload_n 2, 1) := by decide +kernel
theorem dX4_breakBy_7 : decode cX4_breakBy 7 = .ok (.putfield 39, 3) := by decide +kernel
theorem dX4_breakBy_10 : decode cX4_breakBy 10 = .ok (.aload_n 0, 1) := by decide +kernel
theorem dX4_breakBy_11 : decode cX4_breakBy 11 = .ok (.iload_n 3, 1) := by decide +kernel
theorem dX4_breakBy_12 : decode cX4_breakBy 12 = .ok (.putfield 43, 3) := by decide +kernel
theorem dX4_breakBy_15 : decode cX4_breakBy 15 = .ok (.return_, 1) := by decide +kernel
theorem dX4_breakAt_0 : decode cX4_breakAt 0 = .ok (.aload_n 0, 1) := by decide +kernel
theorem dX4_breakAt_1 : decode cX4_breakAt 1 = .ok (.iload_n 1, 1) := by decide +kernel
theorem dX4_breakAt_2 : decode cX4_breakAt 2 = .ok (.putfield 52, 3) := by decide +kernel
theorem dX4_breakAt_5 : decode cX4_breakAt 5 = .ok (.aload_n 0, 1) := by decide +kernel
theorem dX4_breakAt_6 : decode cX4_breakAt 6 = .ok (.iload_n 2, 1) := by decide +kernel
theorem dX4_breakAt_7 : decode cX4_breakAt 7 = .ok (.putfield 46, 3) := by decide +kernel
theorem dX4_breakAt_10 : decode cX4_breakAt 10 = .ok (.aload_n 0, 1) := by decide +kernel
theorem dX4_breakAt_11 : decode cX4_breakAt 11 = .ok (.iload_n 3, 1) := by decide +kernel
theorem dX4_breakAt_12 : decode cX4_breakAt 12 = .ok (.putfield 49, 3) := by decide +kernel
theorem dX4_breakAt_15 : decode cX4_breakAt 15 = .ok (.return_, 1) := by decide +kernel
theorem dX5_leaveMember_0 : decode cX5_leaveMember 0 = .ok (.aload_n 0, 1) := by decide +kernel
theorem dX5_leaveMember_1 : decode cX5_leaveMember 1 = .ok (.iconst 0, 1) := by decide +kernel
theorem dX5_leaveMember_2 : decode cX5_leaveMember 2 = .ok (.putfield 18, 3) := by decide +kernel
theorem dX5_leaveMember_5 : decode cX5_leaveMember 5 = .ok (.aload_n 0, 1) := by decide +kernel
theorem dX5_leaveMember_6 : decode cX5_leaveMember 6 = .ok (.iconst 0, 1) := by decide +kernel
theorem dX5_leaveMember_7 : decode cX5_leaveMember 7 = .ok (.putfield 22, 3) := by decide +kernel
theorem dX5_leaveMember_10 : decode cX5_leaveMember 10 = .ok (.aload_n 0, 1) := by decide +kernel
theorem dX5_leaveMember_11 : decode cX5_leaveMember 11 = .ok (.iconst 0, 1) := by decide +kernel
theorem dX5_leaveMember_12 : decode cX5_leaveMember 12 = .ok (.putfield 25, 3) := by decide +kernel
theorem dX5_leaveMember_15 : decode cX5_leaveMember 15 = .ok (.aload_n 0, 1) := by decide +kernel
theorem dX5_leaveMember_16 : decode cX5_leaveMember 16 = .ok (.iconst 0, 1) := by decide +kernel
theorem dX5_leaveMember_17 : decode cX5_leaveMember 17 = .ok (.putfield 29, 3) := by decide +kernel
theorem dX5_leaveMember_20 : decode cX5_leaveMember 20 = .ok (.return_, 1) := by decide +kernel
theorem dX5_placeNamed_0 : decode cX5_placeNamed 0 = .ok (.iconst 0, 1) := by decide +kernel
theorem dX5_placeNamed_1 : decode cX5_placeNamed 1 = .ok (.istore_n 3, 1) := by decide +kernel
theorem dX5_placeNamed_2 : decode cX5_placeNamed 2 = .ok (.iload_n 3, 1) := by decide +kernel
theorem dX5_placeNamed_3 : decode cX5_placeNamed 3 = .ok (.aload_n 0, 1) := by decide +kernel
theorem dX5_placeNamed_4 : decode cX5_placeNamed 4 = .ok (.getfield 22, 3) := by decide +kernel
theorem dX5_placeNamed_7 : decode cX5_placeNamed 7 = .ok (.if_icmp .ge 25, 3) := by decide +kernel
theorem dX5_placeNamed_10 : decode cX5_placeNamed 10 = .ok (.aload_n 0, 1) := by decide +kernel
theorem dX5_placeNamed_11 : decode cX5_placeNamed 11 = .ok (.getfield 15, 3) := by decide +kernel
theorem dX5_placeNamed_14 : decode cX5_placeNamed 14 = .ok (.iload_n 3, 1) := by decide +kernel
theorem dX5_placeNamed_15 : decode cX5_placeNamed 15 = .ok (.laload, 1) := by decide +kernel
theorem dX5_placeNamed_16 : decode cX5_placeNamed 16 = .ok (.lload_n 1, 1) := by decide +kernel
theorem dX5_placeNamed_17 : decode cX5_placeNamed 17 = .ok (.lcmp, 1) := by decide +kernel
theorem dX5_placeNamed_18 : decode cX5_placeNamed 18 = .ok (.ifCond .ne 8, 3) := by decide +kernel
theorem dX5_placeNamed_21 : decode cX5_placeNamed 21 = .ok (.bipush 19, 2) := by decide +kernel
theorem dX5_placeNamed_23 : decode cX5_placeNamed 23 = .ok (.iload_n 3, 1) := by decide +kernel
theorem dX5_placeNamed_24 : decode cX5_placeNamed 24 = .ok (.iadd, 1) := by decide +kernel
theorem dX5_placeNamed_25 : decode cX5_placeNamed 25 = .ok (.ireturn, 1) := by decide +kernel
theorem dX5_placeNamed_26 : decode cX5_placeNamed 26 = .ok (.iinc 3 1, 3) := by decide +kernel
theorem dX5_placeNamed_29 : decode cX5_placeNamed 29 = .ok (.goto (-27), 3) := by decide +kernel
theorem dX5_placeNamed_32 : decode cX5_placeNamed 32 = .ok (.iconst 0, 1) := by decide +kernel
theorem dX5_placeNamed_33 : decode cX5_placeNamed 33 = .ok (.istore_n 3, 1) := by decide +kernel
theorem dX5_placeNamed_34 : decode cX5_placeNamed 34 = .ok (.iload_n 3, 1) := by decide +kernel
theorem dX5_placeNamed_35 : decode cX5_placeNamed 35 = .ok (.aload_n 0, 1) := by decide +kernel
theorem dX5_placeNamed_36 : decode cX5_placeNamed 36 = .ok (.getfield 18, 3) := by decide +kernel
theorem dX5_placeNamed_39 : decode cX5_placeNamed 39 = .ok (.if_icmp .ge 25, 3) := by decide +kernel
theorem dX5_placeNamed_42 : decode cX5_placeNamed 42 = .ok (.aload_n 0, 1) := by decide +kernel
theorem dX5_placeNamed_43 : decode cX5_placeNamed 43 = .ok (.getfield 9, 3) := by decide +kernel
theorem dX5_placeNamed_46 : decode cX5_placeNamed 46 = .ok (.iload_n 3, 1) := by decide +kernel
theorem dX5_placeNamed_47 : decode cX5_placeNamed 47 = .ok (.laload, 1) := by decide +kernel
theorem dX5_placeNamed_48 : decode cX5_placeNamed 48 = .ok (.lload_n 1, 1) := by decide +kernel
theorem dX5_placeNamed_49 : decode cX5_placeNamed 49 = .ok (.lcmp, 1) := by decide +kernel
theorem dX5_placeNamed_50 : decode cX5_placeNamed 50 = .ok (.ifCond .ne 8, 3) := by decide +kernel
theorem dX5_placeNamed_53 : decode cX5_placeNamed 53 = .ok (.bipush 16, 2) := by decide +kernel
theorem dX5_placeNamed_55 : decode cX5_placeNamed 55 = .ok (.iload_n 3, 1) := by decide +kernel
theorem dX5_placeNamed_56 : decode cX5_placeNamed 56 = .ok (.iadd, 1) := by decide +kernel
theorem dX5_placeNamed_57 : decode cX5_placeNamed 57 = .ok (.ireturn, 1) := by decide +kernel
theorem dX5_placeNamed_58 : decode cX5_placeNamed 58 = .ok (.iinc 3 1, 3) := by decide +kernel
theorem dX5_placeNamed_61 : decode cX5_placeNamed 61 = .ok (.goto (-27), 3) := by decide +kernel
theorem dX5_placeNamed_64 : decode cX5_placeNamed 64 = .ok (.aload_n 0, 1) := by decide +kernel
theorem dX5_placeNamed_65 : decode cX5_placeNamed 65 = .ok (.getfield 32, 3) := by decide +kernel
theorem dX5_placeNamed_68 : decode cX5_placeNamed 68 = .ok (.lload_n 1, 1) := by decide +kernel
theorem dX5_placeNamed_69 : decode cX5_placeNamed 69 = .ok (.invokevirtual 36, 3) := by decide +kernel
theorem dX5_placeNamed_72 : decode cX5_placeNamed 72 = .ok (.ireturn, 1) := by decide +kernel
theorem dX6_admits_0 : decode cX6_admits 0 = .ok (.iload_n 1, 1) := by decide +kernel
theorem dX6_admits_1 : decode cX6_admits 1 = .ok (.ifCond .lt 16, 3) := by decide +kernel
theorem dX6_admits_4 : decode cX6_admits 4 = .ok (.iload_n 1, 1) := by decide +kernel
theorem dX6_admits_5 : decode cX6_admits 5 = .ok (.aload_n 0, 1) := by decide +kernel
theorem dX6_admits_6 : decode cX6_admits 6 = .ok (.getfield 16, 3) := by decide +kernel
theorem dX6_admits_9 : decode cX6_admits 9 = .ok (.if_icmp .ge 8, 3) := by decide +kernel
theorem dX6_admits_12 : decode cX6_admits 12 = .ok (.iload_n 1, 1) := by decide +kernel
theorem dX6_admits_13 : decode cX6_admits 13 = .ok (.iconst 3, 1) := by decide +kernel
theorem dX6_admits_14 : decode cX6_admits 14 = .ok (.if_icmp .lt 13, 3) := by decide +kernel
theorem dX6_admits_17 : decode cX6_admits 17 = .ok (.iload_n 2, 1) := by decide +kernel
theorem dX6_admits_18 : decode cX6_admits 18 = .ok (.ifCond .ne 7, 3) := by decide +kernel
theorem dX6_admits_21 : decode cX6_admits 21 = .ok (.iconst 1, 1) := by decide +kernel
theorem dX6_admits_22 : decode cX6_admits 22 = .ok (.goto 4, 3) := by decide +kernel
theorem dX6_admits_25 : decode cX6_admits 25 = .ok (.iconst 0, 1) := by decide +kernel
theorem dX6_admits_26 : decode cX6_admits 26 = .ok (.ireturn, 1) := by decide +kernel
theorem dX6_admits_27 : decode cX6_admits 27 = .ok (.iload_n 2, 1) := by decide +kernel
theorem dX6_admits_28 : decode cX6_admits 28 = .ok (.aload_n 0, 1) := by decide +kernel
theorem dX6_admits_29 : decode cX6_admits 29 = .ok (.getfield 9, 3) := by decide +kernel
theorem dX6_admits_32 : decode cX6_admits 32 = .ok (.iload_n 1, 1) := by decide +kernel
theorem dX6_admits_33 : decode cX6_admits 33 = .ok (.iaload, 1) := by decide +kernel
theorem dX6_admits_34 : decode cX6_admits 34 = .ok (.if_icmp .lt 17, 3) := by decide +kernel
theorem dX6_admits_37 : decode cX6_admits 37 = .ok (.iload_n 2, 1) := by decide +kernel
theorem dX6_admits_38 : decode cX6_admits 38 = .ok (.aload_n 0, 1) := by decide +kernel
theorem dX6_admits_39 : decode cX6_admits 39 = .ok (.getfield 13, 3) := by decide +kernel
theorem dX6_admits_42 : decode cX6_admits 42 = .ok (.iload_n 1, 1) := by decide +kernel
theorem dX6_admits_43 : decode cX6_admits 43 = .ok (.iaload, 1) := by decide +kernel
theorem dX6_admits_44 : decode cX6_admits 44 = .ok (.if_icmp .gt 7, 3) := by decide +kernel
theorem dX6_admits_47 : decode cX6_admits 47 = .ok (.iconst 1, 1) := by decide +kernel
theorem dX6_admits_48 : decode cX6_admits 48 = .ok (.goto 4, 3) := by decide +kernel
theorem dX6_admits_51 : decode cX6_admits 51 = .ok (.iconst 0, 1) := by decide +kernel
theorem dX6_admits_52 : decode cX6_admits 52 = .ok (.ireturn, 1) := by decide +kernel
theorem dX6_firstOf_0 : decode cX6_firstOf 0 = .ok (.iload_n 1, 1) := by decide +kernel
theorem dX6_firstOf_1 : decode cX6_firstOf 1 = .ok (.ifCond .lt 8, 3) := by decide +kernel
theorem dX6_firstOf_4 : decode cX6_firstOf 4 = .ok (.iload_n 1, 1) := by decide +kernel
theorem dX6_firstOf_5 : decode cX6_firstOf 5 = .ok (.iconst 3, 1) := by decide +kernel
theorem dX6_firstOf_6 : decode cX6_firstOf 6 = .ok (.if_icmp .lt 5, 3) := by decide +kernel
theorem dX6_firstOf_9 : decode cX6_firstOf 9 = .ok (.iconst 0, 1) := by decide +kernel
theorem dX6_firstOf_10 : decode cX6_firstOf 10 = .ok (.ireturn, 1) := by decide +kernel
theorem dX6_firstOf_11 : decode cX6_firstOf 11 = .ok (.aload_n 0, 1) := by decide +kernel
theorem dX6_firstOf_12 : decode cX6_firstOf 12 = .ok (.getfield 9, 3) := by decide +kernel
theorem dX6_firstOf_15 : decode cX6_firstOf 15 = .ok (.iload_n 1, 1) := by decide +kernel
theorem dX6_firstOf_16 : decode cX6_firstOf 16 = .ok (.iaload, 1) := by decide +kernel
theorem dX6_firstOf_17 : decode cX6_firstOf 17 = .ok (.ifCond .gt 16, 3) := by decide +kernel
theorem dX6_firstOf_20 : decode cX6_firstOf 20 = .ok (.aload_n 0, 1) := by decide +kernel
theorem dX6_firstOf_21 : decode cX6_firstOf 21 = .ok (.getfield 13, 3) := by decide +kernel
theorem dX6_firstOf_24 : decode cX6_firstOf 24 = .ok (.iload_n 1, 1) := by decide +kernel
theorem dX6_firstOf_25 : decode cX6_firstOf 25 = .ok (.iaload, 1) := by decide +kernel
theorem dX6_firstOf_26 : decode cX6_firstOf 26 = .ok (.ifCond .lt 7, 3) := by decide +kernel
theorem dX6_firstOf_29 : decode cX6_firstOf 29 = .ok (.iconst 0, 1) := by decide +kernel
theorem dX6_firstOf_30 : decode cX6_firstOf 30 = .ok (.goto 9, 3) := by decide +kernel
theorem dX6_firstOf_33 : decode cX6_firstOf 33 = .ok (.aload_n 0, 1) := by decide +kernel
theorem dX6_firstOf_34 : decode cX6_firstOf 34 = .ok (.getfield 9, 3) := by decide +kernel
theorem dX6_firstOf_37 : decode cX6_firstOf 37 = .ok (.iload_n 1, 1) := by decide +kernel
theorem dX6_firstOf_38 : decode cX6_firstOf 38 = .ok (.iaload, 1) := by decide +kernel
theorem dX6_firstOf_39 : decode cX6_firstOf 39 = .ok (.ireturn, 1) := by decide +kernel
theorem dX6_numberBehind_0 : decode cX6_numberBehind 0 = .ok (.iload_n 1, 1) := by decide +kernel
theorem dX6_numberBehind_1 : decode cX6_numberBehind 1 = .ok (.ifCond .lt 8, 3) := by decide +kernel
theorem dX6_numberBehind_4 : decode cX6_numberBehind 4 = .ok (.iload_n 1, 1) := by decide +kernel
theorem dX6_numberBehind_5 : decode cX6_numberBehind 5 = .ok (.iconst 3, 1) := by decide +kernel
theorem dX6_numberBehind_6 : decode cX6_numberBehind 6 = .ok (.if_icmp .lt 5, 3) := by decide +kernel
theorem dX6_numberBehind_9 : decode cX6_numberBehind 9 = .ok (.iload_n 2, 1) := by decide +kernel
theorem dX6_numberBehind_10 : decode cX6_numberBehind 10 = .ok (.ireturn, 1) := by decide +kernel
theorem dX6_numberBehind_11 : decode cX6_numberBehind 11 = .ok (.iload_n 2, 1) := by decide +kernel
theorem dX6_numberBehind_12 : decode cX6_numberBehind 12 = .ok (.ifCond .ge 24, 3) := by decide +kernel
theorem dX6_numberBehind_15 : decode cX6_numberBehind 15 = .ok (.iload_n 2, 1) := by decide +kernel
theorem dX6_numberBehind_16 : decode cX6_numberBehind 16 = .ok (.aload_n 0, 1) := by decide +kernel
theorem dX6_numberBehind_17 : decode cX6_numberBehind 17 = .ok (.getfield 9, 3) := by decide +kernel
theorem dX6_numberBehind_20 : decode cX6_numberBehind 20 = .ok (.iload_n 1, 1) := by decide +kernel
theorem dX6_numberBehind_21 : decode cX6_numberBehind 21 = .ok (.iaload, 1) := by decide +kernel
theorem dX6_numberBehind_22 : decode cX6_numberBehind 22 = .ok (.if_icmp .ne 14, 3) := by decide +kernel
theorem dX6_numberBehind_25 : decode cX6_numberBehind 25 = .ok (.aload_n 0, 1) := by decide +kernel
theorem dX6_numberBehind_26 : decode cX6_numberBehind 26 = .ok (.getfield 13, 3) := by decide +kernel
theorem dX6_numberBehind_29 : decode cX6_numberBehind 29 = .ok (.iload_n 1, 1) := by decide +kernel
theorem dX6_numberBehind_30 : decode cX6_numberBehind 30 = .ok (.iaload, 1) := by decide +kernel
theorem dX6_numberBehind_31 : decode cX6_numberBehind 31 = .ok (.ifCond .le 5, 3) := by decide +kernel
theorem dX6_numberBehind_34 : decode cX6_numberBehind 34 = .ok (.iconst 0, 1) := by decide +kernel
theorem dX6_numberBehind_35 : decode cX6_numberBehind 35 = .ok (.ireturn, 1) := by decide +kernel
theorem dX6_numberBehind_36 : decode cX6_numberBehind 36 = .ok (.aload_n 0, 1) := by decide +kernel
theorem dX6_numberBehind_37 : decode cX6_numberBehind 37 = .ok (.getfield 13, 3) := by decide +kernel
theorem dX6_numberBehind_40 : decode cX6_numberBehind 40 = .ok (.iload_n 1, 1) := by decide +kernel
theorem dX6_numberBehind_41 : decode cX6_numberBehind 41 = .ok (.iaload, 1) := by decide +kernel
theorem dX6_numberBehind_42 : decode cX6_numberBehind 42 = .ok (.ireturn, 1) := by decide +kernel
theorem dX7_wipe_0 : decode cX7_wipe 0 = .ok (.aload_n 0, 1) := by decide +kernel
theorem dX7_wipe_1 : decode cX7_wipe 1 = .ok (.iconst 0, 1) := by decide +kernel
theorem dX7_wipe_2 : decode cX7_wipe 2 = .ok (.putfield 58, 3) := by decide +kernel
theorem dX7_wipe_5 : decode cX7_wipe 5 = .ok (.aload_n 0, 1) := by decide +kernel
theorem dX7_wipe_6 : decode cX7_wipe 6 = .ok (.iconst 0, 1) := by decide +kernel
theorem dX7_wipe_7 : decode cX7_wipe 7 = .ok (.putfield 62, 3) := by decide +kernel
theorem dX7_wipe_10 : decode cX7_wipe 10 = .ok (.aload_n 0, 1) := by decide +kernel
theorem dX7_wipe_11 : decode cX7_wipe 11 = .ok (.iconst 0, 1) := by decide +kernel
theorem dX7_wipe_12 : decode cX7_wipe 12 = .ok (.putfield 65, 3) := by decide +kernel
theorem dX7_wipe_15 : decode cX7_wipe 15 = .ok (.aload_n 0, 1) := by decide +kernel
theorem dX7_wipe_16 : decode cX7_wipe 16 = .ok (.iconst 0, 1) := by decide +kernel
theorem dX7_wipe_17 : decode cX7_wipe 17 = .ok (.putfield 68, 3) := by decide +kernel
theorem dX7_wipe_20 : decode cX7_wipe 20 = .ok (.aload_n 0, 1) := by decide +kernel
theorem dX7_wipe_21 : decode cX7_wipe 21 = .ok (.iconst 0, 1) := by decide +kernel
theorem dX7_wipe_22 : decode cX7_wipe 22 = .ok (.putfield 71, 3) := by decide +kernel
theorem dX7_wipe_25 : decode cX7_wipe 25 = .ok (.aload_n 0, 1) := by decide +kernel
theorem dX7_wipe_26 : decode cX7_wipe 26 = .ok (.iconst 0, 1) := by decide +kernel
theorem dX7_wipe_27 : decode cX7_wipe 27 = .ok (.putfield 74, 3) := by decide +kernel
theorem dX7_wipe_30 : decode cX7_wipe 30 = .ok (.aload_n 0, 1) := by decide +kernel
theorem dX7_wipe_31 : decode cX7_wipe 31 = .ok (.iconst 0, 1) := by decide +kernel
theorem dX7_wipe_32 : decode cX7_wipe 32 = .ok (.putfield 77, 3) := by decide +kernel
theorem dX7_wipe_35 : decode cX7_wipe 35 = .ok (.return_, 1) := by decide +kernel
theorem dX7_hasClass_0 : decode cX7_hasClass 0 = .ok (.iload_n 1, 1) := by decide +kernel
theorem dX7_hasClass_1 : decode cX7_hasClass 1 = .ok (.ifCond .lt 15, 3) := by decide +kernel
theorem dX7_hasClass_4 : decode cX7_hasClass 4 = .ok (.iload_n 1, 1) := by decide +kernel
theorem dX7_hasClass_5 : decode cX7_hasClass 5 = .ok (.aload_n 0, 1) := by decide +kernel
theorem dX7_hasClass_6 : decode cX7_hasClass 6 = .ok (.getfield 58, 3) := by decide +kernel
theorem dX7_hasClass_9 : decode cX7_hasClass 9 = .ok (.if_icmp .ge 7, 3) := by decide +kernel
theorem dX7_hasClass_12 : decode cX7_hasClass 12 = .ok (.iconst 1, 1) := by decide +kernel
theorem dX7_hasClass_13 : decode cX7_hasClass 13 = .ok (.goto 4, 3) := by decide +kernel
theorem dX7_hasClass_16 : decode cX7_hasClass 16 = .ok (.iconst 0, 1) := by decide +kernel
theorem dX7_hasClass_17 : decode cX7_hasClass 17 = .ok (.ireturn, 1) := by decide +kernel
theorem dX7_hasMember_0 : decode cX7_hasMember 0 = .ok (.aload_n 0, 1) := by decide +kernel
theorem dX7_hasMember_1 : decode cX7_hasMember 1 = .ok (.iload_n 1, 1) := by decide +kernel
theorem dX7_hasMember_2 : decode cX7_hasMember 2 = .ok (.invokevirtual 80, 3) := by decide +kernel
theorem dX7_hasMember_5 : decode cX7_hasMember 5 = .ok (.ifCond .eq 24, 3) := by decide +kernel
theorem dX7_hasMember_8 : decode cX7_hasMember 8 = .ok (.iload_n 2, 1) := by decide +kernel
theorem dX7_hasMember_9 : decode cX7_hasMember 9 = .ok (.ifCond .lt 20, 3) := by decide +kernel
theorem dX7_hasMember_12 : decode cX7_hasMember 12 = .ok (.iload_n 2, 1) := by decide +kernel
theorem dX7_hasMember_13 : decode cX7_hasMember 13 = .ok (.aload_n 0, 1) := by decide +kernel
theorem dX7_hasMember_14 : decode cX7_hasMember 14 = .ok (.getfield 13, 3) := by decide +kernel
theorem dX7_hasMember_17 : decode cX7_hasMember 17 = .ok (.iload_n 1, 1) := by decide +kernel
theorem dX7_hasMember_18 : decode cX7_hasMember 18 = .ok (.aaload, 1) := by decide +kernel
theorem dX7_hasMember_19 : decode cX7_hasMember 19 = .ok (.getfield 84, 3) := by decide +kernel
theorem dX7_hasMember_22 : decode cX7_hasMember 22 = .ok (.if_icmp .ge 7, 3) := by decide +kernel
theorem dX7_hasMember_25 : decode cX7_hasMember 25 = .ok (.iconst 1, 1) := by decide +kernel
theorem dX7_hasMember_26 : decode cX7_hasMember 26 = .ok (.goto 4, 3) := by decide +kernel
theorem dX7_hasMember_29 : decode cX7_hasMember 29 = .ok (.iconst 0, 1) := by decide +kernel
theorem dX7_hasMember_30 : decode cX7_hasMember 30 = .ok (.ireturn, 1) := by decide +kernel
theorem dX7_cellsOf_0 : decode cX7_cellsOf 0 = .ok (.iload_n 1, 1) := by decide +kernel
theorem dX7_cellsOf_1 : decode cX7_cellsOf 1 = .ok (.ifCond .lt 23, 3) := by decide +kernel
theorem dX7_cellsOf_4 : decode cX7_cellsOf 4 = .ok (.iload_n 1, 1) := by decide +kernel
theorem dX7_cellsOf_5 : decode cX7_cellsOf 5 = .ok (.aload_n 0, 1) := by decide +kernel
theorem dX7_cellsOf_6 : decode cX7_cellsOf 6 = .ok (.getfield 58, 3) := by decide +kernel
theorem dX7_cellsOf_9 : decode cX7_cellsOf 9 = .ok (.if_icmp .ge 15, 3) := by decide +kernel
theorem dX7_cellsOf_12 : decode cX7_cellsOf 12 = .ok (.aload_n 0, 1) := by decide +kernel
theorem dX7_cellsOf_13 : decode cX7_cellsOf 13 = .ok (.getfield 13, 3) := by decide +kernel
theorem dX7_cellsOf_16 : decode cX7_cellsOf 16 = .ok (.iload_n 1, 1) := by decide +kernel
theorem dX7_cellsOf_17 : decode cX7_cellsOf 17 = .ok (.aaload, 1) := by decide +kernel
theorem dX7_cellsOf_18 : decode cX7_cellsOf 18 = .ok (.getfield 87, 3) := by decide +kernel
theorem dX7_cellsOf_21 : decode cX7_cellsOf 21 = .ok (.goto 4, 3) := by decide +kernel
theorem dX7_cellsOf_24 : decode cX7_cellsOf 24 = .ok (.iconst 0, 1) := by decide +kernel
theorem dX7_cellsOf_25 : decode cX7_cellsOf 25 = .ok (.ireturn, 1) := by decide +kernel
theorem dX7_classNamed_0 : decode cX7_classNamed 0 = .ok (.iconst 0, 1) := by decide +kernel
theorem dX7_classNamed_1 : decode cX7_classNamed 1 = .ok (.istore_n 3, 1) := by decide +kernel
theorem dX7_classNamed_2 : decode cX7_classNamed 2 = .ok (.iload_n 3, 1) := by decide +kernel
theorem dX7_classNamed_3 : decode cX7_classNamed 3 = .ok (.aload_n 0, 1) := by decide +kernel
theorem dX7_classNamed_4 : decode cX7_classNamed 4 = .ok (.getfield 58, 3) := by decide +kernel
theorem dX7_classNamed_7 : decode cX7_classNamed 7 = .ok (.if_icmp .ge 25, 3) := by decide +kernel
theorem dX7_classNamed_10 : decode cX7_classNamed 10 = .ok (.aload_n 0, 1) := by decide +kernel
theorem dX7_classNamed_11 : decode cX7_classNamed 11 = .ok (.getfield 13, 3) := by decide +kernel
theorem dX7_classNamed_14 : decode cX7_classNamed 14 = .ok (.iload_n 3, 1) := by decide +kernel
theorem dX7_classNamed_15 : decode cX7_classNamed 15 = .ok (.aaload, 1) := by decide +kernel
theorem dX7_classNamed_16 : decode cX7_classNamed 16 = .ok (.getfield 90, 3) := by decide +kernel
theorem dX7_classNamed_19 : decode cX7_classNamed 19 = .ok (.lload_n 1, 1) := by decide +kernel
theorem dX7_classNamed_20 : decode cX7_classNamed 20 = .ok (.lcmp, 1) := by decide +kernel
theorem dX7_classNamed_21 : decode cX7_classNamed 21 = .ok (.ifCond .ne 5, 3) := by decide +kernel
theorem dX7_classNamed_24 : decode cX7_classNamed 24 = .ok (.iload_n 3, 1) := by decide +kernel
theorem dX7_classNamed_25 : decode cX7_classNamed 25 = .ok (.ireturn, 1) := by decide +kernel
theorem dX7_classNamed_26 : decode cX7_classNamed 26 = .ok (.iinc 3 1, 3) := by decide +kernel
theorem dX7_classNamed_29 : decode cX7_classNamed 29 = .ok (.goto (-27), 3) := by decide +kernel
theorem dX7_classNamed_32 : decode cX7_classNamed 32 = .ok (.iconst (-1), 1) := by decide +kernel
theorem dX7_classNamed_33 : decode cX7_classNamed 33 = .ok (.ireturn, 1) := by decide +kernel
theorem dX7_emit_0 : decode cX7_emit 0 = .ok (.aload_n 0, 1) := by decide +kernel
theorem dX7_emit_1 : decode cX7_emit 1 = .ok (.getfield 65, 3) := by decide +kernel
theorem dX7_emit_4 : decode cX7_emit 4 = .ok (.sipush 2000, 3) := by decide +kernel
theorem dX7_emit_7 : decode cX7_emit 7 = .ok (.if_icmp .ge 33, 3) := by decide +kernel
theorem dX7_emit_10 : decode cX7_emit 10 = .ok (.aload_n 0, 1) := by decide +kernel
theorem dX7_emit_11 : decode cX7_emit 11 = .ok (.getfield 25, 3) := by decide +kernel
theorem dX7_emit_14 : decode cX7_emit 14 = .ok (.aload_n 0, 1) := by decide +kernel
theorem dX7_emit_15 : decode cX7_emit 15 = .ok (.getfield 65, 3) := by decide +kernel
theorem dX7_emit_18 : decode cX7_emit 18 = .ok (.iload_n 1, 1) := by decide +kernel
theorem dX7_emit_19 : decode cX7_emit 19 = .ok (.iastore, 1) := by decide +kernel
theorem dX7_emit_20 : decode cX7_emit 20 = .ok (.aload_n 0, 1) := by decide +kernel
theorem dX7_emit_21 : decode cX7_emit 21 = .ok (.getfield 29, 3) := by decide +kernel
theorem dX7_emit_24 : decode cX7_emit 24 = .ok (.aload_n 0, 1) := by decide +kernel
theorem dX7_emit_25 : decode cX7_emit 25 = .ok (.getfield 65, 3) := by decide +kernel
theorem dX7_emit_28 : decode cX7_emit 28 = .ok (.iload_n 2, 1) := by decide +kernel
theorem dX7_emit_29 : decode cX7_emit 29 = .ok (.iastore, 1) := by decide +kernel
theorem dX7_emit_30 : decode cX7_emit 30 = .ok (.aload_n 0, 1) := by decide +kernel
theorem dX7_emit_31 : decode cX7_emit 31 = .ok (.dup, 1) := by decide +kernel
theorem dX7_emit_32 : decode cX7_emit 32 = .ok (.getfield 65, 3) := by decide +kernel
theorem dX7_emit_35 : decode cX7_emit 35 = .ok (.iconst 1, 1) := by decide +kernel
theorem dX7_emit_36 : decode cX7_emit 36 = .ok (.iadd, 1) := by decide +kernel
theorem dX7_emit_37 : decode cX7_emit 37 = .ok (.putfield 65, 3) := by decide +kernel
theorem dX7_emit_40 : decode cX7_emit 40 = .ok (.return_, 1) := by decide +kernel
theorem dX7_leadHere_0 : decode cX7_leadHere 0 = .ok (.iload_n 1, 1) := by decide +kernel
theorem dX7_leadHere_1 : decode cX7_leadHere 1 = .ok (.ifCond .lt 21, 3) := by decide +kernel
theorem dX7_leadHere_4 : decode cX7_leadHere 4 = .ok (.iload_n 1, 1) := by decide +kernel
theorem dX7_leadHere_5 : decode cX7_leadHere 5 = .ok (.aload_n 0, 1) := by decide +kernel
theorem dX7_leadHere_6 : decode cX7_leadHere 6 = .ok (.getfield 65, 3) := by decide +kernel
theorem dX7_leadHere_9 : decode cX7_leadHere 9 = .ok (.if_icmp .ge 13, 3) := by decide +kernel
theorem dX7_leadHere_12 : decode cX7_leadHere 12 = .ok (.aload_n 0, 1) := by decide +kernel
theorem dX7_leadHere_13 : decode cX7_leadHere 13 = .ok (.getfield 29, 3) := by decide +kernel
theorem dX7_leadHere_16 : decode cX7_leadHere 16 = .ok (.iload_n 1, 1) := by decide +kernel
theorem dX7_leadHere_17 : decode cX7_leadHere 17 = .ok (.aload_n 0, 1) := by decide +kernel
theorem dX7_leadHere_18 : decode cX7_leadHere 18 = .ok (.getfield 65, 3) := by decide +kernel
theorem dX7_leadHere_21 : decode cX7_leadHere 21 = .ok (.iastore, 1) := by decide +kernel
theorem dX7_leadHere_22 : decode cX7_leadHere 22 = .ok (.return_, 1) := by decide +kernel
theorem dX7_addMark_0 : decode cX7_addMark 0 = .ok (.aload_n 0, 1) := by decide +kernel
theorem dX7_addMark_1 : decode cX7_addMark 1 = .ok (.getfield 68, 3) := by decide +kernel
theorem dX7_addMark_4 : decode cX7_addMark 4 = .ok (.sipush 499, 3) := by decide +kernel
theorem dX7_addMark_7 : decode cX7_addMark 7 = .ok (.invokestatic 102, 3) := by decide +kernel
theorem dX7_addMark_10 : decode cX7_addMark 10 = .ok (.istore 4, 2) := by decide +kernel
theorem dX7_addMark_12 : decode cX7_addMark 12 = .ok (.aload_n 0, 1) := by decide +kernel
theorem dX7_addMark_13 : decode cX7_addMark 13 = .ok (.getfield 32, 3) := by decide +kernel
theorem dX7_addMark_16 : decode cX7_addMark 16 = .ok (.iload 4, 2) := by decide +kernel
theorem dX7_addMark_18 : decode cX7_addMark 18 = .ok (.iload_n 1, 1) := by decide +kernel
theorem dX7_addMark_19 : decode cX7_addMark 19 = .ok (.iastore, 1) := by decide +kernel
theorem dX7_addMark_20 : decode cX7_addMark 20 = .ok (.aload_n 0, 1) := by decide +kernel
theorem dX7_addMark_21 : decode cX7_addMark 21 = .ok (.getfield 44, 3) := by decide +kernel
theorem dX7_addMark_24 : decode cX7_addMark 24 = .ok (.iload 4, 2) := by decide +kernel
theorem dX7_addMark_26 : decode cX7_addMark 26 = .ok (.iload_n 2, 1) := by decide +kernel
theorem dX7_addMark_27 : decode cX7_addMark 27 = .ok (.iastore, 1) := by decide +kernel
theorem dX7_addMark_28 : decode cX7_addMark 28 = .ok (.aload_n 0, 1) := by decide +kernel
theorem dX7_addMark_29 : decode cX7_addMark 29 = .ok (.getfield 38, 3) := by decide +kernel
theorem dX7_addMark_32 : decode cX7_addMark 32 = .ok (.iload 4, 2) := by decide +kernel
theorem dX7_addMark_34 : decode cX7_addMark 34 = .ok (.iload_n 3, 1) := by decide +kernel
theorem dX7_addMark_35 : decode cX7_addMark 35 = .ok (.iastore, 1) := by decide +kernel
theorem dX7_addMark_36 : decode cX7_addMark 36 = .ok (.aload_n 0, 1) := by decide +kernel
theorem dX7_addMark_37 : decode cX7_addMark 37 = .ok (.getfield 35, 3) := by decide +kernel
theorem dX7_addMark_40 : decode cX7_addMark 40 = .ok (.iload 4, 2) := by decide +kernel
theorem dX7_addMark_42 : decode cX7_addMark 42 = .ok (.aload_n 0, 1) := by decide +kernel
theorem dX7_addMark_43 : decode cX7_addMark 43 = .ok (.getfield 65, 3) := by decide +kernel
theorem dX7_addMark_46 : decode cX7_addMark 46 = .ok (.iastore, 1) := by decide +kernel
theorem dX7_addMark_47 : decode cX7_addMark 47 = .ok (.aload_n 0, 1) := by decide +kernel
theorem dX7_addMark_48 : decode cX7_addMark 48 = .ok (.getfield 41, 3) := by decide +kernel
theorem dX7_addMark_51 : decode cX7_addMark 51 = .ok (.iload 4, 2) := by decide +kernel
theorem dX7_addMark_53 : decode cX7_addMark 53 = .ok (.iconst 0, 1) := by decide +kernel
theorem dX7_addMark_54 : decode cX7_addMark 54 = .ok (.iastore, 1) := by decide +kernel
theorem dX7_addMark_55 : decode cX7_addMark 55 = .ok (.aload_n 0, 1) := by decide +kernel
theorem dX7_addMark_56 : decode cX7_addMark 56 = .ok (.getfield 47, 3) := by decide +kernel
theorem dX7_addMark_59 : decode cX7_addMark 59 = .ok (.iload 4, 2) := by decide +kernel
theorem dX7_addMark_61 : decode cX7_addMark 61 = .ok (.lconst 0, 1) := by decide +kernel
theorem dX7_addMark_62 : decode cX7_addMark 62 = .ok (.lastore, 1) := by decide +kernel
theorem dX7_addMark_63 : decode cX7_addMark 63 = .ok (.aload_n 0, 1) := by decide +kernel
theorem dX7_addMark_64 : decode cX7_addMark 64 = .ok (.iload 4, 2) := by decide +kernel
theorem dX7_addMark_66 : decode cX7_addMark 66 = .ok (.iconst 1, 1) := by decide +kernel
theorem dX7_addMark_67 : decode cX7_addMark 67 = .ok (.iadd, 1) := by decide +kernel
theorem dX7_addMark_68 : decode cX7_addMark 68 = .ok (.putfield 68, 3) := by decide +kernel
theorem dX7_addMark_71 : decode cX7_addMark 71 = .ok (.iload 4, 2) := by decide +kernel
theorem dX7_addMark_73 : decode cX7_addMark 73 = .ok (.ireturn, 1) := by decide +kernel
theorem dX7_addStatement_0 : decode cX7_addStatement 0 = .ok (.aload_n 0, 1) := by decide +kernel
theorem dX7_addStatement_1 : decode cX7_addStatement 1 = .ok (.getfield 71, 3) := by decide +kernel
theorem dX7_addStatement_4 : decode cX7_addStatement 4 = .ok (.sipush 419, 3) := by decide +kernel
theorem dX7_addStatement_7 : decode cX7_addStatement 7 = .ok (.invokestatic 102, 3) := by decide +kernel
theorem dX7_addStatement_10 : decode cX7_addStatement 10 = .ok (.istore_n 1, 1) := by decide +kernel
theorem dX7_addStatement_11 : decode cX7_addStatement 11 = .ok (.aload_n 0, 1) := by decide +kernel
theorem dX7_addStatement_12 : decode cX7_addStatement 12 = .ok (.getfield 51, 3) := by decide +kernel
theorem dX7_addStatement_15 : decode cX7_addStatement 15 = .ok (.iload_n 1, 1) := by decide +kernel
theorem dX7_addStatement_16 : decode cX7_addStatement 16 = .ok (.iconst 0, 1) := by decide +kernel
theorem dX7_addStatement_17 : decode cX7_addStatement 17 = .ok (.bastore, 1) := by decide +kernel
theorem dX7_addStatement_18 : decode cX7_addStatement 18 = .ok (.aload_n 0, 1) := by decide +kernel
theorem dX7_addStatement_19 : decode cX7_addStatement 19 = .ok (.iload_n 1, 1) := by decide +kernel
theorem dX7_addStatement_20 : decode cX7_addStatement 20 = .ok (.iconst 1, 1) := by decide +kernel
theorem dX7_addStatement_21 : decode cX7_addStatement 21 = .ok (.iadd, 1) := by decide +kernel
theorem dX7_addStatement_22 : decode cX7_addStatement 22 = .ok (.putfield 71, 3) := by decide +kernel
theorem dX7_addStatement_25 : decode cX7_addStatement 25 = .ok (.iload_n 1, 1) := by decide +kernel
theorem dX7_addStatement_26 : decode cX7_addStatement 26 = .ok (.ireturn, 1) := by decide +kernel
theorem dX7_addWord_0 : decode cX7_addWord 0 = .ok (.aload_n 0, 1) := by decide +kernel
theorem dX7_addWord_1 : decode cX7_addWord 1 = .ok (.getfield 74, 3) := by decide +kernel
theorem dX7_addWord_4 : decode cX7_addWord 4 = .ok (.sipush 419, 3) := by decide +kernel
theorem dX7_addWord_7 : decode cX7_addWord 7 = .ok (.invokestatic 102, 3) := by decide +kernel
theorem dX7_addWord_10 : decode cX7_addWord 10 = .ok (.istore_n 3, 1) := by decide +kernel
theorem dX7_addWord_11 : decode cX7_addWord 11 = .ok (.aload_n 0, 1) := by decide +kernel
theorem dX7_addWord_12 : decode cX7_addWord 12 = .ok (.getfield 55, 3) := by decide +kernel
theorem dX7_addWord_15 : decode cX7_addWord 15 = .ok (.iload_n 3, 1) := by decide +kernel
theorem dX7_addWord_16 : decode cX7_addWord 16 = .ok (.lload_n 1, 1) := by decide +kernel
theorem dX7_addWord_17 : decode cX7_addWord 17 = .ok (.lastore, 1) := by decide +kernel
theorem dX7_addWord_18 : decode cX7_addWord 18 = .ok (.aload_n 0, 1) := by decide +kernel
theorem dX7_addWord_19 : decode cX7_addWord 19 = .ok (.iload_n 3, 1) := by decide +kernel
theorem dX7_addWord_20 : decode cX7_addWord 20 = .ok (.iconst 1, 1) := by decide +kernel
theorem dX7_addWord_21 : decode cX7_addWord 21 = .ok (.iadd, 1) := by decide +kernel
theorem dX7_addWord_22 : decode cX7_addWord 22 = .ok (.putfield 74, 3) := by decide +kernel
theorem dX7_addWord_25 : decode cX7_addWord 25 = .ok (.iload_n 3, 1) := by decide +kernel
theorem dX7_addWord_26 : decode cX7_addWord 26 = .ok (.ireturn, 1) := by decide +kernel
theorem dX8_takeToken_0 : decode cX8_takeToken 0 = .ok (.aload_n 0, 1) := by decide +kernel
theorem dX8_takeToken_1 : decode cX8_takeToken 1 = .ok (.getfield 15, 3) := by decide +kernel
theorem dX8_takeToken_4 : decode cX8_takeToken 4 = .ok (.iload_n 1, 1) := by decide +kernel
theorem dX8_takeToken_5 : decode cX8_takeToken 5 = .ok (.iload_n 2, 1) := by decide +kernel
theorem dX8_takeToken_6 : decode cX8_takeToken 6 = .ok (.iastore, 1) := by decide +kernel
theorem dX8_takeToken_7 : decode cX8_takeToken 7 = .ok (.aload_n 0, 1) := by decide +kernel
theorem dX8_takeToken_8 : decode cX8_takeToken 8 = .ok (.getfield 18, 3) := by decide +kernel
theorem dX8_takeToken_11 : decode cX8_takeToken 11 = .ok (.iload_n 1, 1) := by decide +kernel
theorem dX8_takeToken_12 : decode cX8_takeToken 12 = .ok (.lconst 0, 1) := by decide +kernel
theorem dX8_takeToken_13 : decode cX8_takeToken 13 = .ok (.lastore, 1) := by decide +kernel
theorem dX8_takeToken_14 : decode cX8_takeToken 14 = .ok (.aload_n 0, 1) := by decide +kernel
theorem dX8_takeToken_15 : decode cX8_takeToken 15 = .ok (.iload_n 2, 1) := by decide +kernel
theorem dX8_takeToken_16 : decode cX8_takeToken 16 = .ok (.invokevirtual 77, 3) := by decide +kernel
theorem dX8_takeToken_19 : decode cX8_takeToken 19 = .ok (.istore_n 3, 1) := by decide +kernel
theorem dX8_takeToken_20 : decode cX8_takeToken 20 = .ok (.iload_n 2, 1) := by decide +kernel
theorem dX8_takeToken_21 : decode cX8_takeToken 21 = .ok (.aload_n 0, 1) := by decide +kernel
theorem dX8_takeToken_22 : decode cX8_takeToken 22 = .ok (.getfield 63, 3) := by decide +kernel
theorem dX8_takeToken_25 : decode cX8_takeToken 25 = .ok (.if_icmp .lt 12, 3) := by decide +kernel
theorem dX8_takeToken_28 : decode cX8_takeToken 28 = .ok (.aload_n 0, 1) := by decide +kernel
theorem dX8_takeToken_29 : decode cX8_takeToken 29 = .ok (.getfield 11, 3) := by decide +kernel
theorem dX8_takeToken_32 : decode cX8_takeToken 32 = .ok (.iload_n 1, 1) := by decide +kernel
theorem dX8_takeToken_33 : decode cX8_takeToken 33 = .ok (.iconst 1, 1) := by decide +kernel
theorem dX8_takeToken_34 : decode cX8_takeToken 34 = .ok (.iastore, 1) := by decide +kernel
theorem dX8_takeToken_35 : decode cX8_takeToken 35 = .ok (.iconst 0, 1) := by decide +kernel
theorem dX8_takeToken_36 : decode cX8_takeToken 36 = .ok (.ireturn, 1) := by decide +kernel
theorem dX8_takeToken_37 : decode cX8_takeToken 37 = .ok (.iload_n 3, 1) := by decide +kernel
theorem dX8_takeToken_38 : decode cX8_takeToken 38 = .ok (.bipush 97, 2) := by decide +kernel
theorem dX8_takeToken_40 : decode cX8_takeToken 40 = .ok (.if_icmp .lt 16, 3) := by decide +kernel
theorem dX8_takeToken_43 : decode cX8_takeToken 43 = .ok (.iload_n 3, 1) := by decide +kernel
theorem dX8_takeToken_44 : decode cX8_takeToken 44 = .ok (.bipush 122, 2) := by decide +kernel
theorem dX8_takeToken_46 : decode cX8_takeToken 46 = .ok (.if_icmp .gt 10, 3) := by decide +kernel
theorem dX8_takeToken_49 : decode cX8_takeToken 49 = .ok (.aload_n 0, 1) := by decide +kernel
theorem dX8_takeToken_50 : decode cX8_takeToken 50 = .ok (.iload_n 1, 1) := by decide +kernel
theorem dX8_takeToken_51 : decode cX8_takeToken 51 = .ok (.iload_n 2, 1) := by decide +kernel
theorem dX8_takeToken_52 : decode cX8_takeToken 52 = .ok (.invokevirtual 84, 3) := by decide +kernel
theorem dX8_takeToken_55 : decode cX8_takeToken 55 = .ok (.ireturn, 1) := by decide +kernel
theorem dX8_takeToken_56 : decode cX8_takeToken 56 = .ok (.iload_n 3, 1) := by decide +kernel
theorem dX8_takeToken_57 : decode cX8_takeToken 57 = .ok (.bipush 48, 2) := by decide +kernel
theorem dX8_takeToken_59 : decode cX8_takeToken 59 = .ok (.if_icmp .lt 16, 3) := by decide +kernel
theorem dX8_takeToken_62 : decode cX8_takeToken 62 = .ok (.iload_n 3, 1) := by decide +kernel
theorem dX8_takeToken_63 : decode cX8_takeToken 63 = .ok (.bipush 57, 2) := by decide +kernel
theorem dX8_takeToken_65 : decode cX8_takeToken 65 = .ok (.if_icmp .gt 10, 3) := by decide +kernel
theorem dX8_takeToken_68 : decode cX8_takeToken 68 = .ok (.aload_n 0, 1) := by decide +kernel
theorem dX8_takeToken_69 : decode cX8_takeToken 69 = .ok (.iload_n 1, 1) := by decide +kernel
theorem dX8_takeToken_70 : decode cX8_takeToken 70 = .ok (.iload_n 2, 1) := by decide +kernel
theorem dX8_takeToken_71 : decode cX8_takeToken 71 = .ok (.invokevirtual 87, 3) := by decide +kernel
theorem dX8_takeToken_74 : decode cX8_takeToken 74 = .ok (.ireturn, 1) := by decide +kernel
theorem dX8_takeToken_75 : decode cX8_takeToken 75 = .ok (.aload_n 0, 1) := by decide +kernel
theorem dX8_takeToken_76 : decode cX8_takeToken 76 = .ok (.getfield 11, 3) := by decide +kernel
theorem dX8_takeToken_79 : decode cX8_takeToken 79 = .ok (.iload_n 1, 1) := by decide +kernel
theorem dX8_takeToken_80 : decode cX8_takeToken 80 = .ok (.iload_n 3, 1) := by decide +kernel
theorem dX8_takeToken_81 : decode cX8_takeToken 81 = .ok (.aload_n 0, 1) := by decide +kernel
theorem dX8_takeToken_82 : decode cX8_takeToken 82 = .ok (.iload_n 2, 1) := by decide +kernel
theorem dX8_takeToken_83 : decode cX8_takeToken 83 = .ok (.iconst 1, 1) := by decide +kernel
theorem dX8_takeToken_84 : decode cX8_takeToken 84 = .ok (.iadd, 1) := by decide +kernel
theorem dX8_takeToken_85 : decode cX8_takeToken 85 = .ok (.invokevirtual 77, 3) := by decide +kernel
theorem dX8_takeToken_88 : decode cX8_takeToken 88 = .ok (.invokestatic 90, 3) := by decide +kernel
theorem dX8_takeToken_91 : decode cX8_takeToken 91 = .ok (.iastore, 1) := by decide +kernel
theorem dX8_takeToken_92 : decode cX8_takeToken 92 = .ok (.aload_n 0, 1) := by decide +kernel
theorem dX8_takeToken_93 : decode cX8_takeToken 93 = .ok (.getfield 11, 3) := by decide +kernel
theorem dX8_takeToken_96 : decode cX8_takeToken 96 = .ok (.iload_n 1, 1) := by decide +kernel
theorem dX8_takeToken_97 : decode cX8_takeToken 97 = .ok (.iaload, 1) := by decide +kernel
theorem dX8_takeToken_98 : decode cX8_takeToken 98 = .ok (.iconst 2, 1) := by decide +kernel
theorem dX8_takeToken_99 : decode cX8_takeToken 99 = .ok (.if_icmp .eq 5, 3) := by decide +kernel
theorem dX8_takeToken_102 : decode cX8_takeToken 102 = .ok (.iconst 2, 1) := by decide +kernel
theorem dX8_takeToken_103 : decode cX8_takeToken 103 = .ok (.ireturn, 1) := by decide +kernel
theorem dX8_takeToken_104 : decode cX8_takeToken 104 = .ok (.ldc 93, 2) := by decide +kernel
theorem dX8_takeToken_106 : decode cX8_takeToken 106 = .ok (.iload_n 3, 1) := by decide +kernel
theorem dX8_takeToken_107 : decode cX8_takeToken 107 = .ok (.i2c, 1) := by decide +kernel
theorem dX8_takeToken_108 : decode cX8_takeToken 108 = .ok (.invokevirtual 95, 3) := by decide +kernel
theorem dX8_takeToken_111 : decode cX8_takeToken 111 = .ok (.ifCond .lt 10, 3) := by decide +kernel
theorem dX8_takeToken_114 : decode cX8_takeToken 114 = .ok (.aload_n 0, 1) := by decide +kernel
theorem dX8_takeToken_115 : decode cX8_takeToken 115 = .ok (.getfield 11, 3) := by decide +kernel
theorem dX8_takeToken_118 : decode cX8_takeToken 118 = .ok (.iload_n 1, 1) := by decide +kernel
theorem dX8_takeToken_119 : decode cX8_takeToken 119 = .ok (.iload_n 3, 1) := by decide +kernel
theorem dX8_takeToken_120 : decode cX8_takeToken 120 = .ok (.iastore, 1) := by decide +kernel
theorem dX8_takeToken_121 : decode cX8_takeToken 121 = .ok (.iconst 1, 1) := by decide +kernel
theorem dX8_takeToken_122 : decode cX8_takeToken 122 = .ok (.ireturn, 1) := by decide +kernel
theorem dX9_beginAs_0 : decode cX9_beginAs 0 = .ok (.aload_n 0, 1) := by decide +kernel
theorem dX9_beginAs_1 : decode cX9_beginAs 1 = .ok (.lload_n 1, 1) := by decide +kernel
theorem dX9_beginAs_2 : decode cX9_beginAs 2 = .ok (.putfield 28, 3) := by decide +kernel
theorem dX9_beginAs_5 : decode cX9_beginAs 5 = .ok (.aload_n 0, 1) := by decide +kernel
theorem dX9_beginAs_6 : decode cX9_beginAs 6 = .ok (.iconst (-1), 1) := by decide +kernel
theorem dX9_beginAs_7 : decode cX9_beginAs 7 = .ok (.putfield 32, 3) := by decide +kernel
theorem dX9_beginAs_10 : decode cX9_beginAs 10 = .ok (.aload_n 0, 1) := by decide +kernel
theorem dX9_beginAs_11 : decode cX9_beginAs 11 = .ok (.iconst 0, 1) := by decide +kernel
theorem dX9_beginAs_12 : decode cX9_beginAs 12 = .ok (.putfield 36, 3) := by decide +kernel
theorem dX9_beginAs_15 : decode cX9_beginAs 15 = .ok (.aload_n 0, 1) := by decide +kernel
theorem dX9_beginAs_16 : decode cX9_beginAs 16 = .ok (.iconst 0, 1) := by decide +kernel
theorem dX9_beginAs_17 : decode cX9_beginAs 17 = .ok (.putfield 39, 3) := by decide +kernel
theorem dX9_beginAs_20 : decode cX9_beginAs 20 = .ok (.aload_n 0, 1) := by decide +kernel
theorem dX9_beginAs_21 : decode cX9_beginAs 21 = .ok (.iconst 0, 1) := by decide +kernel
theorem dX9_beginAs_22 : decode cX9_beginAs 22 = .ok (.putfield 42, 3) := by decide +kernel
theorem dX9_beginAs_25 : decode cX9_beginAs 25 = .ok (.aload_n 0, 1) := by decide +kernel
theorem dX9_beginAs_26 : decode cX9_beginAs 26 = .ok (.iconst 0, 1) := by decide +kernel
theorem dX9_beginAs_27 : decode cX9_beginAs 27 = .ok (.putfield 45, 3) := by decide +kernel
theorem dX9_beginAs_30 : decode cX9_beginAs 30 = .ok (.aload_n 0, 1) := by decide +kernel
theorem dX9_beginAs_31 : decode cX9_beginAs 31 = .ok (.iconst 0, 1) := by decide +kernel
theorem dX9_beginAs_32 : decode cX9_beginAs 32 = .ok (.putfield 48, 3) := by decide +kernel
theorem dX9_beginAs_35 : decode cX9_beginAs 35 = .ok (.aload_n 0, 1) := by decide +kernel
theorem dX9_beginAs_36 : decode cX9_beginAs 36 = .ok (.iconst (-1), 1) := by decide +kernel
theorem dX9_beginAs_37 : decode cX9_beginAs 37 = .ok (.putfield 51, 3) := by decide +kernel
theorem dX9_beginAs_40 : decode cX9_beginAs 40 = .ok (.return_, 1) := by decide +kernel
theorem dX9_fieldNamed_0 : decode cX9_fieldNamed 0 = .ok (.iconst 0, 1) := by decide +kernel
theorem dX9_fieldNamed_1 : decode cX9_fieldNamed 1 = .ok (.istore_n 3, 1) := by decide +kernel
theorem dX9_fieldNamed_2 : decode cX9_fieldNamed 2 = .ok (.iload_n 3, 1) := by decide +kernel
theorem dX9_fieldNamed_3 : decode cX9_fieldNamed 3 = .ok (.aload_n 0, 1) := by decide +kernel
theorem dX9_fieldNamed_4 : decode cX9_fieldNamed 4 = .ok (.getfield 36, 3) := by decide +kernel
theorem dX9_fieldNamed_7 : decode cX9_fieldNamed 7 = .ok (.if_icmp .ge 22, 3) := by decide +kernel
theorem dX9_fieldNamed_10 : decode cX9_fieldNamed 10 = .ok (.aload_n 0, 1) := by decide +kernel
theorem dX9_fieldNamed_11 : decode cX9_fieldNamed 11 = .ok (.getfield 11, 3) := by decide +kernel
theorem dX9_fieldNamed_14 : decode cX9_fieldNamed 14 = .ok (.iload_n 3, 1) := by decide +kernel
theorem dX9_fieldNamed_15 : decode cX9_fieldNamed 15 = .ok (.laload, 1) := by decide +kernel
theorem dX9_fieldNamed_16 : decode cX9_fieldNamed 16 = .ok (.lload_n 1, 1) := by decide +kernel
theorem dX9_fieldNamed_17 : decode cX9_fieldNamed 17 = .ok (.lcmp, 1) := by decide +kernel
theorem dX9_fieldNamed_18 : decode cX9_fieldNamed 18 = .ok (.ifCond .ne 5, 3) := by decide +kernel
theorem dX9_fieldNamed_21 : decode cX9_fieldNamed 21 = .ok (.iload_n 3, 1) := by decide +kernel
theorem dX9_fieldNamed_22 : decode cX9_fieldNamed 22 = .ok (.ireturn, 1) := by decide +kernel
theorem dX9_fieldNamed_23 : decode cX9_fieldNamed 23 = .ok (.iinc 3 1, 3) := by decide +kernel
theorem dX9_fieldNamed_26 : decode cX9_fieldNamed 26 = .ok (.goto (-24), 3) := by decide +kernel
theorem dX9_fieldNamed_29 : decode cX9_fieldNamed 29 = .ok (.iconst (-1), 1) := by decide +kernel
theorem dX9_fieldNamed_30 : decode cX9_fieldNamed 30 = .ok (.ireturn, 1) := by decide +kernel
theorem dX9_isRow_0 : decode cX9_isRow 0 = .ok (.iload_n 1, 1) := by decide +kernel
theorem dX9_isRow_1 : decode cX9_isRow 1 = .ok (.ifCond .lt 24, 3) := by decide +kernel
theorem dX9_isRow_4 : decode cX9_isRow 4 = .ok (.iload_n 1, 1) := by decide +kernel
theorem dX9_isRow_5 : decode cX9_isRow 5 = .ok (.aload_n 0, 1) := by decide +kernel
theorem dX9_isRow_6 : decode cX9_isRow 6 = .ok (.getfield 36, 3) := by decide +kernel
theorem dX9_isRow_9 : decode cX9_isRow 9 = .ok (.if_icmp .ge 16, 3) := by decide +kernel
theorem dX9_isRow_12 : decode cX9_isRow 12 = .ok (.aload_n 0, 1) := by decide +kernel
theorem dX9_isRow_13 : decode cX9_isRow 13 = .ok (.getfield 19, 3) := by decide +kernel
theorem dX9_isRow_16 : decode cX9_isRow 16 = .ok (.iload_n 1, 1) := by decide +kernel
theorem dX9_isRow_17 : decode cX9_isRow 17 = .ok (.iaload, 1) := by decide +kernel
theorem dX9_isRow_18 : decode cX9_isRow 18 = .ok (.ifCond .le 7, 3) := by decide +kernel
theorem dX9_isRow_21 : decode cX9_isRow 21 = .ok (.iconst 1, 1) := by decide +kernel
theorem dX9_isRow_22 : decode cX9_isRow 22 = .ok (.goto 4, 3) := by decide +kernel
theorem dX9_isRow_25 : decode cX9_isRow 25 = .ok (.iconst 0, 1) := by decide +kernel
theorem dX9_isRow_26 : decode cX9_isRow 26 = .ok (.ireturn, 1) := by decide +kernel
theorem dX9_spanOf_0 : decode cX9_spanOf 0 = .ok (.iload_n 1, 1) := by decide +kernel
theorem dX9_spanOf_1 : decode cX9_spanOf 1 = .ok (.ifCond .lt 30, 3) := by decide +kernel
theorem dX9_spanOf_4 : decode cX9_spanOf 4 = .ok (.iload_n 1, 1) := by decide +kernel
theorem dX9_spanOf_5 : decode cX9_spanOf 5 = .ok (.aload_n 0, 1) := by decide +kernel
theorem dX9_spanOf_6 : decode cX9_spanOf 6 = .ok (.getfield 36, 3) := by decide +kernel
theorem dX9_spanOf_9 : decode cX9_spanOf 9 = .ok (.if_icmp .ge 22, 3) := by decide +kernel
theorem dX9_spanOf_12 : decode cX9_spanOf 12 = .ok (.aload_n 0, 1) := by decide +kernel
theorem dX9_spanOf_13 : decode cX9_spanOf 13 = .ok (.getfield 15, 3) := by decide +kernel
theorem dX9_spanOf_16 : decode cX9_spanOf 16 = .ok (.iload_n 1, 1) := by decide +kernel
theorem dX9_spanOf_17 : decode cX9_spanOf 17 = .ok (.iaload, 1) := by decide +kernel
theorem dX9_spanOf_18 : decode cX9_spanOf 18 = .ok (.bipush 16, 2) := by decide +kernel
theorem dX9_spanOf_20 : decode cX9_spanOf 20 = .ok (.imul, 1) := by decide +kernel
theorem dX9_spanOf_21 : decode cX9_spanOf 21 = .ok (.aload_n 0, 1) := by decide +kernel
theorem dX9_spanOf_22 : decode cX9_spanOf 22 = .ok (.getfield 19, 3) := by decide +kernel
theorem dX9_spanOf_25 : decode cX9_spanOf 25 = .ok (.iload_n 1, 1) := by decide +kernel
theorem dX9_spanOf_26 : decode cX9_spanOf 26 = .ok (.iaload, 1) := by decide +kernel
theorem dX9_spanOf_27 : decode cX9_spanOf 27 = .ok (.iadd, 1) := by decide +kernel
theorem dX9_spanOf_28 : decode cX9_spanOf 28 = .ok (.goto 4, 3) := by decide +kernel
theorem dX9_spanOf_31 : decode cX9_spanOf 31 = .ok (.iconst 0, 1) := by decide +kernel
theorem dX9_spanOf_32 : decode cX9_spanOf 32 = .ok (.ireturn, 1) := by decide +kernel
theorem dX9_addField_0 : decode cX9_addField 0 = .ok (.aload_n 0, 1) := by decide +kernel
theorem dX9_addField_1 : decode cX9_addField 1 = .ok (.getfield 36, 3) := by decide +kernel
theorem dX9_addField_4 : decode cX9_addField 4 = .ok (.bipush 10, 2) := by decide +kernel
theorem dX9_addField_6 : decode cX9_addField 6 = .ok (.if_icmp .ge 71, 3) := by decide +kernel
theorem dX9_addField_9 : decode cX9_addField 9 = .ok (.aload_n 0, 1) := by decide +kernel
theorem dX9_addField_10 : decode cX9_addField 10 = .ok (.getfield 11, 3) := by decide +kernel
theorem dX9_addField_13 : decode cX9_addField 13 = .ok (.aload_n 0, 1) := by decide +kernel
theorem dX9_addField_14 : decode cX9_addField 14 = .ok (.getfield 36, 3) := by decide +kernel
theorem dX9_addField_17 : decode cX9_addField 17 = .ok (.lload_n 1, 1) := by decide +kernel
theorem dX9_addField_18 : decode cX9_addField 18 = .ok (.lastore, 1) := by decide +kernel
theorem dX9_addField_19 : decode cX9_addField 19 = .ok (.aload_n 0, 1) := by decide +kernel
theorem dX9_addField_20 : decode cX9_addField 20 = .ok (.getfield 15, 3) := by decide +kernel
theorem dX9_addField_23 : decode cX9_addField 23 = .ok (.aload_n 0, 1) := by decide +kernel
theorem dX9_addField_24 : decode cX9_addField 24 = .ok (.getfield 36, 3) := by decide +kernel
theorem dX9_addField_27 : decode cX9_addField 27 = .ok (.aload_n 0, 1) := by decide +kernel
theorem dX9_addField_28 : decode cX9_addField 28 = .ok (.getfield 39, 3) := by decide +kernel
theorem dX9_addField_31 : decode cX9_addField 31 = .ok (.iastore, 1) := by decide +kernel
theorem dX9_addField_32 : decode cX9_addField 32 = .ok (.aload_n 0, 1) := by decide +kernel
theorem dX9_addField_33 : decode cX9_addField 33 = .ok (.getfield 19, 3) := by decide +kernel
theorem dX9_addField_36 : decode cX9_addField 36 = .ok (.aload_n 0, 1) := by decide +kernel
theorem dX9_addField_37 : decode cX9_addField 37 = .ok (.getfield 36, 3) := by decide +kernel
theorem dX9_addField_40 : decode cX9_addField 40 = .ok (.iload_n 3, 1) := by decide +kernel
theorem dX9_addField_41 : decode cX9_addField 41 = .ok (.iastore, 1) := by decide +kernel
theorem dX9_addField_42 : decode cX9_addField 42 = .ok (.aload_n 0, 1) := by decide +kernel
theorem dX9_addField_43 : decode cX9_addField 43 = .ok (.getfield 22, 3) := by decide +kernel
theorem dX9_addField_46 : decode cX9_addField 46 = .ok (.aload_n 0, 1) := by decide +kernel
theorem dX9_addField_47 : decode cX9_addField 47 = .ok (.getfield 36, 3) := by decide +kernel
theorem dX9_addField_50 : decode cX9_addField 50 = .ok (.iload 4, 2) := by decide +kernel
theorem dX9_addField_52 : decode cX9_addField 52 = .ok (.iastore, 1) := by decide +kernel
theorem dX9_addField_53 : decode cX9_addField 53 = .ok (.aload_n 0, 1) := by decide +kernel
theorem dX9_addField_54 : decode cX9_addField 54 = .ok (.dup, 1) := by decide +kernel
theorem dX9_addField_55 : decode cX9_addField 55 = .ok (.getfield 39, 3) := by decide +kernel
theorem dX9_addField_58 : decode cX9_addField 58 = .ok (.iload_n 3, 1) := by decide +kernel
theorem dX9_addField_59 : decode cX9_addField 59 = .ok (.iconst 1, 1) := by decide +kernel
theorem dX9_addField_60 : decode cX9_addField 60 = .ok (.invokestatic 60, 3) := by decide +kernel
theorem dX9_addField_63 : decode cX9_addField 63 = .ok (.iadd, 1) := by decide +kernel
theorem dX9_addField_64 : decode cX9_addField 64 = .ok (.putfield 39, 3) := by decide +kernel
theorem dX9_addField_67 : decode cX9_addField 67 = .ok (.aload_n 0, 1) := by decide +kernel
theorem dX9_addField_68 : decode cX9_addField 68 = .ok (.dup, 1) := by decide +kernel
theorem dX9_addField_69 : decode cX9_addField 69 = .ok (.getfield 36, 3) := by decide +kernel
theorem dX9_addField_72 : decode cX9_addField 72 = .ok (.iconst 1, 1) := by decide +kernel
theorem dX9_addField_73 : decode cX9_addField 73 = .ok (.iadd, 1) := by decide +kernel
theorem dX9_addField_74 : decode cX9_addField 74 = .ok (.putfield 36, 3) := by decide +kernel
theorem dX9_addField_77 : decode cX9_addField 77 = .ok (.return_, 1) := by decide +kernel
