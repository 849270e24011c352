theorem t_213 : Cond.instanceMethod objectInit ∈ lw_g := gg_ (i := 213) (by decide +kernel) (by decide +kernel)
theorem t_214 : Cond.code objectInit ⟨#[0xb1]⟩ 1 none ∈ lw_g := gg_ (i := 214) (by decide +kernel) (by decide +kernel)
theorem t_320 : Cond.arrayClass .int ∈ lw_g := gg_ (i := 320) (by decide +kernel) (by decide +kernel)
theorem t_321 : Cond.arrayClass .long ∈ lw_g := gg_ (i := 321) (by decide +kernel) (by decide +kernel)
theorem t_326 : Cond.code yX5_init cX5_init 1 none ∈ lw_g := gg_ (i := 326) (by decide +kernel) (by decide +kernel)
theorem t_327 : Cond.methodLink RX5 1 objectInit ∈ lw_g := gg_ (i := 327) (by decide +kernel) (by decide +kernel)
theorem t_334 : Cond.fieldLink RX5 9 "TrialGarden$Scope" "params" "[J" ∈ lw_g := gg_ (i := 334) (by decide +kernel) (by decide +kernel)
theorem t_338 : Cond.fieldLink RX5 15 "TrialGarden$Scope" "locals" "[J" ∈ lw_g := gg_ (i := 338) (by decide +kernel) (by decide +kernel)
theorem t_476 : Cond.code yX9_init cX9_init 1 none ∈ lw_g := gg_ (i := 476) (by decide +kernel) (by decide +kernel)
theorem t_477 : Cond.methodLink RX9 3 objectInit ∈ lw_g := gg_ (i := 477) (by decide +kernel) (by decide +kernel)
theorem t_488 : Cond.fieldLink RX9 11 "TrialGarden$Toy" "fieldName" "[J" ∈ lw_g := gg_ (i := 488) (by decide +kernel) (by decide +kernel)
theorem t_489 : Cond.fieldLink RX9 15 "TrialGarden$Toy" "fieldStart" "[I" ∈ lw_g := gg_ (i := 489) (by decide +kernel) (by decide +kernel)
theorem t_490 : Cond.fieldLink RX9 19 "TrialGarden$Toy" "rowCells" "[I" ∈ lw_g := gg_ (i := 490) (by decide +kernel) (by decide +kernel)
theorem t_492 : Cond.fieldLink RX9 22 "TrialGarden$Toy" "firstNumber" "[I" ∈ lw_g := gg_ (i := 492) (by decide +kernel) (by decide +kernel)
theorem t_503 : Cond.fieldLink RX9 25 "TrialGarden$Toy" "teller" "[I" ∈ lw_g := gg_ (i := 503) (by decide +kernel) (by decide +kernel)
theorem t_553 : Cond.code yX6_init cX6_init 1 none ∈ lw_g := gg_ (i := 553) (by decide +kernel) (by decide +kernel)
theorem t_554 : Cond.methodLink RX6 1 objectInit ∈ lw_g := gg_ (i := 554) (by decide +kernel) (by decide +kernel)
theorem t_569 : Cond.fieldLink RX6 9 "TrialGarden$Telling" "low" "[I" ∈ lw_g := gg_ (i := 569) (by decide +kernel) (by decide +kernel)
theorem t_573 : Cond.fieldLink RX6 13 "TrialGarden$Telling" "high" "[I" ∈ lw_g := gg_ (i := 573) (by decide +kernel) (by decide +kernel)
theorem t_626 : Cond.fieldLink RX7 58 "TrialGarden$Text" "classCount" "I" ∈ lw_g := gg_ (i := 626) (by decide +kernel) (by decide +kernel)
theorem t_733 : Cond.code yX1_init cX1_init 1 none ∈ lw_g := gg_ (i := 733) (by decide +kernel) (by decide +kernel)
theorem t_734 : Cond.methodLink RX1 3 objectInit ∈ lw_g := gg_ (i := 734) (by decide +kernel) (by decide +kernel)
theorem t_737 : Cond.fieldLink RX1 21 "TrialGarden$Machine" "cells" "[I" ∈ lw_g := gg_ (i := 737) (by decide +kernel) (by decide +kernel)
theorem t_738 : Cond.fieldLink RX1 24 "TrialGarden$Machine" "before" "[I" ∈ lw_g := gg_ (i := 738) (by decide +kernel) (by decide +kernel)
theorem t_739 : Cond.fieldLink RX1 27 "TrialGarden$Machine" "given" "[I" ∈ lw_g := gg_ (i := 739) (by decide +kernel) (by decide +kernel)
theorem t_742 : Cond.fieldLink RX1 11 "TrialGarden$Machine" "stack" "[I" ∈ lw_g := gg_ (i := 742) (by decide +kernel) (by decide +kernel)
theorem t_744 : Cond.fieldLink RX1 15 "TrialGarden$Machine" "slots" "[I" ∈ lw_g := gg_ (i := 744) (by decide +kernel) (by decide +kernel)
theorem t_745 : Cond.fieldLink RX1 18 "TrialGarden$Machine" "backs" "[I" ∈ lw_g := gg_ (i := 745) (by decide +kernel) (by decide +kernel)
theorem t_1283 : Cond.code yX7_hasClass cX7_hasClass 2 (some .boolean) ∈ lw_g := gg_ (i := 1283) (by decide +kernel) (by decide +kernel)
theorem dX1_init_0 : decode cX1_init 0 = .ok (.aload_n 0, 1) := by decide +kernel
theorem dX1_init_1 : decode cX1_init 1 = .ok (.invokespecial 3, 3) := by decide +kernel
theorem dX1_init_4 : decode cX1_init 4 = .ok (.aload_n 0, 1) := by decide +kernel
theorem dX1_init_5 : decode cX1_init 5 = .ok (.sipush 700, 3) := by decide +kernel
theorem dX1_init_8 : decode cX1_init 8 = .ok (.newarray .int, 2) := by decide +kernel
theorem dX1_init_10 : decode cX1_init 10 = .ok (.putfield 11, 3) := by decide +kernel
theorem dX1_init_13 : decode cX1_init 13 = .ok (.aload_n 0, 1) := by decide +kernel
theorem dX1_init_14 : decode cX1_init 14 = .ok (.sipush 231, 3) := by decide +kernel
theorem dX1_init_17 : decode cX1_init 17 = .ok (.newarray .int, 2) := by decide +kernel
theorem dX1_init_19 : decode cX1_init 19 = .ok (.putfield 15, 3) := by decide +kernel
theorem dX1_init_22 : decode cX1_init 22 = .ok (.aload_n 0, 1) := by decide +kernel
theorem dX1_init_23 : decode cX1_init 23 = .ok (.bipush 21, 2) := by decide +kernel
theorem dX1_init_25 : decode cX1_init 25 = .ok (.newarray .int, 2) := by decide +kernel
theorem dX1_init_27 : decode cX1_init 27 = .ok (.putfield 18, 3) := by decide +kernel
theorem dX1_init_30 : decode cX1_init 30 = .ok (.aload_n 0, 1) := by decide +kernel
theorem dX1_init_31 : decode cX1_init 31 = .ok (.aload_n 0, 1) := by decide +kernel
theorem dX1_init_32 : decode cX1_init 32 = .ok (.getfield 11, 3) := by decide +kernel
theorem dX1_init_35 : decode cX1_init 35 = .ok (.putfield 21, 3) := by decide +kernel
theorem dX1_init_38 : decode cX1_init 38 = .ok (.aload_n 0, 1) := by decide +kernel
theorem dX1_init_39 : decode cX1_init 39 = .ok (.aload_n 0, 1) := by decide +kernel
theorem dX1_init_40 : decode cX1_init 40 = .ok (.getfield 11, 3) := by decide +kernel
theorem dX1_init_43 : decode cX1_init 43 = .ok (.putfield 24, 3) := by decide +kernel
theorem dX1_init_46 : decode cX1_init 46 = .ok (.aload_n 0, 1) := by decide +kernel
theorem dX1_init_47 : decode cX1_init 47 = .ok (.aload_n 0, 1) := by decide +kernel
theorem dX1_init_48 : decode cX1_init 48 = .ok (.getfield 11, 3) := by decide +kernel
theorem dX1_init_51 : decode cX1_init 51 = .ok (.putfield 27, 3) := by decide +kernel
theorem dX1_init_54 : decode cX1_init 54 = .ok (.return_, 1) := by decide +kernel
theorem dX5_init_0 : decode cX5_init 0 = .ok (.aload_n 0, 1) := by decide +kernel
theorem dX5_init_1 : decode cX5_init 1 = .ok (.invokespecial 1, 3) := by decide +kernel
theorem dX5_init_4 : decode cX5_init 4 = .ok (.aload_n 0, 1) := by decide +kernel
theorem dX5_init_5 : decode cX5_init 5 = .ok (.iconst 3, 1) := by decide +kernel
theorem dX5_init_6 : decode cX5_init 6 = .ok (.newarray .long, 2) := by decide +kernel
theorem dX5_init_8 : decode cX5_init 8 = .ok (.putfield 9, 3) := by decide +kernel
theorem dX5_init_11 : decode cX5_init 11 = .ok (.aload_n 0, 1) := by decide +kernel
theorem dX5_init_12 : decode cX5_init 12 = .ok (.bipush 8, 2) := by decide +kernel
theorem dX5_init_14 : decode cX5_init 14 = .ok (.newarray .long, 2) := by decide +kernel
theorem dX5_init_16 : decode cX5_init 16 = .ok (.putfield 15, 3) := by decide +kernel
theorem dX5_init_19 : decode cX5_init 19 = .ok (.return_, 1) := by decide +kernel
theorem dX6_init_0 : decode cX6_init 0 = .ok (.aload_n 0, 1) := by decide +kernel
theorem dX6_init_1 : decode cX6_init 1 = .ok (.invokespecial 1, 3) := by decide +kernel
theorem dX6_init_4 : decode cX6_init 4 = .ok (.aload_n 0, 1) := by decide +kernel
theorem dX6_init_5 : decode cX6_init 5 = .ok (.iconst 3, 1) := by decide +kernel
theorem dX6_init_6 : decode cX6_init 6 = .ok (.newarray .int, 2) := by decide +kernel
theorem dX6_init_8 : decode cX6_init 8 = .ok (.putfield 9, 3) := by decide +kernel
theorem dX6_init_11 : decode cX6_init 11 = .ok (.aload_n 0, 1) := by decide +kernel
theorem dX6_init_12 : decode cX6_init 12 = .ok (.iconst 3, 1) := by decide +kernel
theorem dX6_init_13 : decode cX6_init 13 = .ok (.newarray .int, 2) := by decide +kernel
theorem dX6_init_15 : decode cX6_init 15 = .ok (.putfield 13, 3) := by decide +kernel
theorem dX6_init_18 : decode cX6_init 18 = .ok (.return_, 1) := by decide +kernel
theorem dX7_hasClass_0 : decode cX7_hasClass 0 = .ok (.iload_n 1, 1) := by decide +kernel
theorem dX7_hasClass_1 : decode cX7_hasClass 1 = .ok (.ifCond .lt 15, 3) := by decide +kernel
theorem dX7_hasClass_4 : decode cX7_hasClass 4 = .ok (.iload_n 1, 1) := by decide +kernel
theorem dX7_hasClass_5 : decode cX7_hasClass 5 = .ok (.aload_n 0, 1) := by decide +kernel
theorem dX7_hasClass_6 : decode cX7_hasClass 6 = .ok (.getfield 58, 3) := by decide +kernel
theorem dX7_hasClass_9 : decode cX7_hasClass 9 = .ok (.if_icmp .ge 7, 3) := by decide +kernel
theorem dX7_hasClass_12 : decode cX7_hasClass 12 = .ok (.iconst 1, 1) := by decide +kernel
theorem dX7_hasClass_13 : decode cX7_hasClass 13 = .ok (.goto 4, 3) := by decide +kernel
theorem dX7_hasClass_16 : decode cX7_hasClass 16 = .ok (.iconst 0, 1) := by decide +kernel
theorem dX7_hasClass_17 : decode cX7_hasClass 17 = .ok (.ireturn, 1) := by decide +kernel
theorem dX9_init_0 : decode cX9_init 0 = .ok (.aload_n 0, 1) := by decide +kernel
theorem dX9_init_1 : decode cX9_init 1 = .ok (.invokespecial 3, 3) := by decide +kernel
theorem dX9_init_4 : decode cX9_init 4 = .ok (.aload_n 0, 1) := by decide +kernel
theorem dX9_init_5 : decode cX9_init 5 = .ok (.bipush 10, 2) := by decide +kernel
theorem dX9_init_7 : decode cX9_init 7 = .ok (.newarray .long, 2) := by decide +kernel
theorem dX9_init_9 : decode cX9_init 9 = .ok (.putfield 11, 3) := by decide +kernel
theorem dX9_init_12 : decode cX9_init 12 = .ok (.aload_n 0, 1) := by decide +kernel
theorem dX9_init_13 : decode cX9_init 13 = .ok (.bipush 10, 2) := by decide +kernel
theorem dX9_init_15 : decode cX9_init 15 = .ok (.newarray .int, 2) := by decide +kernel
theorem dX9_init_17 : decode cX9_init 17 = .ok (.putfield 15, 3) := by decide +kernel
theorem dX9_init_20 : decode cX9_init 20 = .ok (.aload_n 0, 1) := by decide +kernel
theorem dX9_init_21 : decode cX9_init 21 = .ok (.bipush 10, 2) := by decide +kernel
theorem dX9_init_23 : decode cX9_init 23 = .ok (.newarray .int, 2) := by decide +kernel
theorem dX9_init_25 : decode cX9_init 25 = .ok (.putfield 19, 3) := by decide +kernel
theorem dX9_init_28 : decode cX9_init 28 = .ok (.aload_n 0, 1) := by decide +kernel
theorem dX9_init_29 : decode cX9_init 29 = .ok (.bipush 10, 2) := by decide +kernel
theorem dX9_init_31 : decode cX9_init 31 = .ok (.newarray .int, 2) := by decide +kernel
theorem dX9_init_33 : decode cX9_init 33 = .ok (.putfield 22, 3) := by decide +kernel
theorem dX9_init_36 : decode cX9_init 36 = .ok (.aload_n 0, 1) := by decide +kernel
theorem dX9_init_37 : decode cX9_init 37 = .ok (.bipush 12, 2) := by decide +kernel
theorem dX9_init_39 : decode cX9_init 39 = .ok (.newarray .int, 2) := by decide +kernel
theorem dX9_init_41 : decode cX9_init 41 = .ok (.putfield 25, 3) := by decide +kernel
theorem dX9_init_44 : decode cX9_init 44 = .ok (.return_, 1) := by decide +kernel
