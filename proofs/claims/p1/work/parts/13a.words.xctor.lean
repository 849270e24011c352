theorem t_183 : Cond.initialized RX2 ∈ lw_g := gg_ (i := 183) (by decide +kernel) (by decide +kernel)
theorem t_189 : Cond.initialized RX5 ∈ lw_g := gg_ (i := 189) (by decide +kernel) (by decide +kernel)
theorem t_190 : Cond.initialized RX0 ∈ lw_g := gg_ (i := 190) (by decide +kernel) (by decide +kernel)
theorem t_191 : Cond.initialized RX7 ∈ lw_g := gg_ (i := 191) (by decide +kernel) (by decide +kernel)
theorem t_194 : Cond.initialized RX10 ∈ lw_g := gg_ (i := 194) (by decide +kernel) (by decide +kernel)
theorem t_195 : Cond.initialized RX1 ∈ lw_g := gg_ (i := 195) (by decide +kernel) (by decide +kernel)
theorem t_196 : Cond.initialized RX3 ∈ lw_g := gg_ (i := 196) (by decide +kernel) (by decide +kernel)
theorem t_197 : Cond.initialized RX4 ∈ lw_g := gg_ (i := 197) (by decide +kernel) (by decide +kernel)
theorem t_211 : Cond.code yX11_init cX11_init 1 none ∈ lw_g := gg_ (i := 211) (by decide +kernel) (by decide +kernel)
theorem t_212 : Cond.methodLink RX11 1 objectInit ∈ lw_g := gg_ (i := 212) (by decide +kernel) (by decide +kernel)
theorem t_215 : Cond.classLink RX11 17 RX2 ∈ lw_g := gg_ (i := 215) (by decide +kernel) (by decide +kernel)
theorem t_216 : Cond.instantiable RX2 16 ∈ lw_g := gg_ (i := 216) (by decide +kernel) (by decide +kernel)
theorem t_217 : Cond.methodLink RX11 19 yX2_init ∈ lw_g := gg_ (i := 217) (by decide +kernel) (by decide +kernel)
theorem t_218 : Cond.instanceMethod yX2_init ∈ lw_g := gg_ (i := 218) (by decide +kernel) (by decide +kernel)
theorem t_219 : Cond.code yX2_init cX2_init 1 none ∈ lw_g := gg_ (i := 219) (by decide +kernel) (by decide +kernel)
theorem t_220 : Cond.methodLink RX2 3 objectInit ∈ lw_g := gg_ (i := 220) (by decide +kernel) (by decide +kernel)
theorem t_221 : Cond.classLink RX2 9 RX8 ∈ lw_g := gg_ (i := 221) (by decide +kernel) (by decide +kernel)
theorem t_222 : Cond.instantiable RX8 10 ∈ lw_g := gg_ (i := 222) (by decide +kernel) (by decide +kernel)
theorem t_223 : Cond.methodLink RX2 11 yX8_init ∈ lw_g := gg_ (i := 223) (by decide +kernel) (by decide +kernel)
theorem t_224 : Cond.instanceMethod yX8_init ∈ lw_g := gg_ (i := 224) (by decide +kernel) (by decide +kernel)
theorem t_322 : Cond.classLink RX2 18 RX5 ∈ lw_g := gg_ (i := 322) (by decide +kernel) (by decide +kernel)
theorem t_323 : Cond.instantiable RX5 9 ∈ lw_g := gg_ (i := 323) (by decide +kernel) (by decide +kernel)
theorem t_324 : Cond.methodLink RX2 20 yX5_init ∈ lw_g := gg_ (i := 324) (by decide +kernel) (by decide +kernel)
theorem t_325 : Cond.instanceMethod yX5_init ∈ lw_g := gg_ (i := 325) (by decide +kernel) (by decide +kernel)
theorem t_326 : Cond.code yX5_init cX5_init 1 none ∈ lw_g := gg_ (i := 326) (by decide +kernel) (by decide +kernel)
theorem t_327 : Cond.methodLink RX5 1 objectInit ∈ lw_g := gg_ (i := 327) (by decide +kernel) (by decide +kernel)
theorem t_334 : Cond.fieldLink RX5 9 "TrialGarden$Scope" "params" "[J" ∈ lw_g := gg_ (i := 334) (by decide +kernel) (by decide +kernel)
theorem t_338 : Cond.fieldLink RX5 15 "TrialGarden$Scope" "locals" "[J" ∈ lw_g := gg_ (i := 338) (by decide +kernel) (by decide +kernel)
theorem t_367 : Cond.classLink RX2 25 RX0 ∈ lw_g := gg_ (i := 367) (by decide +kernel) (by decide +kernel)
theorem t_368 : Cond.instantiable RX0 14 ∈ lw_g := gg_ (i := 368) (by decide +kernel) (by decide +kernel)
theorem t_369 : Cond.methodLink RX2 27 yX0_init ∈ lw_g := gg_ (i := 369) (by decide +kernel) (by decide +kernel)
theorem t_370 : Cond.instanceMethod yX0_init ∈ lw_g := gg_ (i := 370) (by decide +kernel) (by decide +kernel)
theorem t_371 : Cond.code yX0_init cX0_init 3 none ∈ lw_g := gg_ (i := 371) (by decide +kernel) (by decide +kernel)
theorem t_372 : Cond.methodLink RX0 3 objectInit ∈ lw_g := gg_ (i := 372) (by decide +kernel) (by decide +kernel)
theorem t_373 : Cond.fieldLink RX0 9 "TrialGarden$Expressions" "tokens" "LTrialGarden$Tokens;" ∈ lw_g := gg_ (i := 373) (by decide +kernel) (by decide +kernel)
theorem t_374 : Cond.fieldLink RX0 15 "TrialGarden$Expressions" "scope" "LTrialGarden$Scope;" ∈ lw_g := gg_ (i := 374) (by decide +kernel) (by decide +kernel)
theorem t_376 : Cond.fieldLink RX0 19 "TrialGarden$Expressions" "kindOf" "[I" ∈ lw_g := gg_ (i := 376) (by decide +kernel) (by decide +kernel)
theorem t_377 : Cond.fieldLink RX0 23 "TrialGarden$Expressions" "placeOf" "[I" ∈ lw_g := gg_ (i := 377) (by decide +kernel) (by decide +kernel)
theorem t_378 : Cond.fieldLink RX0 26 "TrialGarden$Expressions" "targetOf" "[I" ∈ lw_g := gg_ (i := 378) (by decide +kernel) (by decide +kernel)
theorem t_379 : Cond.fieldLink RX0 29 "TrialGarden$Expressions" "givenOf" "[I" ∈ lw_g := gg_ (i := 379) (by decide +kernel) (by decide +kernel)
theorem t_380 : Cond.fieldLink RX0 32 "TrialGarden$Expressions" "highOf" "[I" ∈ lw_g := gg_ (i := 380) (by decide +kernel) (by decide +kernel)
theorem t_382 : Cond.fieldLink RX0 35 "TrialGarden$Expressions" "heights" "[I" ∈ lw_g := gg_ (i := 382) (by decide +kernel) (by decide +kernel)
theorem t_416 : Cond.fieldLink RX2 12 "TrialGarden$Reader" "tokens" "LTrialGarden$Tokens;" ∈ lw_g := gg_ (i := 416) (by decide +kernel) (by decide +kernel)
theorem t_417 : Cond.fieldLink RX2 21 "TrialGarden$Reader" "scope" "LTrialGarden$Scope;" ∈ lw_g := gg_ (i := 417) (by decide +kernel) (by decide +kernel)
theorem t_418 : Cond.fieldLink RX2 30 "TrialGarden$Reader" "expressions" "LTrialGarden$Expressions;" ∈ lw_g := gg_ (i := 418) (by decide +kernel) (by decide +kernel)
theorem t_423 : Cond.fieldLink RX2 34 "TrialGarden$Reader" "blockKind" "[I" ∈ lw_g := gg_ (i := 423) (by decide +kernel) (by decide +kernel)
theorem t_424 : Cond.fieldLink RX2 38 "TrialGarden$Reader" "blockJump" "[I" ∈ lw_g := gg_ (i := 424) (by decide +kernel) (by decide +kernel)
theorem t_425 : Cond.fieldLink RX2 41 "TrialGarden$Reader" "blockStart" "[I" ∈ lw_g := gg_ (i := 425) (by decide +kernel) (by decide +kernel)
theorem t_426 : Cond.fieldLink RX2 44 "TrialGarden$Reader" "blockLocals" "[I" ∈ lw_g := gg_ (i := 426) (by decide +kernel) (by decide +kernel)
theorem t_465 : Cond.classLink RX11 24 RX7 ∈ lw_g := gg_ (i := 465) (by decide +kernel) (by decide +kernel)
theorem t_466 : Cond.instantiable RX7 19 ∈ lw_g := gg_ (i := 466) (by decide +kernel) (by decide +kernel)
theorem t_467 : Cond.methodLink RX11 26 yX7_init ∈ lw_g := gg_ (i := 467) (by decide +kernel) (by decide +kernel)
theorem t_468 : Cond.instanceMethod yX7_init ∈ lw_g := gg_ (i := 468) (by decide +kernel) (by decide +kernel)
theorem t_723 : Cond.classLink RX11 34 RX10 ∈ lw_g := gg_ (i := 723) (by decide +kernel) (by decide +kernel)
theorem t_724 : Cond.instantiable RX10 10 ∈ lw_g := gg_ (i := 724) (by decide +kernel) (by decide +kernel)
theorem t_725 : Cond.methodLink RX11 36 yX10_init ∈ lw_g := gg_ (i := 725) (by decide +kernel) (by decide +kernel)
theorem t_726 : Cond.instanceMethod yX10_init ∈ lw_g := gg_ (i := 726) (by decide +kernel) (by decide +kernel)
theorem t_727 : Cond.code yX10_init cX10_init 2 none ∈ lw_g := gg_ (i := 727) (by decide +kernel) (by decide +kernel)
theorem t_728 : Cond.methodLink RX10 3 objectInit ∈ lw_g := gg_ (i := 728) (by decide +kernel) (by decide +kernel)
theorem t_729 : Cond.classLink RX10 15 RX1 ∈ lw_g := gg_ (i := 729) (by decide +kernel) (by decide +kernel)
theorem t_730 : Cond.instantiable RX1 18 ∈ lw_g := gg_ (i := 730) (by decide +kernel) (by decide +kernel)
theorem t_731 : Cond.methodLink RX10 17 yX1_init ∈ lw_g := gg_ (i := 731) (by decide +kernel) (by decide +kernel)
theorem t_732 : Cond.instanceMethod yX1_init ∈ lw_g := gg_ (i := 732) (by decide +kernel) (by decide +kernel)
theorem t_733 : Cond.code yX1_init cX1_init 1 none ∈ lw_g := gg_ (i := 733) (by decide +kernel) (by decide +kernel)
theorem t_734 : Cond.methodLink RX1 3 objectInit ∈ lw_g := gg_ (i := 734) (by decide +kernel) (by decide +kernel)
theorem t_737 : Cond.fieldLink RX1 21 "TrialGarden$Machine" "cells" "[I" ∈ lw_g := gg_ (i := 737) (by decide +kernel) (by decide +kernel)
theorem t_738 : Cond.fieldLink RX1 24 "TrialGarden$Machine" "before" "[I" ∈ lw_g := gg_ (i := 738) (by decide +kernel) (by decide +kernel)
theorem t_739 : Cond.fieldLink RX1 27 "TrialGarden$Machine" "given" "[I" ∈ lw_g := gg_ (i := 739) (by decide +kernel) (by decide +kernel)
theorem t_742 : Cond.fieldLink RX1 11 "TrialGarden$Machine" "stack" "[I" ∈ lw_g := gg_ (i := 742) (by decide +kernel) (by decide +kernel)
theorem t_744 : Cond.fieldLink RX1 15 "TrialGarden$Machine" "slots" "[I" ∈ lw_g := gg_ (i := 744) (by decide +kernel) (by decide +kernel)
theorem t_745 : Cond.fieldLink RX1 18 "TrialGarden$Machine" "backs" "[I" ∈ lw_g := gg_ (i := 745) (by decide +kernel) (by decide +kernel)
theorem t_793 : Cond.classLink RX10 22 RX3 ∈ lw_g := gg_ (i := 793) (by decide +kernel) (by decide +kernel)
theorem t_794 : Cond.instantiable RX3 6 ∈ lw_g := gg_ (i := 794) (by decide +kernel) (by decide +kernel)
theorem t_795 : Cond.methodLink RX10 24 yX3_init ∈ lw_g := gg_ (i := 795) (by decide +kernel) (by decide +kernel)
theorem t_796 : Cond.instanceMethod yX3_init ∈ lw_g := gg_ (i := 796) (by decide +kernel) (by decide +kernel)
theorem t_797 : Cond.code yX3_init cX3_init 1 none ∈ lw_g := gg_ (i := 797) (by decide +kernel) (by decide +kernel)
theorem t_798 : Cond.methodLink RX3 7 objectInit ∈ lw_g := gg_ (i := 798) (by decide +kernel) (by decide +kernel)
theorem t_799 : Cond.classLink RX3 20 "[[I" ∈ lw_g := gg_ (i := 799) (by decide +kernel) (by decide +kernel)
theorem t_804 : Cond.fieldLink RX3 13 "TrialGarden$Row" "object" "[I" ∈ lw_g := gg_ (i := 804) (by decide +kernel) (by decide +kernel)
theorem t_807 : Cond.fieldLink RX3 17 "TrialGarden$Row" "member" "[I" ∈ lw_g := gg_ (i := 807) (by decide +kernel) (by decide +kernel)
theorem t_810 : Cond.fieldLink RX3 22 "TrialGarden$Row" "argument" "[[I" ∈ lw_g := gg_ (i := 810) (by decide +kernel) (by decide +kernel)
theorem t_815 : Cond.fieldLink RX3 25 "TrialGarden$Row" "toyOf" "[I" ∈ lw_g := gg_ (i := 815) (by decide +kernel) (by decide +kernel)
theorem t_829 : Cond.classLink RX10 32 RX4 ∈ lw_g := gg_ (i := 829) (by decide +kernel) (by decide +kernel)
theorem t_830 : Cond.instantiable RX4 17 ∈ lw_g := gg_ (i := 830) (by decide +kernel) (by decide +kernel)
theorem t_831 : Cond.methodLink RX10 34 yX4_init ∈ lw_g := gg_ (i := 831) (by decide +kernel) (by decide +kernel)
theorem t_832 : Cond.instanceMethod yX4_init ∈ lw_g := gg_ (i := 832) (by decide +kernel) (by decide +kernel)
theorem t_833 : Cond.code yX4_init cX4_init 1 none ∈ lw_g := gg_ (i := 833) (by decide +kernel) (by decide +kernel)
theorem t_834 : Cond.methodLink RX4 3 objectInit ∈ lw_g := gg_ (i := 834) (by decide +kernel) (by decide +kernel)
theorem t_835 : Cond.classLink RX4 22 "[[I" ∈ lw_g := gg_ (i := 835) (by decide +kernel) (by decide +kernel)
theorem t_839 : Cond.fieldLink RX4 39 "TrialGarden$Run" "brokenMark" "I" ∈ lw_g := gg_ (i := 839) (by decide +kernel) (by decide +kernel)
theorem t_841 : Cond.fieldLink RX4 43 "TrialGarden$Run" "brokenObject" "I" ∈ lw_g := gg_ (i := 841) (by decide +kernel) (by decide +kernel)
theorem t_843 : Cond.fieldLink RX4 46 "TrialGarden$Run" "changedObject" "I" ∈ lw_g := gg_ (i := 843) (by decide +kernel) (by decide +kernel)
theorem t_845 : Cond.fieldLink RX4 49 "TrialGarden$Run" "changedCell" "I" ∈ lw_g := gg_ (i := 845) (by decide +kernel) (by decide +kernel)
theorem t_853 : Cond.fieldLink RX4 11 "TrialGarden$Run" "toyOf" "[I" ∈ lw_g := gg_ (i := 853) (by decide +kernel) (by decide +kernel)
theorem t_856 : Cond.fieldLink RX4 17 "TrialGarden$Run" "besideOf" "[I" ∈ lw_g := gg_ (i := 856) (by decide +kernel) (by decide +kernel)
theorem t_859 : Cond.fieldLink RX4 24 "TrialGarden$Run" "cells" "[[I" ∈ lw_g := gg_ (i := 859) (by decide +kernel) (by decide +kernel)
theorem t_862 : Cond.fieldLink RX4 27 "TrialGarden$Run" "besides" "[[I" ∈ lw_g := gg_ (i := 862) (by decide +kernel) (by decide +kernel)
theorem t_865 : Cond.fieldLink RX4 30 "TrialGarden$Run" "before" "[I" ∈ lw_g := gg_ (i := 865) (by decide +kernel) (by decide +kernel)
theorem t_867 : Cond.fieldLink RX4 33 "TrialGarden$Run" "gave" "[I" ∈ lw_g := gg_ (i := 867) (by decide +kernel) (by decide +kernel)
theorem t_870 : Cond.fieldLink RX4 36 "TrialGarden$Run" "done" "[I" ∈ lw_g := gg_ (i := 870) (by decide +kernel) (by decide +kernel)
theorem t_912 : Cond.fieldLink RX10 9 "TrialGarden$Trial" "text" "LTrialGarden$Text;" ∈ lw_g := gg_ (i := 912) (by decide +kernel) (by decide +kernel)
theorem t_913 : Cond.fieldLink RX10 18 "TrialGarden$Trial" "machine" "LTrialGarden$Machine;" ∈ lw_g := gg_ (i := 913) (by decide +kernel) (by decide +kernel)
theorem t_914 : Cond.fieldLink RX10 25 "TrialGarden$Trial" "row" "LTrialGarden$Row;" ∈ lw_g := gg_ (i := 914) (by decide +kernel) (by decide +kernel)
theorem t_916 : Cond.fieldLink RX10 29 "TrialGarden$Trial" "spareRow" "LTrialGarden$Row;" ∈ lw_g := gg_ (i := 916) (by decide +kernel) (by decide +kernel)
theorem t_917 : Cond.fieldLink RX10 35 "TrialGarden$Trial" "latest" "LTrialGarden$Run;" ∈ lw_g := gg_ (i := 917) (by decide +kernel) (by decide +kernel)
theorem t_919 : Cond.fieldLink RX10 39 "TrialGarden$Trial" "spareRun" "LTrialGarden$Run;" ∈ lw_g := gg_ (i := 919) (by decide +kernel) (by decide +kernel)
theorem t_948 : Cond.fieldLink RX11 9 "TrialGarden" "tape" "[B" ∈ lw_g := gg_ (i := 948) (by decide +kernel) (by decide +kernel)
theorem t_949 : Cond.fieldLink RX11 13 "TrialGarden" "tapeLength" "I" ∈ lw_g := gg_ (i := 949) (by decide +kernel) (by decide +kernel)
theorem t_950 : Cond.fieldLink RX11 20 "TrialGarden" "reader" "LTrialGarden$Reader;" ∈ lw_g := gg_ (i := 950) (by decide +kernel) (by decide +kernel)
theorem t_951 : Cond.fieldLink RX11 39 "TrialGarden" "trial" "LTrialGarden$Trial;" ∈ lw_g := gg_ (i := 951) (by decide +kernel) (by decide +kernel)
theorem t_952 : Cond.fieldLink RX11 27 "TrialGarden" "text" "LTrialGarden$Text;" ∈ lw_g := gg_ (i := 952) (by decide +kernel) (by decide +kernel)
theorem t_953 : Cond.fieldLink RX11 31 "TrialGarden" "spare" "LTrialGarden$Text;" ∈ lw_g := gg_ (i := 953) (by decide +kernel) (by decide +kernel)
theorem t_954 : Cond.fieldLink RX11 43 "TrialGarden" "faultKind" "I" ∈ lw_g := gg_ (i := 954) (by decide +kernel) (by decide +kernel)
theorem t_955 : Cond.fieldLink RX11 46 "TrialGarden" "faultPlace" "I" ∈ lw_g := gg_ (i := 955) (by decide +kernel) (by decide +kernel)
theorem dX0_init_0 : decode cX0_init 0 = .ok (.aload_n 0, 1) := by decide +kernel
theorem dX0_init_1 : decode cX0_init 1 = .ok (.invokespecial 3, 3) := by decide +kernel
theorem dX0_init_4 : decode cX0_init 4 = .ok (.aload_n 0, 1) := by decide +kernel
theorem dX0_init_5 : decode cX0_init 5 = .ok (.aload_n 1, 1) := by decide +kernel
theorem dX0_init_6 : decode cX0_init 6 = .ok (.putfield 9, 3) := by decide +kernel
theorem dX0_init_9 : decode cX0_init 9 = .ok (.aload_n 0, 1) := by decide +kernel
theorem dX0_init_10 : decode cX0_init 10 = .ok (.aload_n 2, 1) := by decide +kernel
theorem dX0_init_11 : decode cX0_init 11 = .ok (.putfield 15, 3) := by decide +kernel
theorem dX0_init_14 : decode cX0_init 14 = .ok (.aload_n 0, 1) := by decide +kernel
theorem dX0_init_15 : decode cX0_init 15 = .ok (.sipush 300, 3) := by decide +kernel
theorem dX0_init_18 : decode cX0_init 18 = .ok (.newarray .int, 2) := by decide +kernel
theorem dX0_init_20 : decode cX0_init 20 = .ok (.putfield 19, 3) := by decide +kernel
theorem dX0_init_23 : decode cX0_init 23 = .ok (.aload_n 0, 1) := by decide +kernel
theorem dX0_init_24 : decode cX0_init 24 = .ok (.sipush 300, 3) := by decide +kernel
theorem dX0_init_27 : decode cX0_init 27 = .ok (.newarray .int, 2) := by decide +kernel
theorem dX0_init_29 : decode cX0_init 29 = .ok (.putfield 23, 3) := by decide +kernel
theorem dX0_init_32 : decode cX0_init 32 = .ok (.aload_n 0, 1) := by decide +kernel
theorem dX0_init_33 : decode cX0_init 33 = .ok (.sipush 300, 3) := by decide +kernel
theorem dX0_init_36 : decode cX0_init 36 = .ok (.newarray .int, 2) := by decide +kernel
theorem dX0_init_38 : decode cX0_init 38 = .ok (.putfield 26, 3) := by decide +kernel
theorem dX0_init_41 : decode cX0_init 41 = .ok (.aload_n 0, 1) := by decide +kernel
theorem dX0_init_42 : decode cX0_init 42 = .ok (.sipush 300, 3) := by decide +kernel
theorem dX0_init_45 : decode cX0_init 45 = .ok (.newarray .int, 2) := by decide +kernel
theorem dX0_init_47 : decode cX0_init 47 = .ok (.putfield 29, 3) := by decide +kernel
theorem dX0_init_50 : decode cX0_init 50 = .ok (.aload_n 0, 1) := by decide +kernel
theorem dX0_init_51 : decode cX0_init 51 = .ok (.sipush 300, 3) := by decide +kernel
theorem dX0_init_54 : decode cX0_init 54 = .ok (.newarray .int, 2) := by decide +kernel
theorem dX0_init_56 : decode cX0_init 56 = .ok (.putfield 32, 3) := by decide +kernel
theorem dX0_init_59 : decode cX0_init 59 = .ok (.aload_n 0, 1) := by decide +kernel
theorem dX0_init_60 : decode cX0_init 60 = .ok (.sipush 300, 3) := by decide +kernel
theorem dX0_init_63 : decode cX0_init 63 = .ok (.newarray .int, 2) := by decide +kernel
theorem dX0_init_65 : decode cX0_init 65 = .ok (.putfield 35, 3) := by decide +kernel
theorem dX0_init_68 : decode cX0_init 68 = .ok (.return_, 1) := by decide +kernel
theorem dX1_init_0 : decode cX1_init 0 = .ok (.aload_n 0, 1) := by decide +kernel
theorem dX1_init_1 : decode cX1_init 1 = .ok (.invokespecial 3, 3) := by decide +kernel
theorem dX1_init_4 : decode cX1_init 4 = .ok (.aload_n 0, 1) := by decide +kernel
theorem dX1_init_5 : decode cX1_init 5 = .ok (.sipush 700, 3) := by decide +kernel
theorem dX1_init_8 : decode cX1_init 8 = .ok (.newarray .int, 2) := by decide +kernel
theorem dX1_init_10 : decode cX1_init 10 = .ok (.putfield 11, 3) := by decide +kernel
theorem dX1_init_13 : decode cX1_init 13 = .ok (.aload_n 0, 1) := by decide +kernel
theorem dX1_init_14 : decode cX1_init 14 = .ok (.sipush 231, 3) := by decide +kernel
theorem dX1_init_17 : decode cX1_init 17 = .ok (.newarray .int, 2) := by decide +kernel
theorem dX1_init_19 : decode cX1_init 19 = .ok (.putfield 15, 3) := by decide +kernel
theorem dX1_init_22 : decode cX1_init 22 = .ok (.aload_n 0, 1) := by decide +kernel
theorem dX1_init_23 : decode cX1_init 23 = .ok (.bipush 21, 2) := by decide +kernel
theorem dX1_init_25 : decode cX1_init 25 = .ok (.newarray .int, 2) := by decide +kernel
theorem dX1_init_27 : decode cX1_init 27 = .ok (.putfield 18, 3) := by decide +kernel
theorem dX1_init_30 : decode cX1_init 30 = .ok (.aload_n 0, 1) := by decide +kernel
theorem dX1_init_31 : decode cX1_init 31 = .ok (.aload_n 0, 1) := by decide +kernel
theorem dX1_init_32 : decode cX1_init 32 = .ok (.getfield 11, 3) := by decide +kernel
theorem dX1_init_35 : decode cX1_init 35 = .ok (.putfield 21, 3) := by decide +kernel
theorem dX1_init_38 : decode cX1_init 38 = .ok (.aload_n 0, 1) := by decide +kernel
theorem dX1_init_39 : decode cX1_init 39 = .ok (.aload_n 0, 1) := by decide +kernel
theorem dX1_init_40 : decode cX1_init 40 = .ok (.getfield 11, 3) := by decide +kernel
theorem dX1_init_43 : decode cX1_init 43 = .ok (.putfield 24, 3) := by decide +kernel
theorem dX1_init_46 : decode cX1_init 46 = .ok (.aload_n 0, 1) := by decide +kernel
theorem dX1_init_47 : decode cX1_init 47 = .ok (.aload_n 0, 1) := by decide +kernel
theorem dX1_init_48 : decode cX1_init 48 = .ok (.getfield 11, 3) := by decide +kernel
theorem dX1_init_51 : decode cX1_init 51 = .ok (.putfield 27, 3) := by decide +kernel
theorem dX1_init_54 : decode cX1_init 54 = .ok (.return_, 1) := by decide +kernel
theorem dX2_init_0 : decode cX2_init 0 = .ok (.aload_n 0, 1) := by decide +kernel
theorem dX2_init_1 : decode cX2_init 1 = .ok (.invokespecial 3, 3) := by decide +kernel
theorem dX2_init_4 : decode cX2_init 4 = .ok (.aload_n 0, 1) := by decide +kernel
theorem dX2_init_5 : decode cX2_init 5 = .ok (.new 9, 3) := by decide +kernel
theorem dX2_init_8 : decode cX2_init 8 = .ok (.dup, 1) := by decide +kernel
theorem dX2_init_9 : decode cX2_init 9 = .ok (.invokespecial 11, 3) := by decide +kernel
theorem dX2_init_12 : decode cX2_init 12 = .ok (.putfield 12, 3) := by decide +kernel
theorem dX2_init_15 : decode cX2_init 15 = .ok (.aload_n 0, 1) := by decide +kernel
theorem dX2_init_16 : decode cX2_init 16 = .ok (.new 18, 3) := by decide +kernel
theorem dX2_init_19 : decode cX2_init 19 = .ok (.dup, 1) := by decide +kernel
theorem dX2_init_20 : decode cX2_init 20 = .ok (.invokespecial 20, 3) := by decide +kernel
theorem dX2_init_23 : decode cX2_init 23 = .ok (.putfield 21, 3) := by decide +kernel
theorem dX2_init_26 : decode cX2_init 26 = .ok (.aload_n 0, 1) := by decide +kernel
theorem dX2_init_27 : decode cX2_init 27 = .ok (.new 25, 3) := by decide +kernel
theorem dX2_init_30 : decode cX2_init 30 = .ok (.dup, 1) := by decide +kernel
theorem dX2_init_31 : decode cX2_init 31 = .ok (.aload_n 0, 1) := by decide +kernel
theorem dX2_init_32 : decode cX2_init 32 = .ok (.getfield 12, 3) := by decide +kernel
theorem dX2_init_35 : decode cX2_init 35 = .ok (.aload_n 0, 1) := by decide +kernel
theorem dX2_init_36 : decode cX2_init 36 = .ok (.getfield 21, 3) := by decide +kernel
theorem dX2_init_39 : decode cX2_init 39 = .ok (.invokespecial 27, 3) := by decide +kernel
theorem dX2_init_42 : decode cX2_init 42 = .ok (.putfield 30, 3) := by decide +kernel
theorem dX2_init_45 : decode cX2_init 45 = .ok (.aload_n 0, 1) := by decide +kernel
theorem dX2_init_46 : decode cX2_init 46 = .ok (.bipush 8, 2) := by decide +kernel
theorem dX2_init_48 : decode cX2_init 48 = .ok (.newarray .int, 2) := by decide +kernel
theorem dX2_init_50 : decode cX2_init 50 = .ok (.putfield 34, 3) := by decide +kernel
theorem dX2_init_53 : decode cX2_init 53 = .ok (.aload_n 0, 1) := by decide +kernel
theorem dX2_init_54 : decode cX2_init 54 = .ok (.bipush 8, 2) := by decide +kernel
theorem dX2_init_56 : decode cX2_init 56 = .ok (.newarray .int, 2) := by decide +kernel
theorem dX2_init_58 : decode cX2_init 58 = .ok (.putfield 38, 3) := by decide +kernel
theorem dX2_init_61 : decode cX2_init 61 = .ok (.aload_n 0, 1) := by decide +kernel
theorem dX2_init_62 : decode cX2_init 62 = .ok (.bipush 8, 2) := by decide +kernel
theorem dX2_init_64 : decode cX2_init 64 = .ok (.newarray .int, 2) := by decide +kernel
theorem dX2_init_66 : decode cX2_init 66 = .ok (.putfield 41, 3) := by decide +kernel
theorem dX2_init_69 : decode cX2_init 69 = .ok (.aload_n 0, 1) := by decide +kernel
theorem dX2_init_70 : decode cX2_init 70 = .ok (.bipush 8, 2) := by decide +kernel
theorem dX2_init_72 : decode cX2_init 72 = .ok (.newarray .int, 2) := by decide +kernel
theorem dX2_init_74 : decode cX2_init 74 = .ok (.putfield 44, 3) := by decide +kernel
theorem dX2_init_77 : decode cX2_init 77 = .ok (.return_, 1) := by decide +kernel
theorem dX3_init_0 : decode cX3_init 0 = .ok (.aload_n 0, 1) := by decide +kernel
theorem dX3_init_1 : decode cX3_init 1 = .ok (.invokespecial 7, 3) := by decide +kernel
theorem dX3_init_4 : decode cX3_init 4 = .ok (.aload_n 0, 1) := by decide +kernel
theorem dX3_init_5 : decode cX3_init 5 = .ok (.bipush 10, 2) := by decide +kernel
theorem dX3_init_7 : decode cX3_init 7 = .ok (.newarray .int, 2) := by decide +kernel
theorem dX3_init_9 : decode cX3_init 9 = .ok (.putfield 13, 3) := by decide +kernel
theorem dX3_init_12 : decode cX3_init 12 = .ok (.aload_n 0, 1) := by decide +kernel
theorem dX3_init_13 : decode cX3_init 13 = .ok (.bipush 10, 2) := by decide +kernel
theorem dX3_init_15 : decode cX3_init 15 = .ok (.newarray .int, 2) := by decide +kernel
theorem dX3_init_17 : decode cX3_init 17 = .ok (.putfield 17, 3) := by decide +kernel
theorem dX3_init_20 : decode cX3_init 20 = .ok (.aload_n 0, 1) := by decide +kernel
theorem dX3_init_21 : decode cX3_init 21 = .ok (.bipush 10, 2) := by decide +kernel
theorem dX3_init_23 : decode cX3_init 23 = .ok (.iconst 3, 1) := by decide +kernel
theorem dX3_init_24 : decode cX3_init 24 = .ok (.multianewarray 20 2, 4) := by decide +kernel
theorem dX3_init_28 : decode cX3_init 28 = .ok (.putfield 22, 3) := by decide +kernel
theorem dX3_init_31 : decode cX3_init 31 = .ok (.aload_n 0, 1) := by decide +kernel
theorem dX3_init_32 : decode cX3_init 32 = .ok (.iconst 3, 1) := by decide +kernel
theorem dX3_init_33 : decode cX3_init 33 = .ok (.newarray .int, 2) := by decide +kernel
theorem dX3_init_35 : decode cX3_init 35 = .ok (.putfield 25, 3) := by decide +kernel
theorem dX3_init_38 : decode cX3_init 38 = .ok (.return_, 1) := by decide +kernel
theorem dX4_init_0 : decode cX4_init 0 = .ok (.aload_n 0, 1) := by decide +kernel
theorem dX4_init_1 : decode cX4_init 1 = .ok (.invokespecial 3, 3) := by decide +kernel
theorem dX4_init_4 : decode cX4_init 4 = .ok (.aload_n 0, 1) := by decide +kernel
theorem dX4_init_5 : decode cX4_init 5 = .ok (.iconst 3, 1) := by decide +kernel
theorem dX4_init_6 : decode cX4_init 6 = .ok (.newarray .int, 2) := by decide +kernel
theorem dX4_init_8 : decode cX4_init 8 = .ok (.putfield 11, 3) := by decide +kernel
theorem dX4_init_11 : decode cX4_init 11 = .ok (.aload_n 0, 1) := by decide +kernel
theorem dX4_init_12 : decode cX4_init 12 = .ok (.iconst 3, 1) := by decide +kernel
theorem dX4_init_13 : decode cX4_init 13 = .ok (.newarray .int, 2) := by decide +kernel
theorem dX4_init_15 : decode cX4_init 15 = .ok (.putfield 17, 3) := by decide +kernel
theorem dX4_init_18 : decode cX4_init 18 = .ok (.aload_n 0, 1) := by decide +kernel
theorem dX4_init_19 : decode cX4_init 19 = .ok (.iconst 3, 1) := by decide +kernel
theorem dX4_init_20 : decode cX4_init 20 = .ok (.bipush 24, 2) := by decide +kernel
theorem dX4_init_22 : decode cX4_init 22 = .ok (.multianewarray 22 2, 4) := by decide +kernel
theorem dX4_init_26 : decode cX4_init 26 = .ok (.putfield 24, 3) := by decide +kernel
theorem dX4_init_29 : decode cX4_init 29 = .ok (.aload_n 0, 1) := by decide +kernel
theorem dX4_init_30 : decode cX4_init 30 = .ok (.iconst 3, 1) := by decide +kernel
theorem dX4_init_31 : decode cX4_init 31 = .ok (.bipush 24, 2) := by decide +kernel
theorem dX4_init_33 : decode cX4_init 33 = .ok (.multianewarray 22 2, 4) := by decide +kernel
theorem dX4_init_37 : decode cX4_init 37 = .ok (.putfield 27, 3) := by decide +kernel
theorem dX4_init_40 : decode cX4_init 40 = .ok (.aload_n 0, 1) := by decide +kernel
theorem dX4_init_41 : decode cX4_init 41 = .ok (.bipush 24, 2) := by decide +kernel
theorem dX4_init_43 : decode cX4_init 43 = .ok (.newarray .int, 2) := by decide +kernel
theorem dX4_init_45 : decode cX4_init 45 = .ok (.putfield 30, 3) := by decide +kernel
theorem dX4_init_48 : decode cX4_init 48 = .ok (.aload_n 0, 1) := by decide +kernel
theorem dX4_init_49 : decode cX4_init 49 = .ok (.bipush 10, 2) := by decide +kernel
theorem dX4_init_51 : decode cX4_init 51 = .ok (.newarray .int, 2) := by decide +kernel
theorem dX4_init_53 : decode cX4_init 53 = .ok (.putfield 33, 3) := by decide +kernel
theorem dX4_init_56 : decode cX4_init 56 = .ok (.aload_n 0, 1) := by decide +kernel
theorem dX4_init_57 : decode cX4_init 57 = .ok (.bipush 10, 2) := by decide +kernel
theorem dX4_init_59 : decode cX4_init 59 = .ok (.newarray .int, 2) := by decide +kernel
theorem dX4_init_61 : decode cX4_init 61 = .ok (.putfield 36, 3) := by decide +kernel
theorem dX4_init_64 : decode cX4_init 64 = .ok (.aload_n 0, 1) := by decide +kernel
theorem dX4_init_65 : decode cX4_init 65 = .ok (.iconst (-1), 1) := by decide +kernel
theorem dX4_init_66 : decode cX4_init 66 = .ok (.putfield 39, 3) := by decide +kernel
theorem dX4_init_69 : decode cX4_init 69 = .ok (.aload_n 0, 1) := by decide +kernel
theorem dX4_init_70 : decode cX4_init 70 = .ok (.iconst (-1), 1) := by decide +kernel
theorem dX4_init_71 : decode cX4_init 71 = .ok (.putfield 43, 3) := by decide +kernel
theorem dX4_init_74 : decode cX4_init 74 = .ok (.aload_n 0, 1) := by decide +kernel
theorem dX4_init_75 : decode cX4_init 75 = .ok (.iconst (-1), 1) := by decide +kernel
theorem dX4_init_76 : decode cX4_init 76 = .ok (.putfield 46, 3) := by decide +kernel
theorem dX4_init_79 : decode cX4_init 79 = .ok (.aload_n 0, 1) := by decide +kernel
theorem dX4_init_80 : decode cX4_init 80 = .ok (.iconst (-1), 1) := by decide +kernel
theorem dX4_init_81 : decode cX4_init 81 = .ok (.putfield 49, 3) := by decide +kernel
theorem dX4_init_84 : decode cX4_init 84 = .ok (.return_, 1) := by decide +kernel
theorem dX5_init_0 : decode cX5_init 0 = .ok (.aload_n 0, 1) := by decide +kernel
theorem dX5_init_1 : decode cX5_init 1 = .ok (.invokespecial 1, 3) := by decide +kernel
theorem dX5_init_4 : decode cX5_init 4 = .ok (.aload_n 0, 1) := by decide +kernel
theorem dX5_init_5 : decode cX5_init 5 = .ok (.iconst 3, 1) := by decide +kernel
theorem dX5_init_6 : decode cX5_init 6 = .ok (.newarray .long, 2) := by decide +kernel
theorem dX5_init_8 : decode cX5_init 8 = .ok (.putfield 9, 3) := by decide +kernel
theorem dX5_init_11 : decode cX5_init 11 = .ok (.aload_n 0, 1) := by decide +kernel
theorem dX5_init_12 : decode cX5_init 12 = .ok (.bipush 8, 2) := by decide +kernel
theorem dX5_init_14 : decode cX5_init 14 = .ok (.newarray .long, 2) := by decide +kernel
theorem dX5_init_16 : decode cX5_init 16 = .ok (.putfield 15, 3) := by decide +kernel
theorem dX5_init_19 : decode cX5_init 19 = .ok (.return_, 1) := by decide +kernel
theorem dX10_init_0 : decode cX10_init 0 = .ok (.aload_n 0, 1) := by decide +kernel
theorem dX10_init_1 : decode cX10_init 1 = .ok (.invokespecial 3, 3) := by decide +kernel
theorem dX10_init_4 : decode cX10_init 4 = .ok (.aload_n 0, 1) := by decide +kernel
theorem dX10_init_5 : decode cX10_init 5 = .ok (.aload_n 1, 1) := by decide +kernel
theorem dX10_init_6 : decode cX10_init 6 = .ok (.putfield 9, 3) := by decide +kernel
theorem dX10_init_9 : decode cX10_init 9 = .ok (.aload_n 0, 1) := by decide +kernel
theorem dX10_init_10 : decode cX10_init 10 = .ok (.new 15, 3) := by decide +kernel
theorem dX10_init_13 : decode cX10_init 13 = .ok (.dup, 1) := by decide +kernel
theorem dX10_init_14 : decode cX10_init 14 = .ok (.invokespecial 17, 3) := by decide +kernel
theorem dX10_init_17 : decode cX10_init 17 = .ok (.putfield 18, 3) := by decide +kernel
theorem dX10_init_20 : decode cX10_init 20 = .ok (.aload_n 0, 1) := by decide +kernel
theorem dX10_init_21 : decode cX10_init 21 = .ok (.new 22, 3) := by decide +kernel
theorem dX10_init_24 : decode cX10_init 24 = .ok (.dup, 1) := by decide +kernel
theorem dX10_init_25 : decode cX10_init 25 = .ok (.invokespecial 24, 3) := by decide +kernel
theorem dX10_init_28 : decode cX10_init 28 = .ok (.putfield 25, 3) := by decide +kernel
theorem dX10_init_31 : decode cX10_init 31 = .ok (.aload_n 0, 1) := by decide +kernel
theorem dX10_init_32 : decode cX10_init 32 = .ok (.new 22, 3) := by decide +kernel
theorem dX10_init_35 : decode cX10_init 35 = .ok (.dup, 1) := by decide +kernel
theorem dX10_init_36 : decode cX10_init 36 = .ok (.invokespecial 24, 3) := by decide +kernel
theorem dX10_init_39 : decode cX10_init 39 = .ok (.putfield 29, 3) := by decide +kernel
theorem dX10_init_42 : decode cX10_init 42 = .ok (.aload_n 0, 1) := by decide +kernel
theorem dX10_init_43 : decode cX10_init 43 = .ok (.new 32, 3) := by decide +kernel
theorem dX10_init_46 : decode cX10_init 46 = .ok (.dup, 1) := by decide +kernel
theorem dX10_init_47 : decode cX10_init 47 = .ok (.invokespecial 34, 3) := by decide +kernel
theorem dX10_init_50 : decode cX10_init 50 = .ok (.putfield 35, 3) := by decide +kernel
theorem dX10_init_53 : decode cX10_init 53 = .ok (.aload_n 0, 1) := by decide +kernel
theorem dX10_init_54 : decode cX10_init 54 = .ok (.new 32, 3) := by decide +kernel
theorem dX10_init_57 : decode cX10_init 57 = .ok (.dup, 1) := by decide +kernel
theorem dX10_init_58 : decode cX10_init 58 = .ok (.invokespecial 34, 3) := by decide +kernel
theorem dX10_init_61 : decode cX10_init 61 = .ok (.putfield 39, 3) := by decide +kernel
theorem dX10_init_64 : decode cX10_init 64 = .ok (.return_, 1) := by decide +kernel
theorem dX11_init_0 : decode cX11_init 0 = .ok (.aload_n 0, 1) := by decide +kernel
theorem dX11_init_1 : decode cX11_init 1 = .ok (.invokespecial 1, 3) := by decide +kernel
theorem dX11_init_4 : decode cX11_init 4 = .ok (.aload_n 0, 1) := by decide +kernel
theorem dX11_init_5 : decode cX11_init 5 = .ok (.sipush 4000, 3) := by decide +kernel
theorem dX11_init_8 : decode cX11_init 8 = .ok (.newarray .byte, 2) := by decide +kernel
theorem dX11_init_10 : decode cX11_init 10 = .ok (.putfield 9, 3) := by decide +kernel
theorem dX11_init_13 : decode cX11_init 13 = .ok (.aload_n 0, 1) := by decide +kernel
theorem dX11_init_14 : decode cX11_init 14 = .ok (.iconst 0, 1) := by decide +kernel
theorem dX11_init_15 : decode cX11_init 15 = .ok (.putfield 13, 3) := by decide +kernel
theorem dX11_init_18 : decode cX11_init 18 = .ok (.aload_n 0, 1) := by decide +kernel
theorem dX11_init_19 : decode cX11_init 19 = .ok (.new 17, 3) := by decide +kernel
theorem dX11_init_22 : decode cX11_init 22 = .ok (.dup, 1) := by decide +kernel
theorem dX11_init_23 : decode cX11_init 23 = .ok (.invokespecial 19, 3) := by decide +kernel
theorem dX11_init_26 : decode cX11_init 26 = .ok (.putfield 20, 3) := by decide +kernel
theorem dX11_init_29 : decode cX11_init 29 = .ok (.aload_n 0, 1) := by decide +kernel
theorem dX11_init_30 : decode cX11_init 30 = .ok (.new 24, 3) := by decide +kernel
theorem dX11_init_33 : decode cX11_init 33 = .ok (.dup, 1) := by decide +kernel
theorem dX11_init_34 : decode cX11_init 34 = .ok (.invokespecial 26, 3) := by decide +kernel
theorem dX11_init_37 : decode cX11_init 37 = .ok (.putfield 27, 3) := by decide +kernel
theorem dX11_init_40 : decode cX11_init 40 = .ok (.aload_n 0, 1) := by decide +kernel
theorem dX11_init_41 : decode cX11_init 41 = .ok (.new 24, 3) := by decide +kernel
theorem dX11_init_44 : decode cX11_init 44 = .ok (.dup, 1) := by decide +kernel
theorem dX11_init_45 : decode cX11_init 45 = .ok (.invokespecial 26, 3) := by decide +kernel
theorem dX11_init_48 : decode cX11_init 48 = .ok (.putfield 31, 3) := by decide +kernel
theorem dX11_init_51 : decode cX11_init 51 = .ok (.aload_n 0, 1) := by decide +kernel
theorem dX11_init_52 : decode cX11_init 52 = .ok (.new 34, 3) := by decide +kernel
theorem dX11_init_55 : decode cX11_init 55 = .ok (.dup, 1) := by decide +kernel
theorem dX11_init_56 : decode cX11_init 56 = .ok (.aload_n 0, 1) := by decide +kernel
theorem dX11_init_57 : decode cX11_init 57 = .ok (.getfield 27, 3) := by decide +kernel
theorem dX11_init_60 : decode cX11_init 60 = .ok (.invokespecial 36, 3) := by decide +kernel
theorem dX11_init_63 : decode cX11_init 63 = .ok (.putfield 39, 3) := by decide +kernel
theorem dX11_init_66 : decode cX11_init 66 = .ok (.aload_n 0, 1) := by decide +kernel
theorem dX11_init_67 : decode cX11_init 67 = .ok (.iconst 0, 1) := by decide +kernel
theorem dX11_init_68 : decode cX11_init 68 = .ok (.putfield 43, 3) := by decide +kernel
theorem dX11_init_71 : decode cX11_init 71 = .ok (.aload_n 0, 1) := by decide +kernel
theorem dX11_init_72 : decode cX11_init 72 = .ok (.iconst (-1), 1) := by decide +kernel
theorem dX11_init_73 : decode cX11_init 73 = .ok (.putfield 46, 3) := by decide +kernel
theorem dX11_init_76 : decode cX11_init 76 = .ok (.return_, 1) := by decide +kernel
