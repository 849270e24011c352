theorem t_2 : Cond.selects RX8 yX8_behindBlanks yX8_behindBlanks ∈ lw_g := gg_ (i := 2) (by decide +kernel) (by decide +kernel)
theorem t_3 : Cond.selects RX8 yX8_byteAt yX8_byteAt ∈ lw_g := gg_ (i := 3) (by decide +kernel) (by decide +kernel)
theorem t_4 : Cond.selects RX8 yX8_takeToken yX8_takeToken ∈ lw_g := gg_ (i := 4) (by decide +kernel) (by decide +kernel)
theorem t_7 : Cond.selects RX2 yX2_readClassHead yX2_readClassHead ∈ lw_g := gg_ (i := 7) (by decide +kernel) (by decide +kernel)
theorem t_204 : Cond.initialized "java/lang/Math" ∈ lw_g := gg_ (i := 204) (by decide +kernel) (by decide +kernel)
theorem t_290 : Cond.fieldLink RX8 63 "TrialGarden$Tokens" "length" "I" ∈ lw_g := gg_ (i := 290) (by decide +kernel) (by decide +kernel)
theorem t_291 : Cond.fieldLink RX8 65 "TrialGarden$Tokens" "at" "I" ∈ lw_g := gg_ (i := 291) (by decide +kernel) (by decide +kernel)
theorem t_292 : Cond.fieldLink RX8 80 "TrialGarden$Tokens" "bracketBehindAll" "Z" ∈ lw_g := gg_ (i := 292) (by decide +kernel) (by decide +kernel)
theorem t_294 : Cond.fieldLink RX2 93 "TrialGarden$Tokens" "faultKind" "I" ∈ lw_g := gg_ (i := 294) (by decide +kernel) (by decide +kernel)
theorem t_295 : Cond.fieldLink RX8 68 "TrialGarden$Tokens" "faultKind" "I" ∈ lw_g := gg_ (i := 295) (by decide +kernel) (by decide +kernel)
theorem t_297 : Cond.fieldLink RX2 96 "TrialGarden$Tokens" "faultPlace" "I" ∈ lw_g := gg_ (i := 297) (by decide +kernel) (by decide +kernel)
theorem t_329 : Cond.fieldLink RX2 76 "TrialGarden$Scope" "text" "LTrialGarden$Text;" ∈ lw_g := gg_ (i := 329) (by decide +kernel) (by decide +kernel)
theorem t_330 : Cond.fieldLink RX2 77 "TrialGarden$Scope" "toy" "LTrialGarden$Toy;" ∈ lw_g := gg_ (i := 330) (by decide +kernel) (by decide +kernel)
theorem t_336 : Cond.fieldLink RX5 18 "TrialGarden$Scope" "paramCount" "I" ∈ lw_g := gg_ (i := 336) (by decide +kernel) (by decide +kernel)
theorem t_340 : Cond.fieldLink RX5 22 "TrialGarden$Scope" "localCount" "I" ∈ lw_g := gg_ (i := 340) (by decide +kernel) (by decide +kernel)
theorem t_342 : Cond.fieldLink RX5 25 "TrialGarden$Scope" "asking" "Z" ∈ lw_g := gg_ (i := 342) (by decide +kernel) (by decide +kernel)
theorem t_345 : Cond.fieldLink RX5 29 "TrialGarden$Scope" "inGives" "Z" ∈ lw_g := gg_ (i := 345) (by decide +kernel) (by decide +kernel)
theorem t_419 : Cond.fieldLink RX2 51 "TrialGarden$Reader" "text" "LTrialGarden$Text;" ∈ lw_g := gg_ (i := 419) (by decide +kernel) (by decide +kernel)
theorem t_420 : Cond.fieldLink RX2 64 "TrialGarden$Reader" "toy" "LTrialGarden$Toy;" ∈ lw_g := gg_ (i := 420) (by decide +kernel) (by decide +kernel)
theorem t_421 : Cond.fieldLink RX2 72 "TrialGarden$Reader" "telling" "LTrialGarden$Telling;" ∈ lw_g := gg_ (i := 421) (by decide +kernel) (by decide +kernel)
theorem t_427 : Cond.fieldLink RX2 81 "TrialGarden$Reader" "blocks" "I" ∈ lw_g := gg_ (i := 427) (by decide +kernel) (by decide +kernel)
theorem t_621 : Cond.fieldLink RX2 60 "TrialGarden$Text" "toys" "[LTrialGarden$Toy;" ∈ lw_g := gg_ (i := 621) (by decide +kernel) (by decide +kernel)
theorem t_630 : Cond.fieldLink RX2 68 "TrialGarden$Text" "tellings" "[LTrialGarden$Telling;" ∈ lw_g := gg_ (i := 630) (by decide +kernel) (by decide +kernel)
theorem t_636 : Cond.fieldLink RX7 62 "TrialGarden$Text" "tellingCount" "I" ∈ lw_g := gg_ (i := 636) (by decide +kernel) (by decide +kernel)
theorem t_644 : Cond.fieldLink RX7 65 "TrialGarden$Text" "codeCount" "I" ∈ lw_g := gg_ (i := 644) (by decide +kernel) (by decide +kernel)
theorem t_666 : Cond.fieldLink RX7 68 "TrialGarden$Text" "markCount" "I" ∈ lw_g := gg_ (i := 666) (by decide +kernel) (by decide +kernel)
theorem t_673 : Cond.fieldLink RX7 71 "TrialGarden$Text" "stCount" "I" ∈ lw_g := gg_ (i := 673) (by decide +kernel) (by decide +kernel)
theorem t_678 : Cond.fieldLink RX7 74 "TrialGarden$Text" "wordCount" "I" ∈ lw_g := gg_ (i := 678) (by decide +kernel) (by decide +kernel)
theorem t_680 : Cond.fieldLink RX7 77 "TrialGarden$Text" "partCount" "I" ∈ lw_g := gg_ (i := 680) (by decide +kernel) (by decide +kernel)
theorem t_988 : Cond.code yX11_classes cX11_classes 2 (some .int) ∈ lw_g := gg_ (i := 988) (by decide +kernel) (by decide +kernel)
theorem t_989 : Cond.methodLink RX11 53 yX2_begin ∈ lw_g := gg_ (i := 989) (by decide +kernel) (by decide +kernel)
theorem t_990 : Cond.instanceMethod yX2_begin ∈ lw_g := gg_ (i := 990) (by decide +kernel) (by decide +kernel)
theorem t_991 : Cond.selects RX2 yX2_begin yX2_begin ∈ lw_g := gg_ (i := 991) (by decide +kernel) (by decide +kernel)
theorem t_992 : Cond.code yX2_begin cX2_begin 4 none ∈ lw_g := gg_ (i := 992) (by decide +kernel) (by decide +kernel)
theorem t_993 : Cond.methodLink RX2 47 yX8_takeApart ∈ lw_g := gg_ (i := 993) (by decide +kernel) (by decide +kernel)
theorem t_994 : Cond.instanceMethod yX8_takeApart ∈ lw_g := gg_ (i := 994) (by decide +kernel) (by decide +kernel)
theorem t_995 : Cond.selects RX8 yX8_takeApart yX8_takeApart ∈ lw_g := gg_ (i := 995) (by decide +kernel) (by decide +kernel)
theorem t_996 : Cond.code yX8_takeApart cX8_takeApart 6 none ∈ lw_g := gg_ (i := 996) (by decide +kernel) (by decide +kernel)
theorem t_997 : Cond.methodLink RX8 57 Lib.Math.min.name ∈ lw_g := gg_ (i := 997) (by decide +kernel) (by decide +kernel)
theorem t_998 : Cond.static Lib.Math.min.name ∈ lw_g := gg_ (i := 998) (by decide +kernel) (by decide +kernel)
theorem t_999 : Cond.code Lib.Math.min.name Lib.Math.min.code 2 (some .int) ∈ lw_g := gg_ (i := 999) (by decide +kernel) (by decide +kernel)
theorem t_1000 : Cond.methodLink RX8 71 yX8_behindBlanks ∈ lw_g := gg_ (i := 1000) (by decide +kernel) (by decide +kernel)
theorem t_1002 : Cond.instanceMethod yX8_behindBlanks ∈ lw_g := gg_ (i := 1002) (by decide +kernel) (by decide +kernel)
theorem t_1003 : Cond.code yX8_behindBlanks cX8_behindBlanks 3 (some .int) ∈ lw_g := gg_ (i := 1003) (by decide +kernel) (by decide +kernel)
theorem t_1004 : Cond.methodLink RX8 77 yX8_byteAt ∈ lw_g := gg_ (i := 1004) (by decide +kernel) (by decide +kernel)
theorem t_1006 : Cond.instanceMethod yX8_byteAt ∈ lw_g := gg_ (i := 1006) (by decide +kernel) (by decide +kernel)
theorem t_1007 : Cond.code yX8_byteAt cX8_byteAt 2 (some .int) ∈ lw_g := gg_ (i := 1007) (by decide +kernel) (by decide +kernel)
theorem t_1008 : Cond.methodLink RX8 74 yX8_takeToken ∈ lw_g := gg_ (i := 1008) (by decide +kernel) (by decide +kernel)
theorem t_1010 : Cond.instanceMethod yX8_takeToken ∈ lw_g := gg_ (i := 1010) (by decide +kernel) (by decide +kernel)
theorem t_1011 : Cond.code yX8_takeToken cX8_takeToken 4 (some .int) ∈ lw_g := gg_ (i := 1011) (by decide +kernel) (by decide +kernel)
theorem t_1082 : Cond.methodLink RX2 55 yX7_wipe ∈ lw_g := gg_ (i := 1082) (by decide +kernel) (by decide +kernel)
theorem t_1083 : Cond.instanceMethod yX7_wipe ∈ lw_g := gg_ (i := 1083) (by decide +kernel) (by decide +kernel)
theorem t_1084 : Cond.selects RX7 yX7_wipe yX7_wipe ∈ lw_g := gg_ (i := 1084) (by decide +kernel) (by decide +kernel)
theorem t_1085 : Cond.code yX7_wipe cX7_wipe 1 none ∈ lw_g := gg_ (i := 1085) (by decide +kernel) (by decide +kernel)
theorem t_1086 : Cond.methodLink RX2 78 yX5_leaveMember ∈ lw_g := gg_ (i := 1086) (by decide +kernel) (by decide +kernel)
theorem t_1087 : Cond.instanceMethod yX5_leaveMember ∈ lw_g := gg_ (i := 1087) (by decide +kernel) (by decide +kernel)
theorem t_1088 : Cond.selects RX5 yX5_leaveMember yX5_leaveMember ∈ lw_g := gg_ (i := 1088) (by decide +kernel) (by decide +kernel)
theorem t_1089 : Cond.code yX5_leaveMember cX5_leaveMember 1 none ∈ lw_g := gg_ (i := 1089) (by decide +kernel) (by decide +kernel)
theorem t_1090 : Cond.methodLink RX11 57 yX2_readClass ∈ lw_g := gg_ (i := 1090) (by decide +kernel) (by decide +kernel)
theorem t_1091 : Cond.instanceMethod yX2_readClass ∈ lw_g := gg_ (i := 1091) (by decide +kernel) (by decide +kernel)
theorem t_1092 : Cond.selects RX2 yX2_readClass yX2_readClass ∈ lw_g := gg_ (i := 1092) (by decide +kernel) (by decide +kernel)
theorem t_1093 : Cond.code yX2_readClass cX2_readClass 3 none ∈ lw_g := gg_ (i := 1093) (by decide +kernel) (by decide +kernel)
theorem t_1094 : Cond.methodLink RX2 99 yX2_readClassHead ∈ lw_g := gg_ (i := 1094) (by decide +kernel) (by decide +kernel)
theorem t_1096 : Cond.instanceMethod yX2_readClassHead ∈ lw_g := gg_ (i := 1096) (by decide +kernel) (by decide +kernel)
theorem t_1097 : Cond.code yX2_readClassHead cX2_readClassHead 4 none ∈ lw_g := gg_ (i := 1097) (by decide +kernel) (by decide +kernel)
theorem t_1098 : Cond.methodLink RX2 89 yX8_take ∈ lw_g := gg_ (i := 1098) (by decide +kernel) (by decide +kernel)
theorem t_1099 : Cond.instanceMethod yX8_take ∈ lw_g := gg_ (i := 1099) (by decide +kernel) (by decide +kernel)
theorem t_1100 : Cond.selects RX8 yX8_take yX8_take ∈ lw_g := gg_ (i := 1100) (by decide +kernel) (by decide +kernel)
theorem t_1101 : Cond.code yX8_take cX8_take 2 none ∈ lw_g := gg_ (i := 1101) (by decide +kernel) (by decide +kernel)
theorem t_1103 : Cond.instanceMethod yX8_next ∈ lw_g := gg_ (i := 1103) (by decide +kernel) (by decide +kernel)
theorem t_1104 : Cond.selects RX8 yX8_next yX8_next ∈ lw_g := gg_ (i := 1104) (by decide +kernel) (by decide +kernel)
theorem t_1105 : Cond.code yX8_next cX8_next 1 none ∈ lw_g := gg_ (i := 1105) (by decide +kernel) (by decide +kernel)
theorem t_1106 : Cond.methodLink RX8 103 yX8_fail ∈ lw_g := gg_ (i := 1106) (by decide +kernel) (by decide +kernel)
theorem t_1107 : Cond.instanceMethod yX8_fail ∈ lw_g := gg_ (i := 1107) (by decide +kernel) (by decide +kernel)
theorem t_1108 : Cond.selects RX8 yX8_fail yX8_fail ∈ lw_g := gg_ (i := 1108) (by decide +kernel) (by decide +kernel)
theorem t_1109 : Cond.code yX8_fail cX8_fail 4 none ∈ lw_g := gg_ (i := 1109) (by decide +kernel) (by decide +kernel)
theorem t_1110 : Cond.methodLink RX2 129 yX8_place ∈ lw_g := gg_ (i := 1110) (by decide +kernel) (by decide +kernel)
theorem t_1111 : Cond.instanceMethod yX8_place ∈ lw_g := gg_ (i := 1111) (by decide +kernel) (by decide +kernel)
theorem t_1112 : Cond.selects RX8 yX8_place yX8_place ∈ lw_g := gg_ (i := 1112) (by decide +kernel) (by decide +kernel)
theorem t_1113 : Cond.code yX8_place cX8_place 1 (some .int) ∈ lw_g := gg_ (i := 1113) (by decide +kernel) (by decide +kernel)
theorem t_1114 : Cond.methodLink RX2 132 yX8_value ∈ lw_g := gg_ (i := 1114) (by decide +kernel) (by decide +kernel)
theorem t_1115 : Cond.instanceMethod yX8_value ∈ lw_g := gg_ (i := 1115) (by decide +kernel) (by decide +kernel)
theorem t_1116 : Cond.selects RX8 yX8_value yX8_value ∈ lw_g := gg_ (i := 1116) (by decide +kernel) (by decide +kernel)
theorem t_1117 : Cond.code yX8_value cX8_value 1 (some .long) ∈ lw_g := gg_ (i := 1117) (by decide +kernel) (by decide +kernel)
theorem t_1118 : Cond.methodLink RX2 85 yX8_kind ∈ lw_g := gg_ (i := 1118) (by decide +kernel) (by decide +kernel)
theorem t_1119 : Cond.instanceMethod yX8_kind ∈ lw_g := gg_ (i := 1119) (by decide +kernel) (by decide +kernel)
theorem t_1120 : Cond.selects RX8 yX8_kind yX8_kind ∈ lw_g := gg_ (i := 1120) (by decide +kernel) (by decide +kernel)
theorem t_1121 : Cond.code yX8_kind cX8_kind 1 (some .int) ∈ lw_g := gg_ (i := 1121) (by decide +kernel) (by decide +kernel)
theorem t_1122 : Cond.methodLink RX2 136 yX8_fail ∈ lw_g := gg_ (i := 1122) (by decide +kernel) (by decide +kernel)
theorem t_1131 : Cond.methodLink RX2 157 yX8_next ∈ lw_g := gg_ (i := 1131) (by decide +kernel) (by decide +kernel)
theorem t_1402 : Cond.methodLink RX11 60 yX2_atClass ∈ lw_g := gg_ (i := 1402) (by decide +kernel) (by decide +kernel)
theorem t_1403 : Cond.instanceMethod yX2_atClass ∈ lw_g := gg_ (i := 1403) (by decide +kernel) (by decide +kernel)
theorem t_1404 : Cond.selects RX2 yX2_atClass yX2_atClass ∈ lw_g := gg_ (i := 1404) (by decide +kernel) (by decide +kernel)
theorem t_1405 : Cond.code yX2_atClass cX2_atClass 1 (some .boolean) ∈ lw_g := gg_ (i := 1405) (by decide +kernel) (by decide +kernel)
theorem t_1406 : Cond.methodLink RX11 64 yX2_finish ∈ lw_g := gg_ (i := 1406) (by decide +kernel) (by decide +kernel)
theorem t_1407 : Cond.instanceMethod yX2_finish ∈ lw_g := gg_ (i := 1407) (by decide +kernel) (by decide +kernel)
theorem t_1408 : Cond.selects RX2 yX2_finish yX2_finish ∈ lw_g := gg_ (i := 1408) (by decide +kernel) (by decide +kernel)
theorem t_1409 : Cond.code yX2_finish cX2_finish 1 none ∈ lw_g := gg_ (i := 1409) (by decide +kernel) (by decide +kernel)
theorem t_1410 : Cond.methodLink RX11 67 yX2_faultKind ∈ lw_g := gg_ (i := 1410) (by decide +kernel) (by decide +kernel)
theorem t_1411 : Cond.instanceMethod yX2_faultKind ∈ lw_g := gg_ (i := 1411) (by decide +kernel) (by decide +kernel)
theorem t_1412 : Cond.selects RX2 yX2_faultKind yX2_faultKind ∈ lw_g := gg_ (i := 1412) (by decide +kernel) (by decide +kernel)
theorem t_1413 : Cond.code yX2_faultKind cX2_faultKind 1 (some .int) ∈ lw_g := gg_ (i := 1413) (by decide +kernel) (by decide +kernel)
theorem t_1414 : Cond.methodLink RX11 70 yX2_faultPlace ∈ lw_g := gg_ (i := 1414) (by decide +kernel) (by decide +kernel)
theorem t_1415 : Cond.instanceMethod yX2_faultPlace ∈ lw_g := gg_ (i := 1415) (by decide +kernel) (by decide +kernel)
theorem t_1416 : Cond.selects RX2 yX2_faultPlace yX2_faultPlace ∈ lw_g := gg_ (i := 1416) (by decide +kernel) (by decide +kernel)
theorem t_1417 : Cond.code yX2_faultPlace cX2_faultPlace 1 (some .int) ∈ lw_g := gg_ (i := 1417) (by decide +kernel) (by decide +kernel)
theorem dX2_begin_0 : decode cX2_begin 0 = .ok (.aload_n 0, 1) := by decide +kernel
theorem dX2_begin_1 : decode cX2_begin 1 = .ok (.getfield 12, 3) := by decide +kernel
theorem dX2_begin_4 : decode cX2_begin 4 = .ok (.aload_n 1, 1) := by decide +kernel
theorem dX2_begin_5 : decode cX2_begin 5 = .ok (.iload_n 2, 1) := by decide +kernel
theorem dX2_begin_6 : decode cX2_begin 6 = .ok (.invokevirtual 47, 3) := by decide +kernel
theorem dX2_begin_9 : decode cX2_begin 9 = .ok (.aload_n 0, 1) := by decide +kernel
theorem dX2_begin_10 : decode cX2_begin 10 = .ok (.aload_n 3, 1) := by decide +kernel
theorem dX2_begin_11 : decode cX2_begin 11 = .ok (.putfield 51, 3) := by decide +kernel
theorem dX2_begin_14 : decode cX2_begin 14 = .ok (.aload_n 0, 1) := by decide +kernel
theorem dX2_begin_15 : decode cX2_begin 15 = .ok (.getfield 51, 3) := by decide +kernel
theorem dX2_begin_18 : decode cX2_begin 18 = .ok (.invokevirtual 55, 3) := by decide +kernel
theorem dX2_begin_21 : decode cX2_begin 21 = .ok (.aload_n 0, 1) := by decide +kernel
theorem dX2_begin_22 : decode cX2_begin 22 = .ok (.aload_n 0, 1) := by decide +kernel
theorem dX2_begin_23 : decode cX2_begin 23 = .ok (.getfield 51, 3) := by decide +kernel
theorem dX2_begin_26 : decode cX2_begin 26 = .ok (.getfield 60, 3) := by decide +kernel
theorem dX2_begin_29 : decode cX2_begin 29 = .ok (.iconst 0, 1) := by decide +kernel
theorem dX2_begin_30 : decode cX2_begin 30 = .ok (.aaload, 1) := by decide +kernel
theorem dX2_begin_31 : decode cX2_begin 31 = .ok (.putfield 64, 3) := by decide +kernel
theorem dX2_begin_34 : decode cX2_begin 34 = .ok (.aload_n 0, 1) := by decide +kernel
theorem dX2_begin_35 : decode cX2_begin 35 = .ok (.aload_n 0, 1) := by decide +kernel
theorem dX2_begin_36 : decode cX2_begin 36 = .ok (.getfield 51, 3) := by decide +kernel
theorem dX2_begin_39 : decode cX2_begin 39 = .ok (.getfield 68, 3) := by decide +kernel
theorem dX2_begin_42 : decode cX2_begin 42 = .ok (.iconst 0, 1) := by decide +kernel
theorem dX2_begin_43 : decode cX2_begin 43 = .ok (.aaload, 1) := by decide +kernel
theorem dX2_begin_44 : decode cX2_begin 44 = .ok (.putfield 72, 3) := by decide +kernel
theorem dX2_begin_47 : decode cX2_begin 47 = .ok (.aload_n 0, 1) := by decide +kernel
theorem dX2_begin_48 : decode cX2_begin 48 = .ok (.getfield 21, 3) := by decide +kernel
theorem dX2_begin_51 : decode cX2_begin 51 = .ok (.aload_n 3, 1) := by decide +kernel
theorem dX2_begin_52 : decode cX2_begin 52 = .ok (.putfield 76, 3) := by decide +kernel
theorem dX2_begin_55 : decode cX2_begin 55 = .ok (.aload_n 0, 1) := by decide +kernel
theorem dX2_begin_56 : decode cX2_begin 56 = .ok (.getfield 21, 3) := by decide +kernel
theorem dX2_begin_59 : decode cX2_begin 59 = .ok (.aload_n 0, 1) := by decide +kernel
theorem dX2_begin_60 : decode cX2_begin 60 = .ok (.getfield 64, 3) := by decide +kernel
theorem dX2_begin_63 : decode cX2_begin 63 = .ok (.putfield 77, 3) := by decide +kernel
theorem dX2_begin_66 : decode cX2_begin 66 = .ok (.aload_n 0, 1) := by decide +kernel
theorem dX2_begin_67 : decode cX2_begin 67 = .ok (.getfield 21, 3) := by decide +kernel
theorem dX2_begin_70 : decode cX2_begin 70 = .ok (.invokevirtual 78, 3) := by decide +kernel
theorem dX2_begin_73 : decode cX2_begin 73 = .ok (.aload_n 0, 1) := by decide +kernel
theorem dX2_begin_74 : decode cX2_begin 74 = .ok (.iconst 0, 1) := by decide +kernel
theorem dX2_begin_75 : decode cX2_begin 75 = .ok (.putfield 81, 3) := by decide +kernel
theorem dX2_begin_78 : decode cX2_begin 78 = .ok (.return_, 1) := by decide +kernel
theorem dX2_atClass_0 : decode cX2_atClass 0 = .ok (.aload_n 0, 1) := by decide +kernel
theorem dX2_atClass_1 : decode cX2_atClass 1 = .ok (.getfield 12, 3) := by decide +kernel
theorem dX2_atClass_4 : decode cX2_atClass 4 = .ok (.invokevirtual 85, 3) := by decide +kernel
theorem dX2_atClass_7 : decode cX2_atClass 7 = .ok (.bipush 10, 2) := by decide +kernel
theorem dX2_atClass_9 : decode cX2_atClass 9 = .ok (.if_icmp .ne 7, 3) := by decide +kernel
theorem dX2_atClass_12 : decode cX2_atClass 12 = .ok (.iconst 1, 1) := by decide +kernel
theorem dX2_atClass_13 : decode cX2_atClass 13 = .ok (.goto 4, 3) := by decide +kernel
theorem dX2_atClass_16 : decode cX2_atClass 16 = .ok (.iconst 0, 1) := by decide +kernel
theorem dX2_atClass_17 : decode cX2_atClass 17 = .ok (.ireturn, 1) := by decide +kernel
theorem dX2_finish_0 : decode cX2_finish 0 = .ok (.aload_n 0, 1) := by decide +kernel
theorem dX2_finish_1 : decode cX2_finish 1 = .ok (.getfield 12, 3) := by decide +kernel
theorem dX2_finish_4 : decode cX2_finish 4 = .ok (.iconst 1, 1) := by decide +kernel
theorem dX2_finish_5 : decode cX2_finish 5 = .ok (.invokevirtual 89, 3) := by decide +kernel
theorem dX2_finish_8 : decode cX2_finish 8 = .ok (.return_, 1) := by decide +kernel
theorem dX2_faultKind_0 : decode cX2_faultKind 0 = .ok (.aload_n 0, 1) := by decide +kernel
theorem dX2_faultKind_1 : decode cX2_faultKind 1 = .ok (.getfield 12, 3) := by decide +kernel
theorem dX2_faultKind_4 : decode cX2_faultKind 4 = .ok (.getfield 93, 3) := by decide +kernel
theorem dX2_faultKind_7 : decode cX2_faultKind 7 = .ok (.ireturn, 1) := by decide +kernel
theorem dX2_faultPlace_0 : decode cX2_faultPlace 0 = .ok (.aload_n 0, 1) := by decide +kernel
theorem dX2_faultPlace_1 : decode cX2_faultPlace 1 = .ok (.getfield 12, 3) := by decide +kernel
theorem dX2_faultPlace_4 : decode cX2_faultPlace 4 = .ok (.getfield 96, 3) := by decide +kernel
theorem dX2_faultPlace_7 : decode cX2_faultPlace 7 = .ok (.ireturn, 1) := by decide +kernel
theorem dX2_readClass_0 : decode cX2_readClass 0 = .ok (.aload_n 0, 1) := by decide +kernel
theorem dX2_readClass_1 : decode cX2_readClass 1 = .ok (.invokevirtual 99, 3) := by decide +kernel
theorem dX2_readClass_4 : decode cX2_readClass 4 = .ok (.iconst 0, 1) := by decide +kernel
theorem dX2_readClass_5 : decode cX2_readClass 5 = .ok (.istore_n 1, 1) := by decide +kernel
theorem dX2_readClass_6 : decode cX2_readClass 6 = .ok (.iload_n 1, 1) := by decide +kernel
theorem dX2_readClass_7 : decode cX2_readClass 7 = .ok (.bipush 10, 2) := by decide +kernel
theorem dX2_readClass_9 : decode cX2_readClass 9 = .ok (.if_icmp .gt 25, 3) := by decide +kernel
theorem dX2_readClass_12 : decode cX2_readClass 12 = .ok (.aload_n 0, 1) := by decide +kernel
theorem dX2_readClass_13 : decode cX2_readClass 13 = .ok (.getfield 12, 3) := by decide +kernel
theorem dX2_readClass_16 : decode cX2_readClass 16 = .ok (.invokevirtual 85, 3) := by decide +kernel
theorem dX2_readClass_19 : decode cX2_readClass 19 = .ok (.bipush 12, 2) := by decide +kernel
theorem dX2_readClass_21 : decode cX2_readClass 21 = .ok (.if_icmp .ne 13, 3) := by decide +kernel
theorem dX2_readClass_24 : decode cX2_readClass 24 = .ok (.aload_n 0, 1) := by decide +kernel
theorem dX2_readClass_25 : decode cX2_readClass 25 = .ok (.invokevirtual 104, 3) := by decide +kernel
theorem dX2_readClass_28 : decode cX2_readClass 28 = .ok (.iinc 1 1, 3) := by decide +kernel
theorem dX2_readClass_31 : decode cX2_readClass 31 = .ok (.goto (-25), 3) := by decide +kernel
theorem dX2_readClass_34 : decode cX2_readClass 34 = .ok (.iconst 0, 1) := by decide +kernel
theorem dX2_readClass_35 : decode cX2_readClass 35 = .ok (.istore_n 1, 1) := by decide +kernel
theorem dX2_readClass_36 : decode cX2_readClass 36 = .ok (.iload_n 1, 1) := by decide +kernel
theorem dX2_readClass_37 : decode cX2_readClass 37 = .ok (.bipush 8, 2) := by decide +kernel
theorem dX2_readClass_39 : decode cX2_readClass 39 = .ok (.if_icmp .gt 25, 3) := by decide +kernel
theorem dX2_readClass_42 : decode cX2_readClass 42 = .ok (.aload_n 0, 1) := by decide +kernel
theorem dX2_readClass_43 : decode cX2_readClass 43 = .ok (.getfield 12, 3) := by decide +kernel
theorem dX2_readClass_46 : decode cX2_readClass 46 = .ok (.invokevirtual 85, 3) := by decide +kernel
theorem dX2_readClass_49 : decode cX2_readClass 49 = .ok (.bipush 13, 2) := by decide +kernel
theorem dX2_readClass_51 : decode cX2_readClass 51 = .ok (.if_icmp .ne 13, 3) := by decide +kernel
theorem dX2_readClass_54 : decode cX2_readClass 54 = .ok (.aload_n 0, 1) := by decide +kernel
theorem dX2_readClass_55 : decode cX2_readClass 55 = .ok (.invokevirtual 107, 3) := by decide +kernel
theorem dX2_readClass_58 : decode cX2_readClass 58 = .ok (.iinc 1 1, 3) := by decide +kernel
theorem dX2_readClass_61 : decode cX2_readClass 61 = .ok (.goto (-25), 3) := by decide +kernel
theorem dX2_readClass_64 : decode cX2_readClass 64 = .ok (.iconst 0, 1) := by decide +kernel
theorem dX2_readClass_65 : decode cX2_readClass 65 = .ok (.istore_n 1, 1) := by decide +kernel
theorem dX2_readClass_66 : decode cX2_readClass 66 = .ok (.iload_n 1, 1) := by decide +kernel
theorem dX2_readClass_67 : decode cX2_readClass 67 = .ok (.bipush 12, 2) := by decide +kernel
theorem dX2_readClass_69 : decode cX2_readClass 69 = .ok (.if_icmp .gt 97, 3) := by decide +kernel
theorem dX2_readClass_72 : decode cX2_readClass 72 = .ok (.aload_n 0, 1) := by decide +kernel
theorem dX2_readClass_73 : decode cX2_readClass 73 = .ok (.getfield 12, 3) := by decide +kernel
theorem dX2_readClass_76 : decode cX2_readClass 76 = .ok (.invokevirtual 85, 3) := by decide +kernel
theorem dX2_readClass_79 : decode cX2_readClass 79 = .ok (.bipush 14, 2) := by decide +kernel
theorem dX2_readClass_81 : decode cX2_readClass 81 = .ok (.if_icmp .ne 85, 3) := by decide +kernel
theorem dX2_readClass_84 : decode cX2_readClass 84 = .ok (.aload_n 0, 1) := by decide +kernel
theorem dX2_readClass_85 : decode cX2_readClass 85 = .ok (.invokevirtual 110, 3) := by decide +kernel
theorem dX2_readClass_88 : decode cX2_readClass 88 = .ok (.iconst 0, 1) := by decide +kernel
theorem dX2_readClass_89 : decode cX2_readClass 89 = .ok (.istore_n 2, 1) := by decide +kernel
theorem dX2_readClass_90 : decode cX2_readClass 90 = .ok (.iload_n 2, 1) := by decide +kernel
theorem dX2_readClass_91 : decode cX2_readClass 91 = .ok (.bipush 8, 2) := by decide +kernel
theorem dX2_readClass_93 : decode cX2_readClass 93 = .ok (.if_icmp .gt 20, 3) := by decide +kernel
theorem dX2_readClass_96 : decode cX2_readClass 96 = .ok (.aload_n 0, 1) := by decide +kernel
theorem dX2_readClass_97 : decode cX2_readClass 97 = .ok (.invokevirtual 113, 3) := by decide +kernel
theorem dX2_readClass_100 : decode cX2_readClass 100 = .ok (.ifCond .eq 13, 3) := by decide +kernel
theorem dX2_readClass_103 : decode cX2_readClass 103 = .ok (.aload_n 0, 1) := by decide +kernel
theorem dX2_readClass_104 : decode cX2_readClass 104 = .ok (.invokevirtual 117, 3) := by decide +kernel
theorem dX2_readClass_107 : decode cX2_readClass 107 = .ok (.iinc 2 1, 3) := by decide +kernel
theorem dX2_readClass_110 : decode cX2_readClass 110 = .ok (.goto (-20), 3) := by decide +kernel
theorem dX2_readClass_113 : decode cX2_readClass 113 = .ok (.aload_n 0, 1) := by decide +kernel
theorem dX2_readClass_114 : decode cX2_readClass 114 = .ok (.invokevirtual 120, 3) := by decide +kernel
theorem dX2_readClass_117 : decode cX2_readClass 117 = .ok (.iconst 0, 1) := by decide +kernel
theorem dX2_readClass_118 : decode cX2_readClass 118 = .ok (.istore_n 2, 1) := by decide +kernel
theorem dX2_readClass_119 : decode cX2_readClass 119 = .ok (.iload_n 2, 1) := by decide +kernel
theorem dX2_readClass_120 : decode cX2_readClass 120 = .ok (.sipush 1200, 3) := by decide +kernel
theorem dX2_readClass_123 : decode cX2_readClass 123 = .ok (.if_icmp .gt 30, 3) := by decide +kernel
theorem dX2_readClass_126 : decode cX2_readClass 126 = .ok (.aload_n 0, 1) := by decide +kernel
theorem dX2_readClass_127 : decode cX2_readClass 127 = .ok (.getfield 81, 3) := by decide +kernel
theorem dX2_readClass_130 : decode cX2_readClass 130 = .ok (.ifCond .le 23, 3) := by decide +kernel
theorem dX2_readClass_133 : decode cX2_readClass 133 = .ok (.aload_n 0, 1) := by decide +kernel
theorem dX2_readClass_134 : decode cX2_readClass 134 = .ok (.getfield 12, 3) := by decide +kernel
theorem dX2_readClass_137 : decode cX2_readClass 137 = .ok (.getfield 93, 3) := by decide +kernel
theorem dX2_readClass_140 : decode cX2_readClass 140 = .ok (.ifCond .ne 13, 3) := by decide +kernel
theorem dX2_readClass_143 : decode cX2_readClass 143 = .ok (.aload_n 0, 1) := by decide +kernel
theorem dX2_readClass_144 : decode cX2_readClass 144 = .ok (.invokevirtual 123, 3) := by decide +kernel
theorem dX2_readClass_147 : decode cX2_readClass 147 = .ok (.iinc 2 1, 3) := by decide +kernel
theorem dX2_readClass_150 : decode cX2_readClass 150 = .ok (.goto (-31), 3) := by decide +kernel
theorem dX2_readClass_153 : decode cX2_readClass 153 = .ok (.aload_n 0, 1) := by decide +kernel
theorem dX2_readClass_154 : decode cX2_readClass 154 = .ok (.getfield 21, 3) := by decide +kernel
theorem dX2_readClass_157 : decode cX2_readClass 157 = .ok (.invokevirtual 78, 3) := by decide +kernel
theorem dX2_readClass_160 : decode cX2_readClass 160 = .ok (.iinc 1 1, 3) := by decide +kernel
theorem dX2_readClass_163 : decode cX2_readClass 163 = .ok (.goto (-97), 3) := by decide +kernel
theorem dX2_readClass_166 : decode cX2_readClass 166 = .ok (.aload_n 0, 1) := by decide +kernel
theorem dX2_readClass_167 : decode cX2_readClass 167 = .ok (.getfield 12, 3) := by decide +kernel
theorem dX2_readClass_170 : decode cX2_readClass 170 = .ok (.bipush 125, 2) := by decide +kernel
theorem dX2_readClass_172 : decode cX2_readClass 172 = .ok (.invokevirtual 89, 3) := by decide +kernel
theorem dX2_readClass_175 : decode cX2_readClass 175 = .ok (.aload_n 0, 1) := by decide +kernel
theorem dX2_readClass_176 : decode cX2_readClass 176 = .ok (.getfield 12, 3) := by decide +kernel
theorem dX2_readClass_179 : decode cX2_readClass 179 = .ok (.getfield 93, 3) := by decide +kernel
theorem dX2_readClass_182 : decode cX2_readClass 182 = .ok (.ifCond .ne 16, 3) := by decide +kernel
theorem dX2_readClass_185 : decode cX2_readClass 185 = .ok (.aload_n 0, 1) := by decide +kernel
theorem dX2_readClass_186 : decode cX2_readClass 186 = .ok (.getfield 51, 3) := by decide +kernel
theorem dX2_readClass_189 : decode cX2_readClass 189 = .ok (.dup, 1) := by decide +kernel
theorem dX2_readClass_190 : decode cX2_readClass 190 = .ok (.getfield 126, 3) := by decide +kernel
theorem dX2_readClass_193 : decode cX2_readClass 193 = .ok (.iconst 1, 1) := by decide +kernel
theorem dX2_readClass_194 : decode cX2_readClass 194 = .ok (.iadd, 1) := by decide +kernel
theorem dX2_readClass_195 : decode cX2_readClass 195 = .ok (.putfield 126, 3) := by decide +kernel
theorem dX2_readClass_198 : decode cX2_readClass 198 = .ok (.return_, 1) := by decide +kernel
theorem dX2_readClassHead_0 : decode cX2_readClassHead 0 = .ok (.aload_n 0, 1) := by decide +kernel
theorem dX2_readClassHead_1 : decode cX2_readClassHead 1 = .ok (.getfield 12, 3) := by decide +kernel
theorem dX2_readClassHead_4 : decode cX2_readClassHead 4 = .ok (.bipush 10, 2) := by decide +kernel
theorem dX2_readClassHead_6 : decode cX2_readClassHead 6 = .ok (.invokevirtual 89, 3) := by decide +kernel
theorem dX2_readClassHead_9 : decode cX2_readClassHead 9 = .ok (.aload_n 0, 1) := by decide +kernel
theorem dX2_readClassHead_10 : decode cX2_readClassHead 10 = .ok (.getfield 12, 3) := by decide +kernel
theorem dX2_readClassHead_13 : decode cX2_readClassHead 13 = .ok (.invokevirtual 129, 3) := by decide +kernel
theorem dX2_readClassHead_16 : decode cX2_readClassHead 16 = .ok (.istore_n 1, 1) := by decide +kernel
theorem dX2_readClassHead_17 : decode cX2_readClassHead 17 = .ok (.aload_n 0, 1) := by decide +kernel
theorem dX2_readClassHead_18 : decode cX2_readClassHead 18 = .ok (.getfield 12, 3) := by decide +kernel
theorem dX2_readClassHead_21 : decode cX2_readClassHead 21 = .ok (.invokevirtual 132, 3) := by decide +kernel
theorem dX2_readClassHead_24 : decode cX2_readClassHead 24 = .ok (.lstore_n 2, 1) := by decide +kernel
theorem dX2_readClassHead_25 : decode cX2_readClassHead 25 = .ok (.aload_n 0, 1) := by decide +kernel
theorem dX2_readClassHead_26 : decode cX2_readClassHead 26 = .ok (.getfield 12, 3) := by decide +kernel
theorem dX2_readClassHead_29 : decode cX2_readClassHead 29 = .ok (.invokevirtual 85, 3) := by decide +kernel
theorem dX2_readClassHead_32 : decode cX2_readClassHead 32 = .ok (.iconst 3, 1) := by decide +kernel
theorem dX2_readClassHead_33 : decode cX2_readClassHead 33 = .ok (.if_icmp .eq 15, 3) := by decide +kernel
theorem dX2_readClassHead_36 : decode cX2_readClassHead 36 = .ok (.aload_n 0, 1) := by decide +kernel
theorem dX2_readClassHead_37 : decode cX2_readClassHead 37 = .ok (.getfield 12, 3) := by decide +kernel
theorem dX2_readClassHead_40 : decode cX2_readClassHead 40 = .ok (.iconst 1, 1) := by decide +kernel
theorem dX2_readClassHead_41 : decode cX2_readClassHead 41 = .ok (.iload_n 1, 1) := by decide +kernel
theorem dX2_readClassHead_42 : decode cX2_readClassHead 42 = .ok (.invokevirtual 136, 3) := by decide +kernel
theorem dX2_readClassHead_45 : decode cX2_readClassHead 45 = .ok (.goto 117, 3) := by decide +kernel
theorem dX2_readClassHead_48 : decode cX2_readClassHead 48 = .ok (.aload_n 0, 1) := by decide +kernel
theorem dX2_readClassHead_49 : decode cX2_readClassHead 49 = .ok (.getfield 51, 3) := by decide +kernel
theorem dX2_readClassHead_52 : decode cX2_readClassHead 52 = .ok (.lload_n 2, 1) := by decide +kernel
theorem dX2_readClassHead_53 : decode cX2_readClassHead 53 = .ok (.invokevirtual 140, 3) := by decide +kernel
theorem dX2_readClassHead_56 : decode cX2_readClassHead 56 = .ok (.iconst (-1), 1) := by decide +kernel
theorem dX2_readClassHead_57 : decode cX2_readClassHead 57 = .ok (.if_icmp .eq 15, 3) := by decide +kernel
theorem dX2_readClassHead_60 : decode cX2_readClassHead 60 = .ok (.aload_n 0, 1) := by decide +kernel
theorem dX2_readClassHead_61 : decode cX2_readClassHead 61 = .ok (.getfield 12, 3) := by decide +kernel
theorem dX2_readClassHead_64 : decode cX2_readClassHead 64 = .ok (.iconst 2, 1) := by decide +kernel
theorem dX2_readClassHead_65 : decode cX2_readClassHead 65 = .ok (.iload_n 1, 1) := by decide +kernel
theorem dX2_readClassHead_66 : decode cX2_readClassHead 66 = .ok (.invokevirtual 136, 3) := by decide +kernel
theorem dX2_readClassHead_69 : decode cX2_readClassHead 69 = .ok (.goto 93, 3) := by decide +kernel
theorem dX2_readClassHead_72 : decode cX2_readClassHead 72 = .ok (.aload_n 0, 1) := by decide +kernel
theorem dX2_readClassHead_73 : decode cX2_readClassHead 73 = .ok (.getfield 51, 3) := by decide +kernel
theorem dX2_readClassHead_76 : decode cX2_readClassHead 76 = .ok (.getfield 126, 3) := by decide +kernel
theorem dX2_readClassHead_79 : decode cX2_readClassHead 79 = .ok (.bipush 8, 2) := by decide +kernel
theorem dX2_readClassHead_81 : decode cX2_readClassHead 81 = .ok (.if_icmp .lt 15, 3) := by decide +kernel
theorem dX2_readClassHead_84 : decode cX2_readClassHead 84 = .ok (.aload_n 0, 1) := by decide +kernel
theorem dX2_readClassHead_85 : decode cX2_readClassHead 85 = .ok (.getfield 12, 3) := by decide +kernel
theorem dX2_readClassHead_88 : decode cX2_readClassHead 88 = .ok (.iconst 4, 1) := by decide +kernel
theorem dX2_readClassHead_89 : decode cX2_readClassHead 89 = .ok (.iload_n 1, 1) := by decide +kernel
theorem dX2_readClassHead_90 : decode cX2_readClassHead 90 = .ok (.invokevirtual 136, 3) := by decide +kernel
theorem dX2_readClassHead_93 : decode cX2_readClassHead 93 = .ok (.goto 69, 3) := by decide +kernel
theorem dX2_readClassHead_96 : decode cX2_readClassHead 96 = .ok (.aload_n 0, 1) := by decide +kernel
theorem dX2_readClassHead_97 : decode cX2_readClassHead 97 = .ok (.aload_n 0, 1) := by decide +kernel
theorem dX2_readClassHead_98 : decode cX2_readClassHead 98 = .ok (.getfield 51, 3) := by decide +kernel
theorem dX2_readClassHead_101 : decode cX2_readClassHead 101 = .ok (.getfield 60, 3) := by decide +kernel
theorem dX2_readClassHead_104 : decode cX2_readClassHead 104 = .ok (.aload_n 0, 1) := by decide +kernel
theorem dX2_readClassHead_105 : decode cX2_readClassHead 105 = .ok (.getfield 51, 3) := by decide +kernel
theorem dX2_readClassHead_108 : decode cX2_readClassHead 108 = .ok (.getfield 126, 3) := by decide +kernel
theorem dX2_readClassHead_111 : decode cX2_readClassHead 111 = .ok (.aaload, 1) := by decide +kernel
theorem dX2_readClassHead_112 : decode cX2_readClassHead 112 = .ok (.putfield 64, 3) := by decide +kernel
theorem dX2_readClassHead_115 : decode cX2_readClassHead 115 = .ok (.aload_n 0, 1) := by decide +kernel
theorem dX2_readClassHead_116 : decode cX2_readClassHead 116 = .ok (.getfield 64, 3) := by decide +kernel
theorem dX2_readClassHead_119 : decode cX2_readClassHead 119 = .ok (.lload_n 2, 1) := by decide +kernel
theorem dX2_readClassHead_120 : decode cX2_readClassHead 120 = .ok (.invokevirtual 144, 3) := by decide +kernel
theorem dX2_readClassHead_123 : decode cX2_readClassHead 123 = .ok (.aload_n 0, 1) := by decide +kernel
theorem dX2_readClassHead_124 : decode cX2_readClassHead 124 = .ok (.getfield 64, 3) := by decide +kernel
theorem dX2_readClassHead_127 : decode cX2_readClassHead 127 = .ok (.aload_n 0, 1) := by decide +kernel
theorem dX2_readClassHead_128 : decode cX2_readClassHead 128 = .ok (.getfield 51, 3) := by decide +kernel
theorem dX2_readClassHead_131 : decode cX2_readClassHead 131 = .ok (.getfield 148, 3) := by decide +kernel
theorem dX2_readClassHead_134 : decode cX2_readClassHead 134 = .ok (.putfield 151, 3) := by decide +kernel
theorem dX2_readClassHead_137 : decode cX2_readClassHead 137 = .ok (.aload_n 0, 1) := by decide +kernel
theorem dX2_readClassHead_138 : decode cX2_readClassHead 138 = .ok (.getfield 21, 3) := by decide +kernel
theorem dX2_readClassHead_141 : decode cX2_readClassHead 141 = .ok (.aload_n 0, 1) := by decide +kernel
theorem dX2_readClassHead_142 : decode cX2_readClassHead 142 = .ok (.getfield 64, 3) := by decide +kernel
theorem dX2_readClassHead_145 : decode cX2_readClassHead 145 = .ok (.putfield 77, 3) := by decide +kernel
theorem dX2_readClassHead_148 : decode cX2_readClassHead 148 = .ok (.aload_n 0, 1) := by decide +kernel
theorem dX2_readClassHead_149 : decode cX2_readClassHead 149 = .ok (.getfield 21, 3) := by decide +kernel
theorem dX2_readClassHead_152 : decode cX2_readClassHead 152 = .ok (.aload_n 0, 1) := by decide +kernel
theorem dX2_readClassHead_153 : decode cX2_readClassHead 153 = .ok (.getfield 51, 3) := by decide +kernel
theorem dX2_readClassHead_156 : decode cX2_readClassHead 156 = .ok (.getfield 126, 3) := by decide +kernel
theorem dX2_readClassHead_159 : decode cX2_readClassHead 159 = .ok (.putfield 154, 3) := by decide +kernel
theorem dX2_readClassHead_162 : decode cX2_readClassHead 162 = .ok (.aload_n 0, 1) := by decide +kernel
theorem dX2_readClassHead_163 : decode cX2_readClassHead 163 = .ok (.getfield 12, 3) := by decide +kernel
theorem dX2_readClassHead_166 : decode cX2_readClassHead 166 = .ok (.invokevirtual 157, 3) := by decide +kernel
theorem dX2_readClassHead_169 : decode cX2_readClassHead 169 = .ok (.aload_n 0, 1) := by decide +kernel
theorem dX2_readClassHead_170 : decode cX2_readClassHead 170 = .ok (.getfield 12, 3) := by decide +kernel
theorem dX2_readClassHead_173 : decode cX2_readClassHead 173 = .ok (.invokevirtual 85, 3) := by decide +kernel
theorem dX2_readClassHead_176 : decode cX2_readClassHead 176 = .ok (.bipush 11, 2) := by decide +kernel
theorem dX2_readClassHead_178 : decode cX2_readClassHead 178 = .ok (.if_icmp .ne 7, 3) := by decide +kernel
theorem dX2_readClassHead_181 : decode cX2_readClassHead 181 = .ok (.aload_n 0, 1) := by decide +kernel
theorem dX2_readClassHead_182 : decode cX2_readClassHead 182 = .ok (.invokevirtual 160, 3) := by decide +kernel
theorem dX2_readClassHead_185 : decode cX2_readClassHead 185 = .ok (.aload_n 0, 1) := by decide +kernel
theorem dX2_readClassHead_186 : decode cX2_readClassHead 186 = .ok (.getfield 12, 3) := by decide +kernel
theorem dX2_readClassHead_189 : decode cX2_readClassHead 189 = .ok (.bipush 123, 2) := by decide +kernel
theorem dX2_readClassHead_191 : decode cX2_readClassHead 191 = .ok (.invokevirtual 89, 3) := by decide +kernel
theorem dX2_readClassHead_194 : decode cX2_readClassHead 194 = .ok (.return_, 1) := by decide +kernel
theorem dX5_leaveMember_0 : decode cX5_leaveMember 0 = .ok (.aload_n 0, 1) := by decide +kernel
theorem dX5_leaveMember_1 : decode cX5_leaveMember 1 = .ok (.iconst 0, 1) := by decide +kernel
theorem dX5_leaveMember_2 : decode cX5_leaveMember 2 = .ok (.putfield 18, 3) := by decide +kernel
theorem dX5_leaveMember_5 : decode cX5_leaveMember 5 = .ok (.aload_n 0, 1) := by decide +kernel
theorem dX5_leaveMember_6 : decode cX5_leaveMember 6 = .ok (.iconst 0, 1) := by decide +kernel
theorem dX5_leaveMember_7 : decode cX5_leaveMember 7 = .ok (.putfield 22, 3) := by decide +kernel
theorem dX5_leaveMember_10 : decode cX5_leaveMember 10 = .ok (.aload_n 0, 1) := by decide +kernel
theorem dX5_leaveMember_11 : decode cX5_leaveMember 11 = .ok (.iconst 0, 1) := by decide +kernel
theorem dX5_leaveMember_12 : decode cX5_leaveMember 12 = .ok (.putfield 25, 3) := by decide +kernel
theorem dX5_leaveMember_15 : decode cX5_leaveMember 15 = .ok (.aload_n 0, 1) := by decide +kernel
theorem dX5_leaveMember_16 : decode cX5_leaveMember 16 = .ok (.iconst 0, 1) := by decide +kernel
theorem dX5_leaveMember_17 : decode cX5_leaveMember 17 = .ok (.putfield 29, 3) := by decide +kernel
theorem dX5_leaveMember_20 : decode cX5_leaveMember 20 = .ok (.return_, 1) := by decide +kernel
theorem dX7_wipe_0 : decode cX7_wipe 0 = .ok (.aload_n 0, 1) := by decide +kernel
theorem dX7_wipe_1 : decode cX7_wipe 1 = .ok (.iconst 0, 1) := by decide +kernel
theorem dX7_wipe_2 : decode cX7_wipe 2 = .ok (.putfield 58, 3) := by decide +kernel
theorem dX7_wipe_5 : decode cX7_wipe 5 = .ok (.aload_n 0, 1) := by decide +kernel
theorem dX7_wipe_6 : decode cX7_wipe 6 = .ok (.iconst 0, 1) := by decide +kernel
theorem dX7_wipe_7 : decode cX7_wipe 7 = .ok (.putfield 62, 3) := by decide +kernel
theorem dX7_wipe_10 : decode cX7_wipe 10 = .ok (.aload_n 0, 1) := by decide +kernel
theorem dX7_wipe_11 : decode cX7_wipe 11 = .ok (.iconst 0, 1) := by decide +kernel
theorem dX7_wipe_12 : decode cX7_wipe 12 = .ok (.putfield 65, 3) := by decide +kernel
theorem dX7_wipe_15 : decode cX7_wipe 15 = .ok (.aload_n 0, 1) := by decide +kernel
theorem dX7_wipe_16 : decode cX7_wipe 16 = .ok (.iconst 0, 1) := by decide +kernel
theorem dX7_wipe_17 : decode cX7_wipe 17 = .ok (.putfield 68, 3) := by decide +kernel
theorem dX7_wipe_20 : decode cX7_wipe 20 = .ok (.aload_n 0, 1) := by decide +kernel
theorem dX7_wipe_21 : decode cX7_wipe 21 = .ok (.iconst 0, 1) := by decide +kernel
theorem dX7_wipe_22 : decode cX7_wipe 22 = .ok (.putfield 71, 3) := by decide +kernel
theorem dX7_wipe_25 : decode cX7_wipe 25 = .ok (.aload_n 0, 1) := by decide +kernel
theorem dX7_wipe_26 : decode cX7_wipe 26 = .ok (.iconst 0, 1) := by decide +kernel
theorem dX7_wipe_27 : decode cX7_wipe 27 = .ok (.putfield 74, 3) := by decide +kernel
theorem dX7_wipe_30 : decode cX7_wipe 30 = .ok (.aload_n 0, 1) := by decide +kernel
theorem dX7_wipe_31 : decode cX7_wipe 31 = .ok (.iconst 0, 1) := by decide +kernel
theorem dX7_wipe_32 : decode cX7_wipe 32 = .ok (.putfield 77, 3) := by decide +kernel
theorem dX7_wipe_35 : decode cX7_wipe 35 = .ok (.return_, 1) := by decide +kernel
theorem dX8_takeApart_0 : decode cX8_takeApart 0 = .ok (.aload_n 0, 1) := by decide +kernel
theorem dX8_takeApart_1 : decode cX8_takeApart 1 = .ok (.aload_n 1, 1) := by decide +kernel
theorem dX8_takeApart_2 : decode cX8_takeApart 2 = .ok (.putfield 25, 3) := by decide +kernel
theorem dX8_takeApart_5 : decode cX8_takeApart 5 = .ok (.aload_n 0, 1) := by decide +kernel
theorem dX8_takeApart_6 : decode cX8_takeApart 6 = .ok (.iload_n 2, 1) := by decide +kernel
theorem dX8_takeApart_7 : decode cX8_takeApart 7 = .ok (.aload_n 1, 1) := by decide +kernel
theorem dX8_takeApart_8 : decode cX8_takeApart 8 = .ok (.arraylength, 1) := by decide +kernel
theorem dX8_takeApart_9 : decode cX8_takeApart 9 = .ok (.invokestatic 57, 3) := by decide +kernel
theorem dX8_takeApart_12 : decode cX8_takeApart 12 = .ok (.putfield 63, 3) := by decide +kernel
theorem dX8_takeApart_15 : decode cX8_takeApart 15 = .ok (.aload_n 0, 1) := by decide +kernel
theorem dX8_takeApart_16 : decode cX8_takeApart 16 = .ok (.iconst 0, 1) := by decide +kernel
theorem dX8_takeApart_17 : decode cX8_takeApart 17 = .ok (.putfield 65, 3) := by decide +kernel
theorem dX8_takeApart_20 : decode cX8_takeApart 20 = .ok (.aload_n 0, 1) := by decide +kernel
theorem dX8_takeApart_21 : decode cX8_takeApart 21 = .ok (.iconst 0, 1) := by decide +kernel
theorem dX8_takeApart_22 : decode cX8_takeApart 22 = .ok (.putfield 68, 3) := by decide +kernel
theorem dX8_takeApart_25 : decode cX8_takeApart 25 = .ok (.aload_n 0, 1) := by decide +kernel
theorem dX8_takeApart_26 : decode cX8_takeApart 26 = .ok (.iconst (-1), 1) := by decide +kernel
theorem dX8_takeApart_27 : decode cX8_takeApart 27 = .ok (.putfield 29, 3) := by decide +kernel
theorem dX8_takeApart_30 : decode cX8_takeApart 30 = .ok (.iconst 0, 1) := by decide +kernel
theorem dX8_takeApart_31 : decode cX8_takeApart 31 = .ok (.istore_n 3, 1) := by decide +kernel
theorem dX8_takeApart_32 : decode cX8_takeApart 32 = .ok (.iconst 0, 1) := by decide +kernel
theorem dX8_takeApart_33 : decode cX8_takeApart 33 = .ok (.istore 4, 2) := by decide +kernel
theorem dX8_takeApart_35 : decode cX8_takeApart 35 = .ok (.iconst 0, 1) := by decide +kernel
theorem dX8_takeApart_36 : decode cX8_takeApart 36 = .ok (.istore 5, 2) := by decide +kernel
theorem dX8_takeApart_38 : decode cX8_takeApart 38 = .ok (.iload 5, 2) := by decide +kernel
theorem dX8_takeApart_40 : decode cX8_takeApart 40 = .ok (.sipush 1200, 3) := by decide +kernel
theorem dX8_takeApart_43 : decode cX8_takeApart 43 = .ok (.if_icmp .gt 46, 3) := by decide +kernel
theorem dX8_takeApart_46 : decode cX8_takeApart 46 = .ok (.iload 4, 2) := by decide +kernel
theorem dX8_takeApart_48 : decode cX8_takeApart 48 = .ok (.iconst 1, 1) := by decide +kernel
theorem dX8_takeApart_49 : decode cX8_takeApart 49 = .ok (.if_icmp .eq 40, 3) := by decide +kernel
theorem dX8_takeApart_52 : decode cX8_takeApart 52 = .ok (.iload 4, 2) := by decide +kernel
theorem dX8_takeApart_54 : decode cX8_takeApart 54 = .ok (.iconst 2, 1) := by decide +kernel
theorem dX8_takeApart_55 : decode cX8_takeApart 55 = .ok (.if_icmp .eq 34, 3) := by decide +kernel
theorem dX8_takeApart_58 : decode cX8_takeApart 58 = .ok (.aload_n 0, 1) := by decide +kernel
theorem dX8_takeApart_59 : decode cX8_takeApart 59 = .ok (.iload_n 3, 1) := by decide +kernel
theorem dX8_takeApart_60 : decode cX8_takeApart 60 = .ok (.invokevirtual 71, 3) := by decide +kernel
theorem dX8_takeApart_63 : decode cX8_takeApart 63 = .ok (.istore_n 3, 1) := by decide +kernel
theorem dX8_takeApart_64 : decode cX8_takeApart 64 = .ok (.iload_n 3, 1) := by decide +kernel
theorem dX8_takeApart_65 : decode cX8_takeApart 65 = .ok (.aload_n 0, 1) := by decide +kernel
theorem dX8_takeApart_66 : decode cX8_takeApart 66 = .ok (.iload 5, 2) := by decide +kernel
theorem dX8_takeApart_68 : decode cX8_takeApart 68 = .ok (.iload_n 3, 1) := by decide +kernel
theorem dX8_takeApart_69 : decode cX8_takeApart 69 = .ok (.invokevirtual 74, 3) := by decide +kernel
theorem dX8_takeApart_72 : decode cX8_takeApart 72 = .ok (.iadd, 1) := by decide +kernel
theorem dX8_takeApart_73 : decode cX8_takeApart 73 = .ok (.istore_n 3, 1) := by decide +kernel
theorem dX8_takeApart_74 : decode cX8_takeApart 74 = .ok (.aload_n 0, 1) := by decide +kernel
theorem dX8_takeApart_75 : decode cX8_takeApart 75 = .ok (.getfield 11, 3) := by decide +kernel
theorem dX8_takeApart_78 : decode cX8_takeApart 78 = .ok (.iload 5, 2) := by decide +kernel
theorem dX8_takeApart_80 : decode cX8_takeApart 80 = .ok (.iaload, 1) := by decide +kernel
theorem dX8_takeApart_81 : decode cX8_takeApart 81 = .ok (.istore 4, 2) := by decide +kernel
theorem dX8_takeApart_83 : decode cX8_takeApart 83 = .ok (.iinc 5 1, 3) := by decide +kernel
theorem dX8_takeApart_86 : decode cX8_takeApart 86 = .ok (.goto (-48), 3) := by decide +kernel
theorem dX8_takeApart_89 : decode cX8_takeApart 89 = .ok (.aload_n 0, 1) := by decide +kernel
theorem dX8_takeApart_90 : decode cX8_takeApart 90 = .ok (.getfield 11, 3) := by decide +kernel
theorem dX8_takeApart_93 : decode cX8_takeApart 93 = .ok (.sipush 1201, 3) := by decide +kernel
theorem dX8_takeApart_96 : decode cX8_takeApart 96 = .ok (.iconst 0, 1) := by decide +kernel
theorem dX8_takeApart_97 : decode cX8_takeApart 97 = .ok (.iastore, 1) := by decide +kernel
theorem dX8_takeApart_98 : decode cX8_takeApart 98 = .ok (.aload_n 0, 1) := by decide +kernel
theorem dX8_takeApart_99 : decode cX8_takeApart 99 = .ok (.getfield 15, 3) := by decide +kernel
theorem dX8_takeApart_102 : decode cX8_takeApart 102 = .ok (.sipush 1201, 3) := by decide +kernel
theorem dX8_takeApart_105 : decode cX8_takeApart 105 = .ok (.aload_n 0, 1) := by decide +kernel
theorem dX8_takeApart_106 : decode cX8_takeApart 106 = .ok (.getfield 63, 3) := by decide +kernel
theorem dX8_takeApart_109 : decode cX8_takeApart 109 = .ok (.iastore, 1) := by decide +kernel
theorem dX8_takeApart_110 : decode cX8_takeApart 110 = .ok (.aload_n 0, 1) := by decide +kernel
theorem dX8_takeApart_111 : decode cX8_takeApart 111 = .ok (.aload_n 0, 1) := by decide +kernel
theorem dX8_takeApart_112 : decode cX8_takeApart 112 = .ok (.aload_n 0, 1) := by decide +kernel
theorem dX8_takeApart_113 : decode cX8_takeApart 113 = .ok (.iload_n 3, 1) := by decide +kernel
theorem dX8_takeApart_114 : decode cX8_takeApart 114 = .ok (.invokevirtual 71, 3) := by decide +kernel
theorem dX8_takeApart_117 : decode cX8_takeApart 117 = .ok (.invokevirtual 77, 3) := by decide +kernel
theorem dX8_takeApart_120 : decode cX8_takeApart 120 = .ok (.bipush 40, 2) := by decide +kernel
theorem dX8_takeApart_122 : decode cX8_takeApart 122 = .ok (.if_icmp .ne 7, 3) := by decide +kernel
theorem dX8_takeApart_125 : decode cX8_takeApart 125 = .ok (.iconst 1, 1) := by decide +kernel
theorem dX8_takeApart_126 : decode cX8_takeApart 126 = .ok (.goto 4, 3) := by decide +kernel
theorem dX8_takeApart_129 : decode cX8_takeApart 129 = .ok (.iconst 0, 1) := by decide +kernel
theorem dX8_takeApart_130 : decode cX8_takeApart 130 = .ok (.putfield 80, 3) := by decide +kernel
theorem dX8_takeApart_133 : decode cX8_takeApart 133 = .ok (.return_, 1) := by decide +kernel
theorem dX8_behindBlanks_0 : decode cX8_behindBlanks 0 = .ok (.iload_n 1, 1) := by decide +kernel
theorem dX8_behindBlanks_1 : decode cX8_behindBlanks 1 = .ok (.istore_n 2, 1) := by decide +kernel
theorem dX8_behindBlanks_2 : decode cX8_behindBlanks 2 = .ok (.iload_n 2, 1) := by decide +kernel
theorem dX8_behindBlanks_3 : decode cX8_behindBlanks 3 = .ok (.aload_n 0, 1) := by decide +kernel
theorem dX8_behindBlanks_4 : decode cX8_behindBlanks 4 = .ok (.getfield 63, 3) := by decide +kernel
theorem dX8_behindBlanks_7 : decode cX8_behindBlanks 7 = .ok (.if_icmp .ge 29, 3) := by decide +kernel
theorem dX8_behindBlanks_10 : decode cX8_behindBlanks 10 = .ok (.aload_n 0, 1) := by decide +kernel
theorem dX8_behindBlanks_11 : decode cX8_behindBlanks 11 = .ok (.iload_n 2, 1) := by decide +kernel
theorem dX8_behindBlanks_12 : decode cX8_behindBlanks 12 = .ok (.invokevirtual 77, 3) := by decide +kernel
theorem dX8_behindBlanks_15 : decode cX8_behindBlanks 15 = .ok (.bipush 32, 2) := by decide +kernel
theorem dX8_behindBlanks_17 : decode cX8_behindBlanks 17 = .ok (.if_icmp .eq 13, 3) := by decide +kernel
theorem dX8_behindBlanks_20 : decode cX8_behindBlanks 20 = .ok (.aload_n 0, 1) := by decide +kernel
theorem dX8_behindBlanks_21 : decode cX8_behindBlanks 21 = .ok (.iload_n 2, 1) := by decide +kernel
theorem dX8_behindBlanks_22 : decode cX8_behindBlanks 22 = .ok (.invokevirtual 77, 3) := by decide +kernel
theorem dX8_behindBlanks_25 : decode cX8_behindBlanks 25 = .ok (.bipush 10, 2) := by decide +kernel
theorem dX8_behindBlanks_27 : decode cX8_behindBlanks 27 = .ok (.if_icmp .ne 9, 3) := by decide +kernel
theorem dX8_behindBlanks_30 : decode cX8_behindBlanks 30 = .ok (.iinc 2 1, 3) := by decide +kernel
theorem dX8_behindBlanks_33 : decode cX8_behindBlanks 33 = .ok (.goto (-31), 3) := by decide +kernel
theorem dX8_behindBlanks_36 : decode cX8_behindBlanks 36 = .ok (.iload_n 2, 1) := by decide +kernel
theorem dX8_behindBlanks_37 : decode cX8_behindBlanks 37 = .ok (.ireturn, 1) := by decide +kernel
theorem dX8_byteAt_0 : decode cX8_byteAt 0 = .ok (.iload_n 1, 1) := by decide +kernel
theorem dX8_byteAt_1 : decode cX8_byteAt 1 = .ok (.ifCond .lt 24, 3) := by decide +kernel
theorem dX8_byteAt_4 : decode cX8_byteAt 4 = .ok (.iload_n 1, 1) := by decide +kernel
theorem dX8_byteAt_5 : decode cX8_byteAt 5 = .ok (.aload_n 0, 1) := by decide +kernel
theorem dX8_byteAt_6 : decode cX8_byteAt 6 = .ok (.getfield 63, 3) := by decide +kernel
theorem dX8_byteAt_9 : decode cX8_byteAt 9 = .ok (.if_icmp .ge 16, 3) := by decide +kernel
theorem dX8_byteAt_12 : decode cX8_byteAt 12 = .ok (.aload_n 0, 1) := by decide +kernel
theorem dX8_byteAt_13 : decode cX8_byteAt 13 = .ok (.getfield 25, 3) := by decide +kernel
theorem dX8_byteAt_16 : decode cX8_byteAt 16 = .ok (.iload_n 1, 1) := by decide +kernel
theorem dX8_byteAt_17 : decode cX8_byteAt 17 = .ok (.baload, 1) := by decide +kernel
theorem dX8_byteAt_18 : decode cX8_byteAt 18 = .ok (.sipush 255, 3) := by decide +kernel
theorem dX8_byteAt_21 : decode cX8_byteAt 21 = .ok (.iand, 1) := by decide +kernel
theorem dX8_byteAt_22 : decode cX8_byteAt 22 = .ok (.goto 4, 3) := by decide +kernel
theorem dX8_byteAt_25 : decode cX8_byteAt 25 = .ok (.iconst 0, 1) := by decide +kernel
theorem dX8_byteAt_26 : decode cX8_byteAt 26 = .ok (.ireturn, 1) := by decide +kernel
theorem dX8_takeToken_0 : decode cX8_takeToken 0 = .ok (.aload_n 0, 1) := by decide +kernel
theorem dX8_takeToken_1 : decode cX8_takeToken 1 = .ok (.getfield 15, 3) := by decide +kernel
theorem dX8_takeToken_4 : decode cX8_takeToken 4 = .ok (.iload_n 1, 1) := by decide +kernel
theorem dX8_takeToken_5 : decode cX8_takeToken 5 = .ok (.iload_n 2, 1) := by decide +kernel
theorem dX8_takeToken_6 : decode cX8_takeToken 6 = .ok (.iastore, 1) := by decide +kernel
theorem dX8_takeToken_7 : decode cX8_takeToken 7 = .ok (.aload_n 0, 1) := by decide +kernel
theorem dX8_takeToken_8 : decode cX8_takeToken 8 = .ok (.getfield 18, 3) := by decide +kernel
theorem dX8_takeToken_11 : decode cX8_takeToken 11 = .ok (.iload_n 1, 1) := by decide +kernel
theorem dX8_takeToken_12 : decode cX8_takeToken 12 = .ok (.lconst 0, 1) := by decide +kernel
theorem dX8_takeToken_13 : decode cX8_takeToken 13 = .ok (.lastore, 1) := by decide +kernel
theorem dX8_takeToken_14 : decode cX8_takeToken 14 = .ok (.aload_n 0, 1) := by decide +kernel
theorem dX8_takeToken_15 : decode cX8_takeToken 15 = .ok (.iload_n 2, 1) := by decide +kernel
theorem dX8_takeToken_16 : decode cX8_takeToken 16 = .ok (.invokevirtual 77, 3) := by decide +kernel
theorem dX8_takeToken_19 : decode cX8_takeToken 19 = .ok (.istore_n 3, 1) := by decide +kernel
theorem dX8_takeToken_20 : decode cX8_takeToken 20 = .ok (.iload_n 2, 1) := by decide +kernel
theorem dX8_takeToken_21 : decode cX8_takeToken 21 = .ok (.aload_n 0, 1) := by decide +kernel
theorem dX8_takeToken_22 : decode cX8_takeToken 22 = .ok (.getfield 63, 3) := by decide +kernel
theorem dX8_takeToken_25 : decode cX8_takeToken 25 = .ok (.if_icmp .lt 12, 3) := by decide +kernel
theorem dX8_takeToken_28 : decode cX8_takeToken 28 = .ok (.aload_n 0, 1) := by decide +kernel
theorem dX8_takeToken_29 : decode cX8_takeToken 29 = .ok (.getfield 11, 3) := by decide +kernel
theorem dX8_takeToken_32 : decode cX8_takeToken 32 = .ok (.iload_n 1, 1) := by decide +kernel
theorem dX8_takeToken_33 : decode cX8_takeToken 33 = .ok (.iconst 1, 1) := by decide +kernel
theorem dX8_takeToken_34 : decode cX8_takeToken 34 = .ok (.iastore, 1) := by decide +kernel
theorem dX8_takeToken_35 : decode cX8_takeToken 35 = .ok (.iconst 0, 1) := by decide +kernel
theorem dX8_takeToken_36 : decode cX8_takeToken 36 = .ok (.ireturn, 1) := by decide +kernel
theorem dX8_takeToken_37 : decode cX8_takeToken 37 = .ok (.iload_n 3, 1) := by decide +kernel
theorem dX8_takeToken_38 : decode cX8_takeToken 38 = .ok (.bipush 97, 2) := by decide +kernel
theorem dX8_takeToken_40 : decode cX8_takeToken 40 = .ok (.if_icmp .lt 16, 3) := by decide +kernel
theorem dX8_takeToken_43 : decode cX8_takeToken 43 = .ok (.iload_n 3, 1) := by decide +kernel
theorem dX8_takeToken_44 : decode cX8_takeToken 44 = .ok (.bipush 122, 2) := by decide +kernel
theorem dX8_takeToken_46 : decode cX8_takeToken 46 = .ok (.if_icmp .gt 10, 3) := by decide +kernel
theorem dX8_takeToken_49 : decode cX8_takeToken 49 = .ok (.aload_n 0, 1) := by decide +kernel
theorem dX8_takeToken_50 : decode cX8_takeToken 50 = .ok (.iload_n 1, 1) := by decide +kernel
theorem dX8_takeToken_51 : decode cX8_takeToken 51 = .ok (.iload_n 2, 1) := by decide +kernel
theorem dX8_takeToken_52 : decode cX8_takeToken 52 = .ok (.invokevirtual 84, 3) := by decide +kernel
theorem dX8_takeToken_55 : decode cX8_takeToken 55 = .ok (.ireturn, 1) := by decide +kernel
theorem dX8_takeToken_56 : decode cX8_takeToken 56 = .ok (.iload_n 3, 1) := by decide +kernel
theorem dX8_takeToken_57 : decode cX8_takeToken 57 = .ok (.bipush 48, 2) := by decide +kernel
theorem dX8_takeToken_59 : decode cX8_takeToken 59 = .ok (.if_icmp .lt 16, 3) := by decide +kernel
theorem dX8_takeToken_62 : decode cX8_takeToken 62 = .ok (.iload_n 3, 1) := by decide +kernel
theorem dX8_takeToken_63 : decode cX8_takeToken 63 = .ok (.bipush 57, 2) := by decide +kernel
theorem dX8_takeToken_65 : decode cX8_takeToken 65 = .ok (.if_icmp .gt 10, 3) := by decide +kernel
theorem dX8_takeToken_68 : decode cX8_takeToken 68 = .ok (.aload_n 0, 1) := by decide +kernel
theorem dX8_takeToken_69 : decode cX8_takeToken 69 = .ok (.iload_n 1, 1) := by decide +kernel
theorem dX8_takeToken_70 : decode cX8_takeToken 70 = .ok (.iload_n 2, 1) := by decide +kernel
theorem dX8_takeToken_71 : decode cX8_takeToken 71 = .ok (.invokevirtual 87, 3) := by decide +kernel
theorem dX8_takeToken_74 : decode cX8_takeToken 74 = .ok (.ireturn, 1) := by decide +kernel
theorem dX8_takeToken_75 : decode cX8_takeToken 75 = .ok (.aload_n 0, 1) := by decide +kernel
theorem dX8_takeToken_76 : decode cX8_takeToken 76 = .ok (.getfield 11, 3) := by decide +kernel
theorem dX8_takeToken_79 : decode cX8_takeToken 79 = .ok (.iload_n 1, 1) := by decide +kernel
theorem dX8_takeToken_80 : decode cX8_takeToken 80 = .ok (.iload_n 3, 1) := by decide +kernel
theorem dX8_takeToken_81 : decode cX8_takeToken 81 = .ok (.aload_n 0, 1) := by decide +kernel
theorem dX8_takeToken_82 : decode cX8_takeToken 82 = .ok (.iload_n 2, 1) := by decide +kernel
theorem dX8_takeToken_83 : decode cX8_takeToken 83 = .ok (.iconst 1, 1) := by decide +kernel
theorem dX8_takeToken_84 : decode cX8_takeToken 84 = .ok (.iadd, 1) := by decide +kernel
theorem dX8_takeToken_85 : decode cX8_takeToken 85 = .ok (.invokevirtual 77, 3) := by decide +kernel
theorem dX8_takeToken_88 : decode cX8_takeToken 88 = .ok (.invokestatic 90, 3) := by decide +kernel
theorem dX8_takeToken_91 : decode cX8_takeToken 91 = .ok (.iastore, 1) := by decide +kernel
theorem dX8_takeToken_92 : decode cX8_takeToken 92 = .ok (.aload_n 0, 1) := by decide +kernel
theorem dX8_takeToken_93 : decode cX8_takeToken 93 = .ok (.getfield 11, 3) := by decide +kernel
theorem dX8_takeToken_96 : decode cX8_takeToken 96 = .ok (.iload_n 1, 1) := by decide +kernel
theorem dX8_takeToken_97 : decode cX8_takeToken 97 = .ok (.iaload, 1) := by decide +kernel
theorem dX8_takeToken_98 : decode cX8_takeToken 98 = .ok (.iconst 2, 1) := by decide +kernel
theorem dX8_takeToken_99 : decode cX8_takeToken 99 = .ok (.if_icmp .eq 5, 3) := by decide +kernel
theorem dX8_takeToken_102 : decode cX8_takeToken 102 = .ok (.iconst 2, 1) := by decide +kernel
theorem dX8_takeToken_103 : decode cX8_takeToken 103 = .ok (.ireturn, 1) := by decide +kernel
theorem dX8_takeToken_104 : decode cX8_takeToken 104 = .ok (.ldc 93, 2) := by decide +kernel
theorem dX8_takeToken_106 : decode cX8_takeToken 106 = .ok (.iload_n 3, 1) := by decide +kernel
theorem dX8_takeToken_107 : decode cX8_takeToken 107 = .ok (.i2c, 1) := by decide +kernel
theorem dX8_takeToken_108 : decode cX8_takeToken 108 = .ok (.invokevirtual 95, 3) := by decide +kernel
theorem dX8_takeToken_111 : decode cX8_takeToken 111 = .ok (.ifCond .lt 10, 3) := by decide +kernel
theorem dX8_takeToken_114 : decode cX8_takeToken 114 = .ok (.aload_n 0, 1) := by decide +kernel
theorem dX8_takeToken_115 : decode cX8_takeToken 115 = .ok (.getfield 11, 3) := by decide +kernel
theorem dX8_takeToken_118 : decode cX8_takeToken 118 = .ok (.iload_n 1, 1) := by decide +kernel
theorem dX8_takeToken_119 : decode cX8_takeToken 119 = .ok (.iload_n 3, 1) := by decide +kernel
theorem dX8_takeToken_120 : decode cX8_takeToken 120 = .ok (.iastore, 1) := by decide +kernel
theorem dX8_takeToken_121 : decode cX8_takeToken 121 = .ok (.iconst 1, 1) := by decide +kernel
theorem dX8_takeToken_122 : decode cX8_takeToken 122 = .ok (.ireturn, 1) := by decide +kernel
theorem dX8_kind_0 : decode cX8_kind 0 = .ok (.aload_n 0, 1) := by decide +kernel
theorem dX8_kind_1 : decode cX8_kind 1 = .ok (.getfield 11, 3) := by decide +kernel
theorem dX8_kind_4 : decode cX8_kind 4 = .ok (.aload_n 0, 1) := by decide +kernel
theorem dX8_kind_5 : decode cX8_kind 5 = .ok (.getfield 65, 3) := by decide +kernel
theorem dX8_kind_8 : decode cX8_kind 8 = .ok (.iaload, 1) := by decide +kernel
theorem dX8_kind_9 : decode cX8_kind 9 = .ok (.ireturn, 1) := by decide +kernel
theorem dX8_place_0 : decode cX8_place 0 = .ok (.aload_n 0, 1) := by decide +kernel
theorem dX8_place_1 : decode cX8_place 1 = .ok (.getfield 15, 3) := by decide +kernel
theorem dX8_place_4 : decode cX8_place 4 = .ok (.aload_n 0, 1) := by decide +kernel
theorem dX8_place_5 : decode cX8_place 5 = .ok (.getfield 65, 3) := by decide +kernel
theorem dX8_place_8 : decode cX8_place 8 = .ok (.iaload, 1) := by decide +kernel
theorem dX8_place_9 : decode cX8_place 9 = .ok (.ireturn, 1) := by decide +kernel
theorem dX8_value_0 : decode cX8_value 0 = .ok (.aload_n 0, 1) := by decide +kernel
theorem dX8_value_1 : decode cX8_value 1 = .ok (.getfield 18, 3) := by decide +kernel
theorem dX8_value_4 : decode cX8_value 4 = .ok (.aload_n 0, 1) := by decide +kernel
theorem dX8_value_5 : decode cX8_value 5 = .ok (.getfield 65, 3) := by decide +kernel
theorem dX8_value_8 : decode cX8_value 8 = .ok (.laload, 1) := by decide +kernel
theorem dX8_value_9 : decode cX8_value 9 = .ok (.lreturn, 1) := by decide +kernel
theorem dX8_next_0 : decode cX8_next 0 = .ok (.aload_n 0, 1) := by decide +kernel
theorem dX8_next_1 : decode cX8_next 1 = .ok (.getfield 65, 3) := by decide +kernel
theorem dX8_next_4 : decode cX8_next 4 = .ok (.sipush 1200, 3) := by decide +kernel
theorem dX8_next_7 : decode cX8_next 7 = .ok (.if_icmp .gt 13, 3) := by decide +kernel
theorem dX8_next_10 : decode cX8_next 10 = .ok (.aload_n 0, 1) := by decide +kernel
theorem dX8_next_11 : decode cX8_next 11 = .ok (.dup, 1) := by decide +kernel
theorem dX8_next_12 : decode cX8_next 12 = .ok (.getfield 65, 3) := by decide +kernel
theorem dX8_next_15 : decode cX8_next 15 = .ok (.iconst 1, 1) := by decide +kernel
theorem dX8_next_16 : decode cX8_next 16 = .ok (.iadd, 1) := by decide +kernel
theorem dX8_next_17 : decode cX8_next 17 = .ok (.putfield 65, 3) := by decide +kernel
theorem dX8_next_20 : decode cX8_next 20 = .ok (.return_, 1) := by decide +kernel
theorem dX8_fail_0 : decode cX8_fail 0 = .ok (.aload_n 0, 1) := by decide +kernel
theorem dX8_fail_1 : decode cX8_fail 1 = .ok (.getfield 65, 3) := by decide +kernel
theorem dX8_fail_4 : decode cX8_fail 4 = .ok (.sipush 1200, 3) := by decide +kernel
theorem dX8_fail_7 : decode cX8_fail 7 = .ok (.if_icmp .le 24, 3) := by decide +kernel
theorem dX8_fail_10 : decode cX8_fail 10 = .ok (.iload_n 1, 1) := by decide +kernel
theorem dX8_fail_11 : decode cX8_fail 11 = .ok (.iconst 4, 1) := by decide +kernel
theorem dX8_fail_12 : decode cX8_fail 12 = .ok (.if_icmp .gt 15, 3) := by decide +kernel
theorem dX8_fail_15 : decode cX8_fail 15 = .ok (.iload_n 2, 1) := by decide +kernel
theorem dX8_fail_16 : decode cX8_fail 16 = .ok (.aload_n 0, 1) := by decide +kernel
theorem dX8_fail_17 : decode cX8_fail 17 = .ok (.getfield 15, 3) := by decide +kernel
theorem dX8_fail_20 : decode cX8_fail 20 = .ok (.sipush 1200, 3) := by decide +kernel
theorem dX8_fail_23 : decode cX8_fail 23 = .ok (.iaload, 1) := by decide +kernel
theorem dX8_fail_24 : decode cX8_fail 24 = .ok (.if_icmp .eq 7, 3) := by decide +kernel
theorem dX8_fail_27 : decode cX8_fail 27 = .ok (.iconst 1, 1) := by decide +kernel
theorem dX8_fail_28 : decode cX8_fail 28 = .ok (.goto 4, 3) := by decide +kernel
theorem dX8_fail_31 : decode cX8_fail 31 = .ok (.iconst 0, 1) := by decide +kernel
theorem dX8_fail_32 : decode cX8_fail 32 = .ok (.istore_n 3, 1) := by decide +kernel
theorem dX8_fail_33 : decode cX8_fail 33 = .ok (.aload_n 0, 1) := by decide +kernel
theorem dX8_fail_34 : decode cX8_fail 34 = .ok (.getfield 68, 3) := by decide +kernel
theorem dX8_fail_37 : decode cX8_fail 37 = .ok (.ifCond .ne 36, 3) := by decide +kernel
theorem dX8_fail_40 : decode cX8_fail 40 = .ok (.aload_n 0, 1) := by decide +kernel
theorem dX8_fail_41 : decode cX8_fail 41 = .ok (.iload_n 3, 1) := by decide +kernel
theorem dX8_fail_42 : decode cX8_fail 42 = .ok (.ifCond .eq 7, 3) := by decide +kernel
theorem dX8_fail_45 : decode cX8_fail 45 = .ok (.iconst 4, 1) := by decide +kernel
theorem dX8_fail_46 : decode cX8_fail 46 = .ok (.goto 4, 3) := by decide +kernel
theorem dX8_fail_49 : decode cX8_fail 49 = .ok (.iload_n 1, 1) := by decide +kernel
theorem dX8_fail_50 : decode cX8_fail 50 = .ok (.putfield 68, 3) := by decide +kernel
theorem dX8_fail_53 : decode cX8_fail 53 = .ok (.aload_n 0, 1) := by decide +kernel
theorem dX8_fail_54 : decode cX8_fail 54 = .ok (.iload_n 3, 1) := by decide +kernel
theorem dX8_fail_55 : decode cX8_fail 55 = .ok (.ifCond .eq 14, 3) := by decide +kernel
theorem dX8_fail_58 : decode cX8_fail 58 = .ok (.aload_n 0, 1) := by decide +kernel
theorem dX8_fail_59 : decode cX8_fail 59 = .ok (.getfield 15, 3) := by decide +kernel
theorem dX8_fail_62 : decode cX8_fail 62 = .ok (.sipush 1200, 3) := by decide +kernel
theorem dX8_fail_65 : decode cX8_fail 65 = .ok (.iaload, 1) := by decide +kernel
theorem dX8_fail_66 : decode cX8_fail 66 = .ok (.goto 4, 3) := by decide +kernel
theorem dX8_fail_69 : decode cX8_fail 69 = .ok (.iload_n 2, 1) := by decide +kernel
theorem dX8_fail_70 : decode cX8_fail 70 = .ok (.putfield 29, 3) := by decide +kernel
theorem dX8_fail_73 : decode cX8_fail 73 = .ok (.aload_n 0, 1) := by decide +kernel
theorem dX8_fail_74 : decode cX8_fail 74 = .ok (.sipush 1201, 3) := by decide +kernel
theorem dX8_fail_77 : decode cX8_fail 77 = .ok (.putfield 65, 3) := by decide +kernel
theorem dX8_fail_80 : decode cX8_fail 80 = .ok (.return_, 1) := by decide +kernel
theorem dX8_take_0 : decode cX8_take 0 = .ok (.aload_n 0, 1) := by decide +kernel
theorem dX8_take_1 : decode cX8_take 1 = .ok (.getfield 11, 3) := by decide +kernel
theorem dX8_take_4 : decode cX8_take 4 = .ok (.aload_n 0, 1) := by decide +kernel
theorem dX8_take_5 : decode cX8_take 5 = .ok (.getfield 65, 3) := by decide +kernel
theorem dX8_take_8 : decode cX8_take 8 = .ok (.iaload, 1) := by decide +kernel
theorem dX8_take_9 : decode cX8_take 9 = .ok (.iload_n 1, 1) := by decide +kernel
theorem dX8_take_10 : decode cX8_take 10 = .ok (.if_icmp .ne 10, 3) := by decide +kernel
theorem dX8_take_13 : decode cX8_take 13 = .ok (.aload_n 0, 1) := by decide +kernel
theorem dX8_take_14 : decode cX8_take 14 = .ok (.invokevirtual 100, 3) := by decide +kernel
theorem dX8_take_17 : decode cX8_take 17 = .ok (.goto 17, 3) := by decide +kernel
theorem dX8_take_20 : decode cX8_take 20 = .ok (.aload_n 0, 1) := by decide +kernel
theorem dX8_take_21 : decode cX8_take 21 = .ok (.iconst 1, 1) := by decide +kernel
theorem dX8_take_22 : decode cX8_take 22 = .ok (.aload_n 0, 1) := by decide +kernel
theorem dX8_take_23 : decode cX8_take 23 = .ok (.getfield 15, 3) := by decide +kernel
theorem dX8_take_26 : decode cX8_take 26 = .ok (.aload_n 0, 1) := by decide +kernel
theorem dX8_take_27 : decode cX8_take 27 = .ok (.getfield 65, 3) := by decide +kernel
theorem dX8_take_30 : decode cX8_take 30 = .ok (.iaload, 1) := by decide +kernel
theorem dX8_take_31 : decode cX8_take 31 = .ok (.invokevirtual 103, 3) := by decide +kernel
theorem dX8_take_34 : decode cX8_take 34 = .ok (.return_, 1) := by decide +kernel
theorem dX11_classes_0 : decode cX11_classes 0 = .ok (.aload_n 0, 1) := by decide +kernel
theorem dX11_classes_1 : decode cX11_classes 1 = .ok (.getfield 20, 3) := by decide +kernel
theorem dX11_classes_4 : decode cX11_classes 4 = .ok (.aload_n 0, 1) := by decide +kernel
theorem dX11_classes_5 : decode cX11_classes 5 = .ok (.getfield 9, 3) := by decide +kernel
theorem dX11_classes_8 : decode cX11_classes 8 = .ok (.aload_n 0, 1) := by decide +kernel
theorem dX11_classes_9 : decode cX11_classes 9 = .ok (.getfield 13, 3) := by decide +kernel
theorem dX11_classes_12 : decode cX11_classes 12 = .ok (.aload_n 0, 1) := by decide +kernel
theorem dX11_classes_13 : decode cX11_classes 13 = .ok (.getfield 31, 3) := by decide +kernel
theorem dX11_classes_16 : decode cX11_classes 16 = .ok (.invokevirtual 53, 3) := by decide +kernel
theorem dX11_classes_19 : decode cX11_classes 19 = .ok (.aload_n 0, 1) := by decide +kernel
theorem dX11_classes_20 : decode cX11_classes 20 = .ok (.getfield 20, 3) := by decide +kernel
theorem dX11_classes_23 : decode cX11_classes 23 = .ok (.invokevirtual 57, 3) := by decide +kernel
theorem dX11_classes_26 : decode cX11_classes 26 = .ok (.iconst 0, 1) := by decide +kernel
theorem dX11_classes_27 : decode cX11_classes 27 = .ok (.istore_n 1, 1) := by decide +kernel
theorem dX11_classes_28 : decode cX11_classes 28 = .ok (.iload_n 1, 1) := by decide +kernel
theorem dX11_classes_29 : decode cX11_classes 29 = .ok (.bipush 8, 2) := by decide +kernel
theorem dX11_classes_31 : decode cX11_classes 31 = .ok (.if_icmp .gt 26, 3) := by decide +kernel
theorem dX11_classes_34 : decode cX11_classes 34 = .ok (.aload_n 0, 1) := by decide +kernel
theorem dX11_classes_35 : decode cX11_classes 35 = .ok (.getfield 20, 3) := by decide +kernel
theorem dX11_classes_38 : decode cX11_classes 38 = .ok (.invokevirtual 60, 3) := by decide +kernel
theorem dX11_classes_41 : decode cX11_classes 41 = .ok (.ifCond .eq 16, 3) := by decide +kernel
theorem dX11_classes_44 : decode cX11_classes 44 = .ok (.aload_n 0, 1) := by decide +kernel
theorem dX11_classes_45 : decode cX11_classes 45 = .ok (.getfield 20, 3) := by decide +kernel
theorem dX11_classes_48 : decode cX11_classes 48 = .ok (.invokevirtual 57, 3) := by decide +kernel
theorem dX11_classes_51 : decode cX11_classes 51 = .ok (.iinc 1 1, 3) := by decide +kernel
theorem dX11_classes_54 : decode cX11_classes 54 = .ok (.goto (-26), 3) := by decide +kernel
theorem dX11_classes_57 : decode cX11_classes 57 = .ok (.aload_n 0, 1) := by decide +kernel
theorem dX11_classes_58 : decode cX11_classes 58 = .ok (.getfield 20, 3) := by decide +kernel
theorem dX11_classes_61 : decode cX11_classes 61 = .ok (.invokevirtual 64, 3) := by decide +kernel
theorem dX11_classes_64 : decode cX11_classes 64 = .ok (.aload_n 0, 1) := by decide +kernel
theorem dX11_classes_65 : decode cX11_classes 65 = .ok (.iconst 0, 1) := by decide +kernel
theorem dX11_classes_66 : decode cX11_classes 66 = .ok (.putfield 13, 3) := by decide +kernel
theorem dX11_classes_69 : decode cX11_classes 69 = .ok (.aload_n 0, 1) := by decide +kernel
theorem dX11_classes_70 : decode cX11_classes 70 = .ok (.aload_n 0, 1) := by decide +kernel
theorem dX11_classes_71 : decode cX11_classes 71 = .ok (.getfield 20, 3) := by decide +kernel
theorem dX11_classes_74 : decode cX11_classes 74 = .ok (.invokevirtual 67, 3) := by decide +kernel
theorem dX11_classes_77 : decode cX11_classes 77 = .ok (.putfield 43, 3) := by decide +kernel
theorem dX11_classes_80 : decode cX11_classes 80 = .ok (.aload_n 0, 1) := by decide +kernel
theorem dX11_classes_81 : decode cX11_classes 81 = .ok (.aload_n 0, 1) := by decide +kernel
theorem dX11_classes_82 : decode cX11_classes 82 = .ok (.getfield 20, 3) := by decide +kernel
theorem dX11_classes_85 : decode cX11_classes 85 = .ok (.invokevirtual 70, 3) := by decide +kernel
theorem dX11_classes_88 : decode cX11_classes 88 = .ok (.putfield 46, 3) := by decide +kernel
theorem dX11_classes_91 : decode cX11_classes 91 = .ok (.aload_n 0, 1) := by decide +kernel
theorem dX11_classes_92 : decode cX11_classes 92 = .ok (.getfield 43, 3) := by decide +kernel
theorem dX11_classes_95 : decode cX11_classes 95 = .ok (.ifCond .eq 5, 3) := by decide +kernel
theorem dX11_classes_98 : decode cX11_classes 98 = .ok (.iconst (-1), 1) := by decide +kernel
theorem dX11_classes_99 : decode cX11_classes 99 = .ok (.ireturn, 1) := by decide +kernel
theorem dX11_classes_100 : decode cX11_classes 100 = .ok (.aload_n 0, 1) := by decide +kernel
theorem dX11_classes_101 : decode cX11_classes 101 = .ok (.getfield 31, 3) := by decide +kernel
theorem dX11_classes_104 : decode cX11_classes 104 = .ok (.astore_n 1, 1) := by decide +kernel
theorem dX11_classes_105 : decode cX11_classes 105 = .ok (.aload_n 0, 1) := by decide +kernel
theorem dX11_classes_106 : decode cX11_classes 106 = .ok (.aload_n 0, 1) := by decide +kernel
theorem dX11_classes_107 : decode cX11_classes 107 = .ok (.getfield 27, 3) := by decide +kernel
theorem dX11_classes_110 : decode cX11_classes 110 = .ok (.putfield 31, 3) := by decide +kernel
theorem dX11_classes_113 : decode cX11_classes 113 = .ok (.aload_n 0, 1) := by decide +kernel
theorem dX11_classes_114 : decode cX11_classes 114 = .ok (.aload_n 1, 1) := by decide +kernel
theorem dX11_classes_115 : decode cX11_classes 115 = .ok (.putfield 27, 3) := by decide +kernel
theorem dX11_classes_118 : decode cX11_classes 118 = .ok (.aload_n 0, 1) := by decide +kernel
theorem dX11_classes_119 : decode cX11_classes 119 = .ok (.getfield 39, 3) := by decide +kernel
theorem dX11_classes_122 : decode cX11_classes 122 = .ok (.aload_n 0, 1) := by decide +kernel
theorem dX11_classes_123 : decode cX11_classes 123 = .ok (.getfield 27, 3) := by decide +kernel
theorem dX11_classes_126 : decode cX11_classes 126 = .ok (.invokevirtual 72, 3) := by decide +kernel
theorem dX11_classes_129 : decode cX11_classes 129 = .ok (.aload_n 0, 1) := by decide +kernel
theorem dX11_classes_130 : decode cX11_classes 130 = .ok (.getfield 27, 3) := by decide +kernel
theorem dX11_classes_133 : decode cX11_classes 133 = .ok (.getfield 75, 3) := by decide +kernel
theorem dX11_classes_136 : decode cX11_classes 136 = .ok (.ireturn, 1) := by decide +kernel
