theorem t_1 : Cond.selects RX11 yX11_putBytes yX11_putBytes ∈ lw_g := gg_ (i := 1) (by decide +kernel) (by decide +kernel)
theorem t_182 : Cond.initialized RX11 ∈ lw_g := gg_ (i := 182) (by decide +kernel) (by decide +kernel)
theorem t_626 : Cond.fieldLink RX7 58 "TrialGarden$Text" "classCount" "I" ∈ lw_g := gg_ (i := 626) (by decide +kernel) (by decide +kernel)
theorem t_627 : Cond.fieldLink RX11 75 "TrialGarden$Text" "classCount" "I" ∈ lw_g := gg_ (i := 627) (by decide +kernel) (by decide +kernel)
theorem t_682 : Cond.fieldLink RX11 273 "TrialGarden$Text" "partCount" "I" ∈ lw_g := gg_ (i := 682) (by decide +kernel) (by decide +kernel)
theorem t_801 : Cond.fieldLink RX3 28 "TrialGarden$Row" "length" "I" ∈ lw_g := gg_ (i := 801) (by decide +kernel) (by decide +kernel)
theorem t_803 : Cond.fieldLink RX11 144 "TrialGarden$Row" "length" "I" ∈ lw_g := gg_ (i := 803) (by decide +kernel) (by decide +kernel)
theorem t_813 : Cond.fieldLink RX3 32 "TrialGarden$Row" "objects" "I" ∈ lw_g := gg_ (i := 813) (by decide +kernel) (by decide +kernel)
theorem t_838 : Cond.fieldLink RX11 177 "TrialGarden$Run" "verdict" "I" ∈ lw_g := gg_ (i := 838) (by decide +kernel) (by decide +kernel)
theorem t_840 : Cond.fieldLink RX11 202 "TrialGarden$Run" "brokenMark" "I" ∈ lw_g := gg_ (i := 840) (by decide +kernel) (by decide +kernel)
theorem t_844 : Cond.fieldLink RX11 220 "TrialGarden$Run" "changedObject" "I" ∈ lw_g := gg_ (i := 844) (by decide +kernel) (by decide +kernel)
theorem t_846 : Cond.fieldLink RX11 223 "TrialGarden$Run" "changedCell" "I" ∈ lw_g := gg_ (i := 846) (by decide +kernel) (by decide +kernel)
theorem t_849 : Cond.fieldLink RX11 226 "TrialGarden$Run" "thrownWord" "J" ∈ lw_g := gg_ (i := 849) (by decide +kernel) (by decide +kernel)
theorem t_852 : Cond.fieldLink RX11 252 "TrialGarden$Run" "objects" "I" ∈ lw_g := gg_ (i := 852) (by decide +kernel) (by decide +kernel)
theorem t_915 : Cond.fieldLink RX11 140 "TrialGarden$Trial" "row" "LTrialGarden$Row;" ∈ lw_g := gg_ (i := 915) (by decide +kernel) (by decide +kernel)
theorem t_918 : Cond.fieldLink RX11 173 "TrialGarden$Trial" "latest" "LTrialGarden$Run;" ∈ lw_g := gg_ (i := 918) (by decide +kernel) (by decide +kernel)
theorem t_921 : Cond.fieldLink RX11 190 "TrialGarden$Trial" "rowsTried" "I" ∈ lw_g := gg_ (i := 921) (by decide +kernel) (by decide +kernel)
theorem t_923 : Cond.fieldLink RX11 193 "TrialGarden$Trial" "rowsCut" "I" ∈ lw_g := gg_ (i := 923) (by decide +kernel) (by decide +kernel)
theorem t_924 : Cond.fieldLink RX10 53 "TrialGarden$Trial" "ranAsItIs" "Z" ∈ lw_g := gg_ (i := 924) (by decide +kernel) (by decide +kernel)
theorem t_925 : Cond.fieldLink RX11 196 "TrialGarden$Trial" "ranAsItIs" "Z" ∈ lw_g := gg_ (i := 925) (by decide +kernel) (by decide +kernel)
theorem t_976 : Cond.code yX11_feed cX11_feed 6 (some .int) ∈ lw_g := gg_ (i := 976) (by decide +kernel) (by decide +kernel)
theorem t_977 : Cond.methodLink RX11 49 yX11_putBytes ∈ lw_g := gg_ (i := 977) (by decide +kernel) (by decide +kernel)
theorem t_979 : Cond.instanceMethod yX11_putBytes ∈ lw_g := gg_ (i := 979) (by decide +kernel) (by decide +kernel)
theorem t_980 : Cond.code yX11_putBytes cX11_putBytes 3 none ∈ lw_g := gg_ (i := 980) (by decide +kernel) (by decide +kernel)
theorem t_984 : Cond.code yX11_end cX11_end 2 (some .int) ∈ lw_g := gg_ (i := 984) (by decide +kernel) (by decide +kernel)
theorem t_1281 : Cond.instanceMethod yX7_hasClass ∈ lw_g := gg_ (i := 1281) (by decide +kernel) (by decide +kernel)
theorem t_1282 : Cond.selects RX7 yX7_hasClass yX7_hasClass ∈ lw_g := gg_ (i := 1282) (by decide +kernel) (by decide +kernel)
theorem t_1283 : Cond.code yX7_hasClass cX7_hasClass 2 (some .boolean) ∈ lw_g := gg_ (i := 1283) (by decide +kernel) (by decide +kernel)
theorem t_1422 : Cond.methodLink RX10 42 yX3_wipe ∈ lw_g := gg_ (i := 1422) (by decide +kernel) (by decide +kernel)
theorem t_1423 : Cond.instanceMethod yX3_wipe ∈ lw_g := gg_ (i := 1423) (by decide +kernel) (by decide +kernel)
theorem t_1424 : Cond.selects RX3 yX3_wipe yX3_wipe ∈ lw_g := gg_ (i := 1424) (by decide +kernel) (by decide +kernel)
theorem t_1425 : Cond.code yX3_wipe cX3_wipe 1 none ∈ lw_g := gg_ (i := 1425) (by decide +kernel) (by decide +kernel)
theorem t_1437 : Cond.code yX11_fault cX11_fault 2 (some .int) ∈ lw_g := gg_ (i := 1437) (by decide +kernel) (by decide +kernel)
theorem t_1441 : Cond.code yX11_about cX11_about 4 (some .int) ∈ lw_g := gg_ (i := 1441) (by decide +kernel) (by decide +kernel)
theorem t_1442 : Cond.methodLink RX11 78 yX7_hasClass ∈ lw_g := gg_ (i := 1442) (by decide +kernel) (by decide +kernel)
theorem t_1446 : Cond.code yX11_member cX11_member 5 (some .int) ∈ lw_g := gg_ (i := 1446) (by decide +kernel) (by decide +kernel)
theorem t_1447 : Cond.methodLink RX11 106 yX7_hasMember ∈ lw_g := gg_ (i := 1447) (by decide +kernel) (by decide +kernel)
theorem t_1448 : Cond.instanceMethod yX7_hasMember ∈ lw_g := gg_ (i := 1448) (by decide +kernel) (by decide +kernel)
theorem t_1449 : Cond.selects RX7 yX7_hasMember yX7_hasMember ∈ lw_g := gg_ (i := 1449) (by decide +kernel) (by decide +kernel)
theorem t_1450 : Cond.code yX7_hasMember cX7_hasMember 3 (some .boolean) ∈ lw_g := gg_ (i := 1450) (by decide +kernel) (by decide +kernel)
theorem t_1451 : Cond.methodLink RX7 80 yX7_hasClass ∈ lw_g := gg_ (i := 1451) (by decide +kernel) (by decide +kernel)
theorem t_1459 : Cond.code yX11_model cX11_model 3 (some .int) ∈ lw_g := gg_ (i := 1459) (by decide +kernel) (by decide +kernel)
theorem t_1463 : Cond.code yX11_clear cX11_clear 2 (some .int) ∈ lw_g := gg_ (i := 1463) (by decide +kernel) (by decide +kernel)
theorem t_1464 : Cond.methodLink RX11 149 yX10_emptyRow ∈ lw_g := gg_ (i := 1464) (by decide +kernel) (by decide +kernel)
theorem t_1465 : Cond.instanceMethod yX10_emptyRow ∈ lw_g := gg_ (i := 1465) (by decide +kernel) (by decide +kernel)
theorem t_1466 : Cond.selects RX10 yX10_emptyRow yX10_emptyRow ∈ lw_g := gg_ (i := 1466) (by decide +kernel) (by decide +kernel)
theorem t_1467 : Cond.code yX10_emptyRow cX10_emptyRow 1 none ∈ lw_g := gg_ (i := 1467) (by decide +kernel) (by decide +kernel)
theorem t_1471 : Cond.code yX11_make cX11_make 2 (some .int) ∈ lw_g := gg_ (i := 1471) (by decide +kernel) (by decide +kernel)
theorem t_1492 : Cond.code yX11_call cX11_call 6 (some .int) ∈ lw_g := gg_ (i := 1492) (by decide +kernel) (by decide +kernel)
theorem t_1493 : Cond.methodLink RX11 159 yX3_mayTake ∈ lw_g := gg_ (i := 1493) (by decide +kernel) (by decide +kernel)
theorem t_1494 : Cond.instanceMethod yX3_mayTake ∈ lw_g := gg_ (i := 1494) (by decide +kernel) (by decide +kernel)
theorem t_1495 : Cond.selects RX3 yX3_mayTake yX3_mayTake ∈ lw_g := gg_ (i := 1495) (by decide +kernel) (by decide +kernel)
theorem t_1496 : Cond.code yX3_mayTake cX3_mayTake 8 (some .boolean) ∈ lw_g := gg_ (i := 1496) (by decide +kernel) (by decide +kernel)
theorem t_1521 : Cond.code yX11_run cX11_run 1 (some .int) ∈ lw_g := gg_ (i := 1521) (by decide +kernel) (by decide +kernel)
theorem t_1669 : Cond.code yX11_draw cX11_draw 4 (some .int) ∈ lw_g := gg_ (i := 1669) (by decide +kernel) (by decide +kernel)
theorem t_1710 : Cond.code yX11_all cX11_all 3 (some .int) ∈ lw_g := gg_ (i := 1710) (by decide +kernel) (by decide +kernel)
theorem t_1753 : Cond.code yX11_tried cX11_tried 1 (some .int) ∈ lw_g := gg_ (i := 1753) (by decide +kernel) (by decide +kernel)
theorem t_1757 : Cond.code yX11_cut cX11_cut 1 (some .int) ∈ lw_g := gg_ (i := 1757) (by decide +kernel) (by decide +kernel)
theorem t_1761 : Cond.code yX11_shrink cX11_shrink 1 (some .int) ∈ lw_g := gg_ (i := 1761) (by decide +kernel) (by decide +kernel)
theorem t_1789 : Cond.code yX11_verdict cX11_verdict 1 (some .int) ∈ lw_g := gg_ (i := 1789) (by decide +kernel) (by decide +kernel)
theorem t_1793 : Cond.code yX11_condition cX11_condition 4 (some .int) ∈ lw_g := gg_ (i := 1793) (by decide +kernel) (by decide +kernel)
theorem t_1797 : Cond.code yX11_changed cX11_changed 2 (some .int) ∈ lw_g := gg_ (i := 1797) (by decide +kernel) (by decide +kernel)
theorem t_1801 : Cond.code yX11_thrown cX11_thrown 2 (some .int) ∈ lw_g := gg_ (i := 1801) (by decide +kernel) (by decide +kernel)
theorem t_1802 : Cond.methodLink RX11 230 yX8_letterOf ∈ lw_g := gg_ (i := 1802) (by decide +kernel) (by decide +kernel)
theorem t_1803 : Cond.static yX8_letterOf ∈ lw_g := gg_ (i := 1803) (by decide +kernel) (by decide +kernel)
theorem t_1804 : Cond.code yX8_letterOf cX8_letterOf 7 (some .int) ∈ lw_g := gg_ (i := 1804) (by decide +kernel) (by decide +kernel)
theorem t_1808 : Cond.code yX11_row cX11_row 1 (some .int) ∈ lw_g := gg_ (i := 1808) (by decide +kernel) (by decide +kernel)
theorem t_1812 : Cond.code yX11_told cX11_told 4 (some .int) ∈ lw_g := gg_ (i := 1812) (by decide +kernel) (by decide +kernel)
theorem t_1816 : Cond.code yX11_cell cX11_cell 4 (some .long) ∈ lw_g := gg_ (i := 1816) (by decide +kernel) (by decide +kernel)
theorem t_1821 : Cond.constantLong RX11 263 (-9223372036854775808) ∈ lw_g := gg_ (i := 1821) (by decide +kernel) (by decide +kernel)
theorem t_1825 : Cond.code yX11_beside cX11_beside 4 (some .long) ∈ lw_g := gg_ (i := 1825) (by decide +kernel) (by decide +kernel)
theorem t_1829 : Cond.code yX11_count cX11_count 2 (some .int) ∈ lw_g := gg_ (i := 1829) (by decide +kernel) (by decide +kernel)
theorem dX3_wipe_0 : decode cX3_wipe 0 = .ok (.aload_n 0, 1) := by decide +kernel
theorem dX3_wipe_1 : decode cX3_wipe 1 = .ok (.iconst 0, 1) := by decide +kernel
theorem dX3_wipe_2 : decode cX3_wipe 2 = .ok (.putfield 28, 3) := by decide +kernel
theorem dX3_wipe_5 : decode cX3_wipe 5 = .ok (.aload_n 0, 1) := by decide +kernel
theorem dX3_wipe_6 : decode cX3_wipe 6 = .ok (.iconst 0, 1) := by decide +kernel
theorem dX3_wipe_7 : decode cX3_wipe 7 = .ok (.putfield 32, 3) := by decide +kernel
theorem dX3_wipe_10 : decode cX3_wipe 10 = .ok (.return_, 1) := by decide +kernel
theorem dX3_mayTake_0 : decode cX3_mayTake 0 = .ok (.iload_n 2, 1) := by decide +kernel
theorem dX3_mayTake_1 : decode cX3_mayTake 1 = .ok (.ifCond .lt 25, 3) := by decide +kernel
theorem dX3_mayTake_4 : decode cX3_mayTake 4 = .ok (.iload_n 2, 1) := by decide +kernel
theorem dX3_mayTake_5 : decode cX3_mayTake 5 = .ok (.aload_n 0, 1) := by decide +kernel
theorem dX3_mayTake_6 : decode cX3_mayTake 6 = .ok (.getfield 32, 3) := by decide +kernel
theorem dX3_mayTake_9 : decode cX3_mayTake 9 = .ok (.if_icmp .ge 17, 3) := by decide +kernel
theorem dX3_mayTake_12 : decode cX3_mayTake 12 = .ok (.aload_n 1, 1) := by decide +kernel
theorem dX3_mayTake_13 : decode cX3_mayTake 13 = .ok (.aload_n 0, 1) := by decide +kernel
theorem dX3_mayTake_14 : decode cX3_mayTake 14 = .ok (.getfield 25, 3) := by decide +kernel
theorem dX3_mayTake_17 : decode cX3_mayTake 17 = .ok (.iload_n 2, 1) := by decide +kernel
theorem dX3_mayTake_18 : decode cX3_mayTake 18 = .ok (.iaload, 1) := by decide +kernel
theorem dX3_mayTake_19 : decode cX3_mayTake 19 = .ok (.iload_n 3, 1) := by decide +kernel
theorem dX3_mayTake_20 : decode cX3_mayTake 20 = .ok (.invokevirtual 35, 3) := by decide +kernel
theorem dX3_mayTake_23 : decode cX3_mayTake 23 = .ok (.ifCond .ne 5, 3) := by decide +kernel
theorem dX3_mayTake_26 : decode cX3_mayTake 26 = .ok (.iconst 0, 1) := by decide +kernel
theorem dX3_mayTake_27 : decode cX3_mayTake 27 = .ok (.ireturn, 1) := by decide +kernel
theorem dX3_mayTake_28 : decode cX3_mayTake 28 = .ok (.aload_n 0, 1) := by decide +kernel
theorem dX3_mayTake_29 : decode cX3_mayTake 29 = .ok (.aload_n 1, 1) := by decide +kernel
theorem dX3_mayTake_30 : decode cX3_mayTake 30 = .ok (.iload_n 2, 1) := by decide +kernel
theorem dX3_mayTake_31 : decode cX3_mayTake 31 = .ok (.iload_n 3, 1) := by decide +kernel
theorem dX3_mayTake_32 : decode cX3_mayTake 32 = .ok (.invokevirtual 41, 3) := by decide +kernel
theorem dX3_mayTake_35 : decode cX3_mayTake 35 = .ok (.astore 7, 2) := by decide +kernel
theorem dX3_mayTake_37 : decode cX3_mayTake 37 = .ok (.aload 7, 2) := by decide +kernel
theorem dX3_mayTake_39 : decode cX3_mayTake 39 = .ok (.iconst 0, 1) := by decide +kernel
theorem dX3_mayTake_40 : decode cX3_mayTake 40 = .ok (.iload 4, 2) := by decide +kernel
theorem dX3_mayTake_42 : decode cX3_mayTake 42 = .ok (.invokevirtual 45, 3) := by decide +kernel
theorem dX3_mayTake_45 : decode cX3_mayTake 45 = .ok (.ifCond .eq 29, 3) := by decide +kernel
theorem dX3_mayTake_48 : decode cX3_mayTake 48 = .ok (.aload 7, 2) := by decide +kernel
theorem dX3_mayTake_50 : decode cX3_mayTake 50 = .ok (.iconst 1, 1) := by decide +kernel
theorem dX3_mayTake_51 : decode cX3_mayTake 51 = .ok (.iload 5, 2) := by decide +kernel
theorem dX3_mayTake_53 : decode cX3_mayTake 53 = .ok (.invokevirtual 45, 3) := by decide +kernel
theorem dX3_mayTake_56 : decode cX3_mayTake 56 = .ok (.ifCond .eq 18, 3) := by decide +kernel
theorem dX3_mayTake_59 : decode cX3_mayTake 59 = .ok (.aload 7, 2) := by decide +kernel
theorem dX3_mayTake_61 : decode cX3_mayTake 61 = .ok (.iconst 2, 1) := by decide +kernel
theorem dX3_mayTake_62 : decode cX3_mayTake 62 = .ok (.iload 6, 2) := by decide +kernel
theorem dX3_mayTake_64 : decode cX3_mayTake 64 = .ok (.invokevirtual 45, 3) := by decide +kernel
theorem dX3_mayTake_67 : decode cX3_mayTake 67 = .ok (.ifCond .eq 7, 3) := by decide +kernel
theorem dX3_mayTake_70 : decode cX3_mayTake 70 = .ok (.iconst 1, 1) := by decide +kernel
theorem dX3_mayTake_71 : decode cX3_mayTake 71 = .ok (.goto 4, 3) := by decide +kernel
theorem dX3_mayTake_74 : decode cX3_mayTake 74 = .ok (.iconst 0, 1) := by decide +kernel
theorem dX3_mayTake_75 : decode cX3_mayTake 75 = .ok (.ireturn, 1) := by decide +kernel
theorem dX7_hasClass_0 : decode cX7_hasClass 0 = .ok (.iload_n 1, 1) := by decide +kernel
theorem dX7_hasClass_1 : decode cX7_hasClass 1 = .ok (.ifCond .lt 15, 3) := by decide +kernel
theorem dX7_hasClass_4 : decode cX7_hasClass 4 = .ok (.iload_n 1, 1) := by decide +kernel
theorem dX7_hasClass_5 : decode cX7_hasClass 5 = .ok (.aload_n 0, 1) := by decide +kernel
theorem dX7_hasClass_6 : decode cX7_hasClass 6 = .ok (.getfield 58, 3) := by decide +kernel
theorem dX7_hasClass_9 : decode cX7_hasClass 9 = .ok (.if_icmp .ge 7, 3) := by decide +kernel
theorem dX7_hasClass_12 : decode cX7_hasClass 12 = .ok (.iconst 1, 1) := by decide +kernel
theorem dX7_hasClass_13 : decode cX7_hasClass 13 = .ok (.goto 4, 3) := by decide +kernel
theorem dX7_hasClass_16 : decode cX7_hasClass 16 = .ok (.iconst 0, 1) := by decide +kernel
theorem dX7_hasClass_17 : decode cX7_hasClass 17 = .ok (.ireturn, 1) := by decide +kernel
theorem dX7_hasMember_0 : decode cX7_hasMember 0 = .ok (.aload_n 0, 1) := by decide +kernel
theorem dX7_hasMember_1 : decode cX7_hasMember 1 = .ok (.iload_n 1, 1) := by decide +kernel
theorem dX7_hasMember_2 : decode cX7_hasMember 2 = .ok (.invokevirtual 80, 3) := by decide +kernel
theorem dX7_hasMember_5 : decode cX7_hasMember 5 = .ok (.ifCond .eq 24, 3) := by decide +kernel
theorem dX7_hasMember_8 : decode cX7_hasMember 8 = .ok (.iload_n 2, 1) := by decide +kernel
theorem dX7_hasMember_9 : decode cX7_hasMember 9 = .ok (.ifCond .lt 20, 3) := by decide +kernel
theorem dX7_hasMember_12 : decode cX7_hasMember 12 = .ok (.iload_n 2, 1) := by decide +kernel
theorem dX7_hasMember_13 : decode cX7_hasMember 13 = .ok (.aload_n 0, 1) := by decide +kernel
theorem dX7_hasMember_14 : decode cX7_hasMember 14 = .ok (.getfield 13, 3) := by decide +kernel
theorem dX7_hasMember_17 : decode cX7_hasMember 17 = .ok (.iload_n 1, 1) := by decide +kernel
theorem dX7_hasMember_18 : decode cX7_hasMember 18 = .ok (.aaload, 1) := by decide +kernel
theorem dX7_hasMember_19 : decode cX7_hasMember 19 = .ok (.getfield 84, 3) := by decide +kernel
theorem dX7_hasMember_22 : decode cX7_hasMember 22 = .ok (.if_icmp .ge 7, 3) := by decide +kernel
theorem dX7_hasMember_25 : decode cX7_hasMember 25 = .ok (.iconst 1, 1) := by decide +kernel
theorem dX7_hasMember_26 : decode cX7_hasMember 26 = .ok (.goto 4, 3) := by decide +kernel
theorem dX7_hasMember_29 : decode cX7_hasMember 29 = .ok (.iconst 0, 1) := by decide +kernel
theorem dX7_hasMember_30 : decode cX7_hasMember 30 = .ok (.ireturn, 1) := by decide +kernel
theorem dX8_letterOf_0 : decode cX8_letterOf 0 = .ok (.iconst 0, 1) := by decide +kernel
theorem dX8_letterOf_1 : decode cX8_letterOf 1 = .ok (.istore_n 3, 1) := by decide +kernel
theorem dX8_letterOf_2 : decode cX8_letterOf 2 = .ok (.lload_n 0, 1) := by decide +kernel
theorem dX8_letterOf_3 : decode cX8_letterOf 3 = .ok (.lstore 4, 2) := by decide +kernel
theorem dX8_letterOf_5 : decode cX8_letterOf 5 = .ok (.lload 4, 2) := by decide +kernel
theorem dX8_letterOf_7 : decode cX8_letterOf 7 = .ok (.lconst 0, 1) := by decide +kernel
theorem dX8_letterOf_8 : decode cX8_letterOf 8 = .ok (.lcmp, 1) := by decide +kernel
theorem dX8_letterOf_9 : decode cX8_letterOf 9 = .ok (.ifCond .le 23, 3) := by decide +kernel
theorem dX8_letterOf_12 : decode cX8_letterOf 12 = .ok (.iload_n 3, 1) := by decide +kernel
theorem dX8_letterOf_13 : decode cX8_letterOf 13 = .ok (.bipush 12, 2) := by decide +kernel
theorem dX8_letterOf_15 : decode cX8_letterOf 15 = .ok (.if_icmp .ge 17, 3) := by decide +kernel
theorem dX8_letterOf_18 : decode cX8_letterOf 18 = .ok (.iinc 3 1, 3) := by decide +kernel
theorem dX8_letterOf_21 : decode cX8_letterOf 21 = .ok (.lload 4, 2) := by decide +kernel
theorem dX8_letterOf_23 : decode cX8_letterOf 23 = .ok (.ldc2_w 55, 3) := by decide +kernel
theorem dX8_letterOf_26 : decode cX8_letterOf 26 = .ok (.ldiv, 1) := by decide +kernel
theorem dX8_letterOf_27 : decode cX8_letterOf 27 = .ok (.lstore 4, 2) := by decide +kernel
theorem dX8_letterOf_29 : decode cX8_letterOf 29 = .ok (.goto (-24), 3) := by decide +kernel
theorem dX8_letterOf_32 : decode cX8_letterOf 32 = .ok (.iload_n 2, 1) := by decide +kernel
theorem dX8_letterOf_33 : decode cX8_letterOf 33 = .ok (.ifCond .lt 8, 3) := by decide +kernel
theorem dX8_letterOf_36 : decode cX8_letterOf 36 = .ok (.iload_n 2, 1) := by decide +kernel
theorem dX8_letterOf_37 : decode cX8_letterOf 37 = .ok (.iload_n 3, 1) := by decide +kernel
theorem dX8_letterOf_38 : decode cX8_letterOf 38 = .ok (.if_icmp .lt 5, 3) := by decide +kernel
theorem dX8_letterOf_41 : decode cX8_letterOf 41 = .ok (.iconst (-1), 1) := by decide +kernel
theorem dX8_letterOf_42 : decode cX8_letterOf 42 = .ok (.ireturn, 1) := by decide +kernel
theorem dX8_letterOf_43 : decode cX8_letterOf 43 = .ok (.lload_n 0, 1) := by decide +kernel
theorem dX8_letterOf_44 : decode cX8_letterOf 44 = .ok (.lstore 4, 2) := by decide +kernel
theorem dX8_letterOf_46 : decode cX8_letterOf 46 = .ok (.iload_n 3, 1) := by decide +kernel
theorem dX8_letterOf_47 : decode cX8_letterOf 47 = .ok (.iconst 1, 1) := by decide +kernel
theorem dX8_letterOf_48 : decode cX8_letterOf 48 = .ok (.isub, 1) := by decide +kernel
theorem dX8_letterOf_49 : decode cX8_letterOf 49 = .ok (.istore 6, 2) := by decide +kernel
theorem dX8_letterOf_51 : decode cX8_letterOf 51 = .ok (.iload 6, 2) := by decide +kernel
theorem dX8_letterOf_53 : decode cX8_letterOf 53 = .ok (.iload_n 2, 1) := by decide +kernel
theorem dX8_letterOf_54 : decode cX8_letterOf 54 = .ok (.if_icmp .le 17, 3) := by decide +kernel
theorem dX8_letterOf_57 : decode cX8_letterOf 57 = .ok (.lload 4, 2) := by decide +kernel
theorem dX8_letterOf_59 : decode cX8_letterOf 59 = .ok (.ldc2_w 55, 3) := by decide +kernel
theorem dX8_letterOf_62 : decode cX8_letterOf 62 = .ok (.ldiv, 1) := by decide +kernel
theorem dX8_letterOf_63 : decode cX8_letterOf 63 = .ok (.lstore 4, 2) := by decide +kernel
theorem dX8_letterOf_65 : decode cX8_letterOf 65 = .ok (.iinc 6 (-1), 3) := by decide +kernel
theorem dX8_letterOf_68 : decode cX8_letterOf 68 = .ok (.goto (-17), 3) := by decide +kernel
theorem dX8_letterOf_71 : decode cX8_letterOf 71 = .ok (.lload 4, 2) := by decide +kernel
theorem dX8_letterOf_73 : decode cX8_letterOf 73 = .ok (.ldc2_w 55, 3) := by decide +kernel
theorem dX8_letterOf_76 : decode cX8_letterOf 76 = .ok (.lrem, 1) := by decide +kernel
theorem dX8_letterOf_77 : decode cX8_letterOf 77 = .ok (.l2i, 1) := by decide +kernel
theorem dX8_letterOf_78 : decode cX8_letterOf 78 = .ok (.istore 6, 2) := by decide +kernel
theorem dX8_letterOf_80 : decode cX8_letterOf 80 = .ok (.iload 6, 2) := by decide +kernel
theorem dX8_letterOf_82 : decode cX8_letterOf 82 = .ok (.bipush 37, 2) := by decide +kernel
theorem dX8_letterOf_84 : decode cX8_letterOf 84 = .ok (.if_icmp .ne 6, 3) := by decide +kernel
theorem dX8_letterOf_87 : decode cX8_letterOf 87 = .ok (.bipush 95, 2) := by decide +kernel
theorem dX8_letterOf_89 : decode cX8_letterOf 89 = .ok (.ireturn, 1) := by decide +kernel
theorem dX8_letterOf_90 : decode cX8_letterOf 90 = .ok (.iload 6, 2) := by decide +kernel
theorem dX8_letterOf_92 : decode cX8_letterOf 92 = .ok (.bipush 26, 2) := by decide +kernel
theorem dX8_letterOf_94 : decode cX8_letterOf 94 = .ok (.if_icmp .le 14, 3) := by decide +kernel
theorem dX8_letterOf_97 : decode cX8_letterOf 97 = .ok (.bipush 48, 2) := by decide +kernel
theorem dX8_letterOf_99 : decode cX8_letterOf 99 = .ok (.iload 6, 2) := by decide +kernel
theorem dX8_letterOf_101 : decode cX8_letterOf 101 = .ok (.iadd, 1) := by decide +kernel
theorem dX8_letterOf_102 : decode cX8_letterOf 102 = .ok (.bipush 27, 2) := by decide +kernel
theorem dX8_letterOf_104 : decode cX8_letterOf 104 = .ok (.isub, 1) := by decide +kernel
theorem dX8_letterOf_105 : decode cX8_letterOf 105 = .ok (.goto 10, 3) := by decide +kernel
theorem dX8_letterOf_108 : decode cX8_letterOf 108 = .ok (.bipush 97, 2) := by decide +kernel
theorem dX8_letterOf_110 : decode cX8_letterOf 110 = .ok (.iload 6, 2) := by decide +kernel
theorem dX8_letterOf_112 : decode cX8_letterOf 112 = .ok (.iadd, 1) := by decide +kernel
theorem dX8_letterOf_113 : decode cX8_letterOf 113 = .ok (.iconst 1, 1) := by decide +kernel
theorem dX8_letterOf_114 : decode cX8_letterOf 114 = .ok (.isub, 1) := by decide +kernel
theorem dX8_letterOf_115 : decode cX8_letterOf 115 = .ok (.ireturn, 1) := by decide +kernel
theorem dX10_emptyRow_0 : decode cX10_emptyRow 0 = .ok (.aload_n 0, 1) := by decide +kernel
theorem dX10_emptyRow_1 : decode cX10_emptyRow 1 = .ok (.getfield 25, 3) := by decide +kernel
theorem dX10_emptyRow_4 : decode cX10_emptyRow 4 = .ok (.invokevirtual 42, 3) := by decide +kernel
theorem dX10_emptyRow_7 : decode cX10_emptyRow 7 = .ok (.aload_n 0, 1) := by decide +kernel
theorem dX10_emptyRow_8 : decode cX10_emptyRow 8 = .ok (.iconst 0, 1) := by decide +kernel
theorem dX10_emptyRow_9 : decode cX10_emptyRow 9 = .ok (.putfield 53, 3) := by decide +kernel
theorem dX10_emptyRow_12 : decode cX10_emptyRow 12 = .ok (.return_, 1) := by decide +kernel
theorem dX11_feed_0 : decode cX11_feed 0 = .ok (.aload_n 0, 1) := by decide +kernel
theorem dX11_feed_1 : decode cX11_feed 1 = .ok (.getfield 13, 3) := by decide +kernel
theorem dX11_feed_4 : decode cX11_feed 4 = .ok (.bipush 20, 2) := by decide +kernel
theorem dX11_feed_6 : decode cX11_feed 6 = .ok (.iadd, 1) := by decide +kernel
theorem dX11_feed_7 : decode cX11_feed 7 = .ok (.sipush 4000, 3) := by decide +kernel
theorem dX11_feed_10 : decode cX11_feed 10 = .ok (.if_icmp .le 6, 3) := by decide +kernel
theorem dX11_feed_13 : decode cX11_feed 13 = .ok (.bipush (-3), 2) := by decide +kernel
theorem dX11_feed_15 : decode cX11_feed 15 = .ok (.ireturn, 1) := by decide +kernel
theorem dX11_feed_16 : decode cX11_feed 16 = .ok (.aload_n 0, 1) := by decide +kernel
theorem dX11_feed_17 : decode cX11_feed 17 = .ok (.iload_n 1, 1) := by decide +kernel
theorem dX11_feed_18 : decode cX11_feed 18 = .ok (.invokevirtual 49, 3) := by decide +kernel
theorem dX11_feed_21 : decode cX11_feed 21 = .ok (.aload_n 0, 1) := by decide +kernel
theorem dX11_feed_22 : decode cX11_feed 22 = .ok (.iload_n 2, 1) := by decide +kernel
theorem dX11_feed_23 : decode cX11_feed 23 = .ok (.invokevirtual 49, 3) := by decide +kernel
theorem dX11_feed_26 : decode cX11_feed 26 = .ok (.aload_n 0, 1) := by decide +kernel
theorem dX11_feed_27 : decode cX11_feed 27 = .ok (.iload_n 3, 1) := by decide +kernel
theorem dX11_feed_28 : decode cX11_feed 28 = .ok (.invokevirtual 49, 3) := by decide +kernel
theorem dX11_feed_31 : decode cX11_feed 31 = .ok (.aload_n 0, 1) := by decide +kernel
theorem dX11_feed_32 : decode cX11_feed 32 = .ok (.iload 4, 2) := by decide +kernel
theorem dX11_feed_34 : decode cX11_feed 34 = .ok (.invokevirtual 49, 3) := by decide +kernel
theorem dX11_feed_37 : decode cX11_feed 37 = .ok (.aload_n 0, 1) := by decide +kernel
theorem dX11_feed_38 : decode cX11_feed 38 = .ok (.iload 5, 2) := by decide +kernel
theorem dX11_feed_40 : decode cX11_feed 40 = .ok (.invokevirtual 49, 3) := by decide +kernel
theorem dX11_feed_43 : decode cX11_feed 43 = .ok (.aload_n 0, 1) := by decide +kernel
theorem dX11_feed_44 : decode cX11_feed 44 = .ok (.getfield 13, 3) := by decide +kernel
theorem dX11_feed_47 : decode cX11_feed 47 = .ok (.ireturn, 1) := by decide +kernel
theorem dX11_putBytes_0 : decode cX11_putBytes 0 = .ok (.bipush 24, 2) := by decide +kernel
theorem dX11_putBytes_2 : decode cX11_putBytes 2 = .ok (.istore_n 2, 1) := by decide +kernel
theorem dX11_putBytes_3 : decode cX11_putBytes 3 = .ok (.iload_n 2, 1) := by decide +kernel
theorem dX11_putBytes_4 : decode cX11_putBytes 4 = .ok (.ifCond .lt 42, 3) := by decide +kernel
theorem dX11_putBytes_7 : decode cX11_putBytes 7 = .ok (.aload_n 0, 1) := by decide +kernel
theorem dX11_putBytes_8 : decode cX11_putBytes 8 = .ok (.getfield 13, 3) := by decide +kernel
theorem dX11_putBytes_11 : decode cX11_putBytes 11 = .ok (.sipush 4000, 3) := by decide +kernel
theorem dX11_putBytes_14 : decode cX11_putBytes 14 = .ok (.if_icmp .ge 32, 3) := by decide +kernel
theorem dX11_putBytes_17 : decode cX11_putBytes 17 = .ok (.aload_n 0, 1) := by decide +kernel
theorem dX11_putBytes_18 : decode cX11_putBytes 18 = .ok (.getfield 9, 3) := by decide +kernel
theorem dX11_putBytes_21 : decode cX11_putBytes 21 = .ok (.aload_n 0, 1) := by decide +kernel
theorem dX11_putBytes_22 : decode cX11_putBytes 22 = .ok (.getfield 13, 3) := by decide +kernel
theorem dX11_putBytes_25 : decode cX11_putBytes 25 = .ok (.iload_n 1, 1) := by decide +kernel
theorem dX11_putBytes_26 : decode cX11_putBytes 26 = .ok (.iload_n 2, 1) := by decide +kernel
theorem dX11_putBytes_27 : decode cX11_putBytes 27 = .ok (.iushr, 1) := by decide +kernel
theorem dX11_putBytes_28 : decode cX11_putBytes 28 = .ok (.i2b, 1) := by decide +kernel
theorem dX11_putBytes_29 : decode cX11_putBytes 29 = .ok (.bastore, 1) := by decide +kernel
theorem dX11_putBytes_30 : decode cX11_putBytes 30 = .ok (.aload_n 0, 1) := by decide +kernel
theorem dX11_putBytes_31 : decode cX11_putBytes 31 = .ok (.dup, 1) := by decide +kernel
theorem dX11_putBytes_32 : decode cX11_putBytes 32 = .ok (.getfield 13, 3) := by decide +kernel
theorem dX11_putBytes_35 : decode cX11_putBytes 35 = .ok (.iconst 1, 1) := by decide +kernel
theorem dX11_putBytes_36 : decode cX11_putBytes 36 = .ok (.iadd, 1) := by decide +kernel
theorem dX11_putBytes_37 : decode cX11_putBytes 37 = .ok (.putfield 13, 3) := by decide +kernel
theorem dX11_putBytes_40 : decode cX11_putBytes 40 = .ok (.iinc 2 (-8), 3) := by decide +kernel
theorem dX11_putBytes_43 : decode cX11_putBytes 43 = .ok (.goto (-40), 3) := by decide +kernel
theorem dX11_putBytes_46 : decode cX11_putBytes 46 = .ok (.return_, 1) := by decide +kernel
theorem dX11_end_0 : decode cX11_end 0 = .ok (.iload_n 1, 1) := by decide +kernel
theorem dX11_end_1 : decode cX11_end 1 = .ok (.ifCond .lt 11, 3) := by decide +kernel
theorem dX11_end_4 : decode cX11_end 4 = .ok (.iload_n 1, 1) := by decide +kernel
theorem dX11_end_5 : decode cX11_end 5 = .ok (.aload_n 0, 1) := by decide +kernel
theorem dX11_end_6 : decode cX11_end 6 = .ok (.getfield 13, 3) := by decide +kernel
theorem dX11_end_9 : decode cX11_end 9 = .ok (.if_icmp .le 5, 3) := by decide +kernel
theorem dX11_end_12 : decode cX11_end 12 = .ok (.iconst (-1), 1) := by decide +kernel
theorem dX11_end_13 : decode cX11_end 13 = .ok (.ireturn, 1) := by decide +kernel
theorem dX11_end_14 : decode cX11_end 14 = .ok (.aload_n 0, 1) := by decide +kernel
theorem dX11_end_15 : decode cX11_end 15 = .ok (.iload_n 1, 1) := by decide +kernel
theorem dX11_end_16 : decode cX11_end 16 = .ok (.putfield 13, 3) := by decide +kernel
theorem dX11_end_19 : decode cX11_end 19 = .ok (.iload_n 1, 1) := by decide +kernel
theorem dX11_end_20 : decode cX11_end 20 = .ok (.ireturn, 1) := by decide +kernel
theorem dX11_fault_0 : decode cX11_fault 0 = .ok (.iload_n 1, 1) := by decide +kernel
theorem dX11_fault_1 : decode cX11_fault 1 = .ok (.ifCond .ne 8, 3) := by decide +kernel
theorem dX11_fault_4 : decode cX11_fault 4 = .ok (.aload_n 0, 1) := by decide +kernel
theorem dX11_fault_5 : decode cX11_fault 5 = .ok (.getfield 43, 3) := by decide +kernel
theorem dX11_fault_8 : decode cX11_fault 8 = .ok (.ireturn, 1) := by decide +kernel
theorem dX11_fault_9 : decode cX11_fault 9 = .ok (.iload_n 1, 1) := by decide +kernel
theorem dX11_fault_10 : decode cX11_fault 10 = .ok (.iconst 1, 1) := by decide +kernel
theorem dX11_fault_11 : decode cX11_fault 11 = .ok (.if_icmp .ne 10, 3) := by decide +kernel
theorem dX11_fault_14 : decode cX11_fault 14 = .ok (.aload_n 0, 1) := by decide +kernel
theorem dX11_fault_15 : decode cX11_fault 15 = .ok (.getfield 46, 3) := by decide +kernel
theorem dX11_fault_18 : decode cX11_fault 18 = .ok (.goto 4, 3) := by decide +kernel
theorem dX11_fault_21 : decode cX11_fault 21 = .ok (.iconst (-1), 1) := by decide +kernel
theorem dX11_fault_22 : decode cX11_fault 22 = .ok (.ireturn, 1) := by decide +kernel
theorem dX11_about_0 : decode cX11_about 0 = .ok (.aload_n 0, 1) := by decide +kernel
theorem dX11_about_1 : decode cX11_about 1 = .ok (.getfield 27, 3) := by decide +kernel
theorem dX11_about_4 : decode cX11_about 4 = .ok (.iload_n 1, 1) := by decide +kernel
theorem dX11_about_5 : decode cX11_about 5 = .ok (.invokevirtual 78, 3) := by decide +kernel
theorem dX11_about_8 : decode cX11_about 8 = .ok (.ifCond .ne 5, 3) := by decide +kernel
theorem dX11_about_11 : decode cX11_about 11 = .ok (.iconst (-1), 1) := by decide +kernel
theorem dX11_about_12 : decode cX11_about 12 = .ok (.ireturn, 1) := by decide +kernel
theorem dX11_about_13 : decode cX11_about 13 = .ok (.aload_n 0, 1) := by decide +kernel
theorem dX11_about_14 : decode cX11_about 14 = .ok (.getfield 27, 3) := by decide +kernel
theorem dX11_about_17 : decode cX11_about 17 = .ok (.getfield 82, 3) := by decide +kernel
theorem dX11_about_20 : decode cX11_about 20 = .ok (.iload_n 1, 1) := by decide +kernel
theorem dX11_about_21 : decode cX11_about 21 = .ok (.aaload, 1) := by decide +kernel
theorem dX11_about_22 : decode cX11_about 22 = .ok (.astore_n 3, 1) := by decide +kernel
theorem dX11_about_23 : decode cX11_about 23 = .ok (.iload_n 2, 1) := by decide +kernel
theorem dX11_about_24 : decode cX11_about 24 = .ok (.tableswitch 70 0 5 #[40, 45, 50, 55, 60, 65], 40) := by decide +kernel
theorem dX11_about_64 : decode cX11_about 64 = .ok (.aload_n 3, 1) := by decide +kernel
theorem dX11_about_65 : decode cX11_about 65 = .ok (.getfield 86, 3) := by decide +kernel
theorem dX11_about_68 : decode cX11_about 68 = .ok (.ireturn, 1) := by decide +kernel
theorem dX11_about_69 : decode cX11_about 69 = .ok (.aload_n 3, 1) := by decide +kernel
theorem dX11_about_70 : decode cX11_about 70 = .ok (.getfield 91, 3) := by decide +kernel
theorem dX11_about_73 : decode cX11_about 73 = .ok (.ireturn, 1) := by decide +kernel
theorem dX11_about_74 : decode cX11_about 74 = .ok (.aload_n 3, 1) := by decide +kernel
theorem dX11_about_75 : decode cX11_about 75 = .ok (.getfield 94, 3) := by decide +kernel
theorem dX11_about_78 : decode cX11_about 78 = .ok (.ireturn, 1) := by decide +kernel
theorem dX11_about_79 : decode cX11_about 79 = .ok (.aload_n 3, 1) := by decide +kernel
theorem dX11_about_80 : decode cX11_about 80 = .ok (.getfield 97, 3) := by decide +kernel
theorem dX11_about_83 : decode cX11_about 83 = .ok (.ireturn, 1) := by decide +kernel
theorem dX11_about_84 : decode cX11_about 84 = .ok (.aload_n 3, 1) := by decide +kernel
theorem dX11_about_85 : decode cX11_about 85 = .ok (.getfield 100, 3) := by decide +kernel
theorem dX11_about_88 : decode cX11_about 88 = .ok (.ireturn, 1) := by decide +kernel
theorem dX11_about_89 : decode cX11_about 89 = .ok (.aload_n 3, 1) := by decide +kernel
theorem dX11_about_90 : decode cX11_about 90 = .ok (.getfield 103, 3) := by decide +kernel
theorem dX11_about_93 : decode cX11_about 93 = .ok (.ireturn, 1) := by decide +kernel
theorem dX11_about_94 : decode cX11_about 94 = .ok (.iconst (-1), 1) := by decide +kernel
theorem dX11_about_95 : decode cX11_about 95 = .ok (.ireturn, 1) := by decide +kernel
theorem dX11_member_0 : decode cX11_member 0 = .ok (.aload_n 0, 1) := by decide +kernel
theorem dX11_member_1 : decode cX11_member 1 = .ok (.getfield 27, 3) := by decide +kernel
theorem dX11_member_4 : decode cX11_member 4 = .ok (.iload_n 1, 1) := by decide +kernel
theorem dX11_member_5 : decode cX11_member 5 = .ok (.iload_n 2, 1) := by decide +kernel
theorem dX11_member_6 : decode cX11_member 6 = .ok (.invokevirtual 106, 3) := by decide +kernel
theorem dX11_member_9 : decode cX11_member 9 = .ok (.ifCond .ne 5, 3) := by decide +kernel
theorem dX11_member_12 : decode cX11_member 12 = .ok (.iconst (-1), 1) := by decide +kernel
theorem dX11_member_13 : decode cX11_member 13 = .ok (.ireturn, 1) := by decide +kernel
theorem dX11_member_14 : decode cX11_member 14 = .ok (.aload_n 0, 1) := by decide +kernel
theorem dX11_member_15 : decode cX11_member 15 = .ok (.getfield 27, 3) := by decide +kernel
theorem dX11_member_18 : decode cX11_member 18 = .ok (.getfield 110, 3) := by decide +kernel
theorem dX11_member_21 : decode cX11_member 21 = .ok (.aload_n 0, 1) := by decide +kernel
theorem dX11_member_22 : decode cX11_member 22 = .ok (.getfield 27, 3) := by decide +kernel
theorem dX11_member_25 : decode cX11_member 25 = .ok (.getfield 82, 3) := by decide +kernel
theorem dX11_member_28 : decode cX11_member 28 = .ok (.iload_n 1, 1) := by decide +kernel
theorem dX11_member_29 : decode cX11_member 29 = .ok (.aaload, 1) := by decide +kernel
theorem dX11_member_30 : decode cX11_member 30 = .ok (.getfield 114, 3) := by decide +kernel
theorem dX11_member_33 : decode cX11_member 33 = .ok (.iload_n 2, 1) := by decide +kernel
theorem dX11_member_34 : decode cX11_member 34 = .ok (.iaload, 1) := by decide +kernel
theorem dX11_member_35 : decode cX11_member 35 = .ok (.aaload, 1) := by decide +kernel
theorem dX11_member_36 : decode cX11_member 36 = .ok (.astore 4, 2) := by decide +kernel
theorem dX11_member_38 : decode cX11_member 38 = .ok (.iload_n 3, 1) := by decide +kernel
theorem dX11_member_39 : decode cX11_member 39 = .ok (.tableswitch 85 0 5 #[37, 43, 49, 55, 65, 79], 37) := by decide +kernel
theorem dX11_member_76 : decode cX11_member 76 = .ok (.aload 4, 2) := by decide +kernel
theorem dX11_member_78 : decode cX11_member 78 = .ok (.getfield 118, 3) := by decide +kernel
theorem dX11_member_81 : decode cX11_member 81 = .ok (.ireturn, 1) := by decide +kernel
theorem dX11_member_82 : decode cX11_member 82 = .ok (.aload 4, 2) := by decide +kernel
theorem dX11_member_84 : decode cX11_member 84 = .ok (.getfield 123, 3) := by decide +kernel
theorem dX11_member_87 : decode cX11_member 87 = .ok (.ireturn, 1) := by decide +kernel
theorem dX11_member_88 : decode cX11_member 88 = .ok (.aload 4, 2) := by decide +kernel
theorem dX11_member_90 : decode cX11_member 90 = .ok (.getfield 126, 3) := by decide +kernel
theorem dX11_member_93 : decode cX11_member 93 = .ok (.ireturn, 1) := by decide +kernel
theorem dX11_member_94 : decode cX11_member 94 = .ok (.aload_n 0, 1) := by decide +kernel
theorem dX11_member_95 : decode cX11_member 95 = .ok (.getfield 27, 3) := by decide +kernel
theorem dX11_member_98 : decode cX11_member 98 = .ok (.aload 4, 2) := by decide +kernel
theorem dX11_member_100 : decode cX11_member 100 = .ok (.invokevirtual 129, 3) := by decide +kernel
theorem dX11_member_103 : decode cX11_member 103 = .ok (.ireturn, 1) := by decide +kernel
theorem dX11_member_104 : decode cX11_member 104 = .ok (.aload 4, 2) := by decide +kernel
theorem dX11_member_106 : decode cX11_member 106 = .ok (.getfield 133, 3) := by decide +kernel
theorem dX11_member_109 : decode cX11_member 109 = .ok (.ifCond .eq 7, 3) := by decide +kernel
theorem dX11_member_112 : decode cX11_member 112 = .ok (.iconst 1, 1) := by decide +kernel
theorem dX11_member_113 : decode cX11_member 113 = .ok (.goto 4, 3) := by decide +kernel
theorem dX11_member_116 : decode cX11_member 116 = .ok (.iconst 0, 1) := by decide +kernel
theorem dX11_member_117 : decode cX11_member 117 = .ok (.ireturn, 1) := by decide +kernel
theorem dX11_member_118 : decode cX11_member 118 = .ok (.aload 4, 2) := by decide +kernel
theorem dX11_member_120 : decode cX11_member 120 = .ok (.getfield 137, 3) := by decide +kernel
theorem dX11_member_123 : decode cX11_member 123 = .ok (.ireturn, 1) := by decide +kernel
theorem dX11_member_124 : decode cX11_member 124 = .ok (.iconst (-1), 1) := by decide +kernel
theorem dX11_member_125 : decode cX11_member 125 = .ok (.ireturn, 1) := by decide +kernel
theorem dX11_model_0 : decode cX11_model 0 = .ok (.aload_n 0, 1) := by decide +kernel
theorem dX11_model_1 : decode cX11_model 1 = .ok (.getfield 27, 3) := by decide +kernel
theorem dX11_model_4 : decode cX11_model 4 = .ok (.iload_n 1, 1) := by decide +kernel
theorem dX11_model_5 : decode cX11_model 5 = .ok (.invokevirtual 78, 3) := by decide +kernel
theorem dX11_model_8 : decode cX11_model 8 = .ok (.ifCond .eq 19, 3) := by decide +kernel
theorem dX11_model_11 : decode cX11_model 11 = .ok (.iload_n 2, 1) := by decide +kernel
theorem dX11_model_12 : decode cX11_model 12 = .ok (.iconst (-1), 1) := by decide +kernel
theorem dX11_model_13 : decode cX11_model 13 = .ok (.if_icmp .eq 17, 3) := by decide +kernel
theorem dX11_model_16 : decode cX11_model 16 = .ok (.aload_n 0, 1) := by decide +kernel
theorem dX11_model_17 : decode cX11_model 17 = .ok (.getfield 27, 3) := by decide +kernel
theorem dX11_model_20 : decode cX11_model 20 = .ok (.iload_n 2, 1) := by decide +kernel
theorem dX11_model_21 : decode cX11_model 21 = .ok (.invokevirtual 78, 3) := by decide +kernel
theorem dX11_model_24 : decode cX11_model 24 = .ok (.ifCond .ne 6, 3) := by decide +kernel
theorem dX11_model_27 : decode cX11_model 27 = .ok (.bipush (-2), 2) := by decide +kernel
theorem dX11_model_29 : decode cX11_model 29 = .ok (.ireturn, 1) := by decide +kernel
theorem dX11_model_30 : decode cX11_model 30 = .ok (.aload_n 0, 1) := by decide +kernel
theorem dX11_model_31 : decode cX11_model 31 = .ok (.getfield 27, 3) := by decide +kernel
theorem dX11_model_34 : decode cX11_model 34 = .ok (.getfield 82, 3) := by decide +kernel
theorem dX11_model_37 : decode cX11_model 37 = .ok (.iload_n 1, 1) := by decide +kernel
theorem dX11_model_38 : decode cX11_model 38 = .ok (.aaload, 1) := by decide +kernel
theorem dX11_model_39 : decode cX11_model 39 = .ok (.iload_n 2, 1) := by decide +kernel
theorem dX11_model_40 : decode cX11_model 40 = .ok (.putfield 103, 3) := by decide +kernel
theorem dX11_model_43 : decode cX11_model 43 = .ok (.iconst 1, 1) := by decide +kernel
theorem dX11_model_44 : decode cX11_model 44 = .ok (.ireturn, 1) := by decide +kernel
theorem dX11_clear_0 : decode cX11_clear 0 = .ok (.aload_n 0, 1) := by decide +kernel
theorem dX11_clear_1 : decode cX11_clear 1 = .ok (.getfield 39, 3) := by decide +kernel
theorem dX11_clear_4 : decode cX11_clear 4 = .ok (.getfield 140, 3) := by decide +kernel
theorem dX11_clear_7 : decode cX11_clear 7 = .ok (.getfield 144, 3) := by decide +kernel
theorem dX11_clear_10 : decode cX11_clear 10 = .ok (.istore_n 1, 1) := by decide +kernel
theorem dX11_clear_11 : decode cX11_clear 11 = .ok (.aload_n 0, 1) := by decide +kernel
theorem dX11_clear_12 : decode cX11_clear 12 = .ok (.getfield 39, 3) := by decide +kernel
theorem dX11_clear_15 : decode cX11_clear 15 = .ok (.invokevirtual 149, 3) := by decide +kernel
theorem dX11_clear_18 : decode cX11_clear 18 = .ok (.iload_n 1, 1) := by decide +kernel
theorem dX11_clear_19 : decode cX11_clear 19 = .ok (.ireturn, 1) := by decide +kernel
theorem dX11_make_0 : decode cX11_make 0 = .ok (.aload_n 0, 1) := by decide +kernel
theorem dX11_make_1 : decode cX11_make 1 = .ok (.getfield 27, 3) := by decide +kernel
theorem dX11_make_4 : decode cX11_make 4 = .ok (.iload_n 1, 1) := by decide +kernel
theorem dX11_make_5 : decode cX11_make 5 = .ok (.invokevirtual 78, 3) := by decide +kernel
theorem dX11_make_8 : decode cX11_make 8 = .ok (.ifCond .ne 6, 3) := by decide +kernel
theorem dX11_make_11 : decode cX11_make 11 = .ok (.bipush (-2), 2) := by decide +kernel
theorem dX11_make_13 : decode cX11_make 13 = .ok (.ireturn, 1) := by decide +kernel
theorem dX11_make_14 : decode cX11_make 14 = .ok (.aload_n 0, 1) := by decide +kernel
theorem dX11_make_15 : decode cX11_make 15 = .ok (.getfield 39, 3) := by decide +kernel
theorem dX11_make_18 : decode cX11_make 18 = .ok (.getfield 140, 3) := by decide +kernel
theorem dX11_make_21 : decode cX11_make 21 = .ok (.invokevirtual 152, 3) := by decide +kernel
theorem dX11_make_24 : decode cX11_make 24 = .ok (.ifCond .ne 6, 3) := by decide +kernel
theorem dX11_make_27 : decode cX11_make 27 = .ok (.bipush (-3), 2) := by decide +kernel
theorem dX11_make_29 : decode cX11_make 29 = .ok (.ireturn, 1) := by decide +kernel
theorem dX11_make_30 : decode cX11_make 30 = .ok (.aload_n 0, 1) := by decide +kernel
theorem dX11_make_31 : decode cX11_make 31 = .ok (.getfield 39, 3) := by decide +kernel
theorem dX11_make_34 : decode cX11_make 34 = .ok (.iload_n 1, 1) := by decide +kernel
theorem dX11_make_35 : decode cX11_make 35 = .ok (.invokevirtual 155, 3) := by decide +kernel
theorem dX11_make_38 : decode cX11_make 38 = .ok (.ireturn, 1) := by decide +kernel
theorem dX11_call_0 : decode cX11_call 0 = .ok (.aload_n 0, 1) := by decide +kernel
theorem dX11_call_1 : decode cX11_call 1 = .ok (.getfield 39, 3) := by decide +kernel
theorem dX11_call_4 : decode cX11_call 4 = .ok (.getfield 140, 3) := by decide +kernel
theorem dX11_call_7 : decode cX11_call 7 = .ok (.aload_n 0, 1) := by decide +kernel
theorem dX11_call_8 : decode cX11_call 8 = .ok (.getfield 27, 3) := by decide +kernel
theorem dX11_call_11 : decode cX11_call 11 = .ok (.iload_n 1, 1) := by decide +kernel
theorem dX11_call_12 : decode cX11_call 12 = .ok (.iload_n 2, 1) := by decide +kernel
theorem dX11_call_13 : decode cX11_call 13 = .ok (.iload_n 3, 1) := by decide +kernel
theorem dX11_call_14 : decode cX11_call 14 = .ok (.iload 4, 2) := by decide +kernel
theorem dX11_call_16 : decode cX11_call 16 = .ok (.iload 5, 2) := by decide +kernel
theorem dX11_call_18 : decode cX11_call 18 = .ok (.invokevirtual 159, 3) := by decide +kernel
theorem dX11_call_21 : decode cX11_call 21 = .ok (.ifCond .ne 6, 3) := by decide +kernel
theorem dX11_call_24 : decode cX11_call 24 = .ok (.bipush (-2), 2) := by decide +kernel
theorem dX11_call_26 : decode cX11_call 26 = .ok (.ireturn, 1) := by decide +kernel
theorem dX11_call_27 : decode cX11_call 27 = .ok (.aload_n 0, 1) := by decide +kernel
theorem dX11_call_28 : decode cX11_call 28 = .ok (.getfield 39, 3) := by decide +kernel
theorem dX11_call_31 : decode cX11_call 31 = .ok (.getfield 140, 3) := by decide +kernel
theorem dX11_call_34 : decode cX11_call 34 = .ok (.invokevirtual 163, 3) := by decide +kernel
theorem dX11_call_37 : decode cX11_call 37 = .ok (.ifCond .ne 6, 3) := by decide +kernel
theorem dX11_call_40 : decode cX11_call 40 = .ok (.bipush (-3), 2) := by decide +kernel
theorem dX11_call_42 : decode cX11_call 42 = .ok (.ireturn, 1) := by decide +kernel
theorem dX11_call_43 : decode cX11_call 43 = .ok (.aload_n 0, 1) := by decide +kernel
theorem dX11_call_44 : decode cX11_call 44 = .ok (.getfield 39, 3) := by decide +kernel
theorem dX11_call_47 : decode cX11_call 47 = .ok (.iload_n 1, 1) := by decide +kernel
theorem dX11_call_48 : decode cX11_call 48 = .ok (.iload_n 2, 1) := by decide +kernel
theorem dX11_call_49 : decode cX11_call 49 = .ok (.iload_n 3, 1) := by decide +kernel
theorem dX11_call_50 : decode cX11_call 50 = .ok (.iload 4, 2) := by decide +kernel
theorem dX11_call_52 : decode cX11_call 52 = .ok (.iload 5, 2) := by decide +kernel
theorem dX11_call_54 : decode cX11_call 54 = .ok (.invokevirtual 166, 3) := by decide +kernel
theorem dX11_call_57 : decode cX11_call 57 = .ok (.ireturn, 1) := by decide +kernel
theorem dX11_run_0 : decode cX11_run 0 = .ok (.aload_n 0, 1) := by decide +kernel
theorem dX11_run_1 : decode cX11_run 1 = .ok (.getfield 39, 3) := by decide +kernel
theorem dX11_run_4 : decode cX11_run 4 = .ok (.getfield 140, 3) := by decide +kernel
theorem dX11_run_7 : decode cX11_run 7 = .ok (.getfield 144, 3) := by decide +kernel
theorem dX11_run_10 : decode cX11_run 10 = .ok (.ifCond .ne 6, 3) := by decide +kernel
theorem dX11_run_13 : decode cX11_run 13 = .ok (.bipush (-2), 2) := by decide +kernel
theorem dX11_run_15 : decode cX11_run 15 = .ok (.ireturn, 1) := by decide +kernel
theorem dX11_run_16 : decode cX11_run 16 = .ok (.aload_n 0, 1) := by decide +kernel
theorem dX11_run_17 : decode cX11_run 17 = .ok (.getfield 39, 3) := by decide +kernel
theorem dX11_run_20 : decode cX11_run 20 = .ok (.invokevirtual 170, 3) := by decide +kernel
theorem dX11_run_23 : decode cX11_run 23 = .ok (.aload_n 0, 1) := by decide +kernel
theorem dX11_run_24 : decode cX11_run 24 = .ok (.getfield 39, 3) := by decide +kernel
theorem dX11_run_27 : decode cX11_run 27 = .ok (.getfield 173, 3) := by decide +kernel
theorem dX11_run_30 : decode cX11_run 30 = .ok (.getfield 177, 3) := by decide +kernel
theorem dX11_run_33 : decode cX11_run 33 = .ok (.ireturn, 1) := by decide +kernel
theorem dX11_draw_0 : decode cX11_draw 0 = .ok (.aload_n 0, 1) := by decide +kernel
theorem dX11_draw_1 : decode cX11_draw 1 = .ok (.getfield 27, 3) := by decide +kernel
theorem dX11_draw_4 : decode cX11_draw 4 = .ok (.iload_n 1, 1) := by decide +kernel
theorem dX11_draw_5 : decode cX11_draw 5 = .ok (.invokevirtual 78, 3) := by decide +kernel
theorem dX11_draw_8 : decode cX11_draw 8 = .ok (.ifCond .eq 14, 3) := by decide +kernel
theorem dX11_draw_11 : decode cX11_draw 11 = .ok (.iload_n 3, 1) := by decide +kernel
theorem dX11_draw_12 : decode cX11_draw 12 = .ok (.iconst 1, 1) := by decide +kernel
theorem dX11_draw_13 : decode cX11_draw 13 = .ok (.if_icmp .lt 9, 3) := by decide +kernel
theorem dX11_draw_16 : decode cX11_draw 16 = .ok (.iload_n 3, 1) := by decide +kernel
theorem dX11_draw_17 : decode cX11_draw 17 = .ok (.bipush 100, 2) := by decide +kernel
theorem dX11_draw_19 : decode cX11_draw 19 = .ok (.if_icmp .le 6, 3) := by decide +kernel
theorem dX11_draw_22 : decode cX11_draw 22 = .ok (.bipush (-2), 2) := by decide +kernel
theorem dX11_draw_24 : decode cX11_draw 24 = .ok (.ireturn, 1) := by decide +kernel
theorem dX11_draw_25 : decode cX11_draw 25 = .ok (.aload_n 0, 1) := by decide +kernel
theorem dX11_draw_26 : decode cX11_draw 26 = .ok (.getfield 39, 3) := by decide +kernel
theorem dX11_draw_29 : decode cX11_draw 29 = .ok (.iload_n 1, 1) := by decide +kernel
theorem dX11_draw_30 : decode cX11_draw 30 = .ok (.iload_n 2, 1) := by decide +kernel
theorem dX11_draw_31 : decode cX11_draw 31 = .ok (.iload_n 3, 1) := by decide +kernel
theorem dX11_draw_32 : decode cX11_draw 32 = .ok (.invokevirtual 182, 3) := by decide +kernel
theorem dX11_draw_35 : decode cX11_draw 35 = .ok (.ireturn, 1) := by decide +kernel
theorem dX11_all_0 : decode cX11_all 0 = .ok (.aload_n 0, 1) := by decide +kernel
theorem dX11_all_1 : decode cX11_all 1 = .ok (.getfield 27, 3) := by decide +kernel
theorem dX11_all_4 : decode cX11_all 4 = .ok (.iload_n 1, 1) := by decide +kernel
theorem dX11_all_5 : decode cX11_all 5 = .ok (.invokevirtual 78, 3) := by decide +kernel
theorem dX11_all_8 : decode cX11_all 8 = .ok (.ifCond .eq 13, 3) := by decide +kernel
theorem dX11_all_11 : decode cX11_all 11 = .ok (.iload_n 2, 1) := by decide +kernel
theorem dX11_all_12 : decode cX11_all 12 = .ok (.iconst 1, 1) := by decide +kernel
theorem dX11_all_13 : decode cX11_all 13 = .ok (.if_icmp .lt 8, 3) := by decide +kernel
theorem dX11_all_16 : decode cX11_all 16 = .ok (.iload_n 2, 1) := by decide +kernel
theorem dX11_all_17 : decode cX11_all 17 = .ok (.iconst 4, 1) := by decide +kernel
theorem dX11_all_18 : decode cX11_all 18 = .ok (.if_icmp .le 6, 3) := by decide +kernel
theorem dX11_all_21 : decode cX11_all 21 = .ok (.bipush (-2), 2) := by decide +kernel
theorem dX11_all_23 : decode cX11_all 23 = .ok (.ireturn, 1) := by decide +kernel
theorem dX11_all_24 : decode cX11_all 24 = .ok (.aload_n 0, 1) := by decide +kernel
theorem dX11_all_25 : decode cX11_all 25 = .ok (.getfield 39, 3) := by decide +kernel
theorem dX11_all_28 : decode cX11_all 28 = .ok (.iload_n 1, 1) := by decide +kernel
theorem dX11_all_29 : decode cX11_all 29 = .ok (.iload_n 2, 1) := by decide +kernel
theorem dX11_all_30 : decode cX11_all 30 = .ok (.invokevirtual 186, 3) := by decide +kernel
theorem dX11_all_33 : decode cX11_all 33 = .ok (.ireturn, 1) := by decide +kernel
theorem dX11_tried_0 : decode cX11_tried 0 = .ok (.aload_n 0, 1) := by decide +kernel
theorem dX11_tried_1 : decode cX11_tried 1 = .ok (.getfield 39, 3) := by decide +kernel
theorem dX11_tried_4 : decode cX11_tried 4 = .ok (.getfield 190, 3) := by decide +kernel
theorem dX11_tried_7 : decode cX11_tried 7 = .ok (.ireturn, 1) := by decide +kernel
theorem dX11_cut_0 : decode cX11_cut 0 = .ok (.aload_n 0, 1) := by decide +kernel
theorem dX11_cut_1 : decode cX11_cut 1 = .ok (.getfield 39, 3) := by decide +kernel
theorem dX11_cut_4 : decode cX11_cut 4 = .ok (.getfield 193, 3) := by decide +kernel
theorem dX11_cut_7 : decode cX11_cut 7 = .ok (.ireturn, 1) := by decide +kernel
theorem dX11_shrink_0 : decode cX11_shrink 0 = .ok (.aload_n 0, 1) := by decide +kernel
theorem dX11_shrink_1 : decode cX11_shrink 1 = .ok (.getfield 39, 3) := by decide +kernel
theorem dX11_shrink_4 : decode cX11_shrink 4 = .ok (.getfield 196, 3) := by decide +kernel
theorem dX11_shrink_7 : decode cX11_shrink 7 = .ok (.ifCond .eq 16, 3) := by decide +kernel
theorem dX11_shrink_10 : decode cX11_shrink 10 = .ok (.aload_n 0, 1) := by decide +kernel
theorem dX11_shrink_11 : decode cX11_shrink 11 = .ok (.getfield 39, 3) := by decide +kernel
theorem dX11_shrink_14 : decode cX11_shrink 14 = .ok (.getfield 173, 3) := by decide +kernel
theorem dX11_shrink_17 : decode cX11_shrink 17 = .ok (.getfield 177, 3) := by decide +kernel
theorem dX11_shrink_20 : decode cX11_shrink 20 = .ok (.ifCond .gt 6, 3) := by decide +kernel
theorem dX11_shrink_23 : decode cX11_shrink 23 = .ok (.bipush (-2), 2) := by decide +kernel
theorem dX11_shrink_25 : decode cX11_shrink 25 = .ok (.ireturn, 1) := by decide +kernel
theorem dX11_shrink_26 : decode cX11_shrink 26 = .ok (.aload_n 0, 1) := by decide +kernel
theorem dX11_shrink_27 : decode cX11_shrink 27 = .ok (.getfield 39, 3) := by decide +kernel
theorem dX11_shrink_30 : decode cX11_shrink 30 = .ok (.invokevirtual 199, 3) := by decide +kernel
theorem dX11_shrink_33 : decode cX11_shrink 33 = .ok (.ireturn, 1) := by decide +kernel
theorem dX11_verdict_0 : decode cX11_verdict 0 = .ok (.aload_n 0, 1) := by decide +kernel
theorem dX11_verdict_1 : decode cX11_verdict 1 = .ok (.getfield 39, 3) := by decide +kernel
theorem dX11_verdict_4 : decode cX11_verdict 4 = .ok (.getfield 173, 3) := by decide +kernel
theorem dX11_verdict_7 : decode cX11_verdict 7 = .ok (.getfield 177, 3) := by decide +kernel
theorem dX11_verdict_10 : decode cX11_verdict 10 = .ok (.ireturn, 1) := by decide +kernel
theorem dX11_condition_0 : decode cX11_condition 0 = .ok (.aload_n 0, 1) := by decide +kernel
theorem dX11_condition_1 : decode cX11_condition 1 = .ok (.getfield 39, 3) := by decide +kernel
theorem dX11_condition_4 : decode cX11_condition 4 = .ok (.getfield 173, 3) := by decide +kernel
theorem dX11_condition_7 : decode cX11_condition 7 = .ok (.astore_n 2, 1) := by decide +kernel
theorem dX11_condition_8 : decode cX11_condition 8 = .ok (.aload_n 2, 1) := by decide +kernel
theorem dX11_condition_9 : decode cX11_condition 9 = .ok (.getfield 202, 3) := by decide +kernel
theorem dX11_condition_12 : decode cX11_condition 12 = .ok (.istore_n 3, 1) := by decide +kernel
theorem dX11_condition_13 : decode cX11_condition 13 = .ok (.iload_n 3, 1) := by decide +kernel
theorem dX11_condition_14 : decode cX11_condition 14 = .ok (.ifCond .lt 14, 3) := by decide +kernel
theorem dX11_condition_17 : decode cX11_condition 17 = .ok (.iload_n 3, 1) := by decide +kernel
theorem dX11_condition_18 : decode cX11_condition 18 = .ok (.aload_n 0, 1) := by decide +kernel
theorem dX11_condition_19 : decode cX11_condition 19 = .ok (.getfield 27, 3) := by decide +kernel
theorem dX11_condition_22 : decode cX11_condition 22 = .ok (.getfield 205, 3) := by decide +kernel
theorem dX11_condition_25 : decode cX11_condition 25 = .ok (.if_icmp .lt 5, 3) := by decide +kernel
theorem dX11_condition_28 : decode cX11_condition 28 = .ok (.iconst (-1), 1) := by decide +kernel
theorem dX11_condition_29 : decode cX11_condition 29 = .ok (.ireturn, 1) := by decide +kernel
theorem dX11_condition_30 : decode cX11_condition 30 = .ok (.iload_n 1, 1) := by decide +kernel
theorem dX11_condition_31 : decode cX11_condition 31 = .ok (.tableswitch 64 0 3 #[29, 39, 44, 54], 29) := by decide +kernel
theorem dX11_condition_60 : decode cX11_condition 60 = .ok (.aload_n 0, 1) := by decide +kernel
theorem dX11_condition_61 : decode cX11_condition 61 = .ok (.getfield 27, 3) := by decide +kernel
theorem dX11_condition_64 : decode cX11_condition 64 = .ok (.getfield 208, 3) := by decide +kernel
theorem dX11_condition_67 : decode cX11_condition 67 = .ok (.iload_n 3, 1) := by decide +kernel
theorem dX11_condition_68 : decode cX11_condition 68 = .ok (.iaload, 1) := by decide +kernel
theorem dX11_condition_69 : decode cX11_condition 69 = .ok (.ireturn, 1) := by decide +kernel
theorem dX11_condition_70 : decode cX11_condition 70 = .ok (.aload_n 2, 1) := by decide +kernel
theorem dX11_condition_71 : decode cX11_condition 71 = .ok (.getfield 211, 3) := by decide +kernel
theorem dX11_condition_74 : decode cX11_condition 74 = .ok (.ireturn, 1) := by decide +kernel
theorem dX11_condition_75 : decode cX11_condition 75 = .ok (.aload_n 0, 1) := by decide +kernel
theorem dX11_condition_76 : decode cX11_condition 76 = .ok (.getfield 27, 3) := by decide +kernel
theorem dX11_condition_79 : decode cX11_condition 79 = .ok (.getfield 214, 3) := by decide +kernel
theorem dX11_condition_82 : decode cX11_condition 82 = .ok (.iload_n 3, 1) := by decide +kernel
theorem dX11_condition_83 : decode cX11_condition 83 = .ok (.iaload, 1) := by decide +kernel
theorem dX11_condition_84 : decode cX11_condition 84 = .ok (.ireturn, 1) := by decide +kernel
theorem dX11_condition_85 : decode cX11_condition 85 = .ok (.aload_n 0, 1) := by decide +kernel
theorem dX11_condition_86 : decode cX11_condition 86 = .ok (.getfield 27, 3) := by decide +kernel
theorem dX11_condition_89 : decode cX11_condition 89 = .ok (.getfield 217, 3) := by decide +kernel
theorem dX11_condition_92 : decode cX11_condition 92 = .ok (.iload_n 3, 1) := by decide +kernel
theorem dX11_condition_93 : decode cX11_condition 93 = .ok (.iaload, 1) := by decide +kernel
theorem dX11_condition_94 : decode cX11_condition 94 = .ok (.ireturn, 1) := by decide +kernel
theorem dX11_condition_95 : decode cX11_condition 95 = .ok (.iconst (-1), 1) := by decide +kernel
theorem dX11_condition_96 : decode cX11_condition 96 = .ok (.ireturn, 1) := by decide +kernel
theorem dX11_changed_0 : decode cX11_changed 0 = .ok (.iload_n 1, 1) := by decide +kernel
theorem dX11_changed_1 : decode cX11_changed 1 = .ok (.ifCond .ne 14, 3) := by decide +kernel
theorem dX11_changed_4 : decode cX11_changed 4 = .ok (.aload_n 0, 1) := by decide +kernel
theorem dX11_changed_5 : decode cX11_changed 5 = .ok (.getfield 39, 3) := by decide +kernel
theorem dX11_changed_8 : decode cX11_changed 8 = .ok (.getfield 173, 3) := by decide +kernel
theorem dX11_changed_11 : decode cX11_changed 11 = .ok (.getfield 220, 3) := by decide +kernel
theorem dX11_changed_14 : decode cX11_changed 14 = .ok (.ireturn, 1) := by decide +kernel
theorem dX11_changed_15 : decode cX11_changed 15 = .ok (.iload_n 1, 1) := by decide +kernel
theorem dX11_changed_16 : decode cX11_changed 16 = .ok (.iconst 1, 1) := by decide +kernel
theorem dX11_changed_17 : decode cX11_changed 17 = .ok (.if_icmp .ne 16, 3) := by decide +kernel
theorem dX11_changed_20 : decode cX11_changed 20 = .ok (.aload_n 0, 1) := by decide +kernel
theorem dX11_changed_21 : decode cX11_changed 21 = .ok (.getfield 39, 3) := by decide +kernel
theorem dX11_changed_24 : decode cX11_changed 24 = .ok (.getfield 173, 3) := by decide +kernel
theorem dX11_changed_27 : decode cX11_changed 27 = .ok (.getfield 223, 3) := by decide +kernel
theorem dX11_changed_30 : decode cX11_changed 30 = .ok (.goto 4, 3) := by decide +kernel
theorem dX11_changed_33 : decode cX11_changed 33 = .ok (.iconst (-1), 1) := by decide +kernel
theorem dX11_changed_34 : decode cX11_changed 34 = .ok (.ireturn, 1) := by decide +kernel
theorem dX11_thrown_0 : decode cX11_thrown 0 = .ok (.aload_n 0, 1) := by decide +kernel
theorem dX11_thrown_1 : decode cX11_thrown 1 = .ok (.getfield 39, 3) := by decide +kernel
theorem dX11_thrown_4 : decode cX11_thrown 4 = .ok (.getfield 173, 3) := by decide +kernel
theorem dX11_thrown_7 : decode cX11_thrown 7 = .ok (.getfield 226, 3) := by decide +kernel
theorem dX11_thrown_10 : decode cX11_thrown 10 = .ok (.iload_n 1, 1) := by decide +kernel
theorem dX11_thrown_11 : decode cX11_thrown 11 = .ok (.invokestatic 230, 3) := by decide +kernel
theorem dX11_thrown_14 : decode cX11_thrown 14 = .ok (.ireturn, 1) := by decide +kernel
theorem dX11_row_0 : decode cX11_row 0 = .ok (.aload_n 0, 1) := by decide +kernel
theorem dX11_row_1 : decode cX11_row 1 = .ok (.getfield 39, 3) := by decide +kernel
theorem dX11_row_4 : decode cX11_row 4 = .ok (.getfield 140, 3) := by decide +kernel
theorem dX11_row_7 : decode cX11_row 7 = .ok (.getfield 144, 3) := by decide +kernel
theorem dX11_row_10 : decode cX11_row 10 = .ok (.ireturn, 1) := by decide +kernel
theorem dX11_told_0 : decode cX11_told 0 = .ok (.aload_n 0, 1) := by decide +kernel
theorem dX11_told_1 : decode cX11_told 1 = .ok (.getfield 39, 3) := by decide +kernel
theorem dX11_told_4 : decode cX11_told 4 = .ok (.getfield 140, 3) := by decide +kernel
theorem dX11_told_7 : decode cX11_told 7 = .ok (.astore_n 3, 1) := by decide +kernel
theorem dX11_told_8 : decode cX11_told 8 = .ok (.iload_n 1, 1) := by decide +kernel
theorem dX11_told_9 : decode cX11_told 9 = .ok (.ifCond .lt 11, 3) := by decide +kernel
theorem dX11_told_12 : decode cX11_told 12 = .ok (.iload_n 1, 1) := by decide +kernel
theorem dX11_told_13 : decode cX11_told 13 = .ok (.aload_n 3, 1) := by decide +kernel
theorem dX11_told_14 : decode cX11_told 14 = .ok (.getfield 144, 3) := by decide +kernel
theorem dX11_told_17 : decode cX11_told 17 = .ok (.if_icmp .lt 5, 3) := by decide +kernel
theorem dX11_told_20 : decode cX11_told 20 = .ok (.iconst (-1), 1) := by decide +kernel
theorem dX11_told_21 : decode cX11_told 21 = .ok (.ireturn, 1) := by decide +kernel
theorem dX11_told_22 : decode cX11_told 22 = .ok (.iload_n 2, 1) := by decide +kernel
theorem dX11_told_23 : decode cX11_told 23 = .ok (.tableswitch 108 0 6 #[41, 48, 55, 64, 73, 82, 95], 41) := by decide +kernel
theorem dX11_told_64 : decode cX11_told 64 = .ok (.aload_n 3, 1) := by decide +kernel
theorem dX11_told_65 : decode cX11_told 65 = .ok (.getfield 236, 3) := by decide +kernel
theorem dX11_told_68 : decode cX11_told 68 = .ok (.iload_n 1, 1) := by decide +kernel
theorem dX11_told_69 : decode cX11_told 69 = .ok (.iaload, 1) := by decide +kernel
theorem dX11_told_70 : decode cX11_told 70 = .ok (.ireturn, 1) := by decide +kernel
theorem dX11_told_71 : decode cX11_told 71 = .ok (.aload_n 3, 1) := by decide +kernel
theorem dX11_told_72 : decode cX11_told 72 = .ok (.getfield 239, 3) := by decide +kernel
theorem dX11_told_75 : decode cX11_told 75 = .ok (.iload_n 1, 1) := by decide +kernel
theorem dX11_told_76 : decode cX11_told 76 = .ok (.iaload, 1) := by decide +kernel
theorem dX11_told_77 : decode cX11_told 77 = .ok (.ireturn, 1) := by decide +kernel
theorem dX11_told_78 : decode cX11_told 78 = .ok (.aload_n 3, 1) := by decide +kernel
theorem dX11_told_79 : decode cX11_told 79 = .ok (.getfield 242, 3) := by decide +kernel
theorem dX11_told_82 : decode cX11_told 82 = .ok (.iload_n 1, 1) := by decide +kernel
theorem dX11_told_83 : decode cX11_told 83 = .ok (.aaload, 1) := by decide +kernel
theorem dX11_told_84 : decode cX11_told 84 = .ok (.iconst 0, 1) := by decide +kernel
theorem dX11_told_85 : decode cX11_told 85 = .ok (.iaload, 1) := by decide +kernel
theorem dX11_told_86 : decode cX11_told 86 = .ok (.ireturn, 1) := by decide +kernel
theorem dX11_told_87 : decode cX11_told 87 = .ok (.aload_n 3, 1) := by decide +kernel
theorem dX11_told_88 : decode cX11_told 88 = .ok (.getfield 242, 3) := by decide +kernel
theorem dX11_told_91 : decode cX11_told 91 = .ok (.iload_n 1, 1) := by decide +kernel
theorem dX11_told_92 : decode cX11_told 92 = .ok (.aaload, 1) := by decide +kernel
theorem dX11_told_93 : decode cX11_told 93 = .ok (.iconst 1, 1) := by decide +kernel
theorem dX11_told_94 : decode cX11_told 94 = .ok (.iaload, 1) := by decide +kernel
theorem dX11_told_95 : decode cX11_told 95 = .ok (.ireturn, 1) := by decide +kernel
theorem dX11_told_96 : decode cX11_told 96 = .ok (.aload_n 3, 1) := by decide +kernel
theorem dX11_told_97 : decode cX11_told 97 = .ok (.getfield 242, 3) := by decide +kernel
theorem dX11_told_100 : decode cX11_told 100 = .ok (.iload_n 1, 1) := by decide +kernel
theorem dX11_told_101 : decode cX11_told 101 = .ok (.aaload, 1) := by decide +kernel
theorem dX11_told_102 : decode cX11_told 102 = .ok (.iconst 2, 1) := by decide +kernel
theorem dX11_told_103 : decode cX11_told 103 = .ok (.iaload, 1) := by decide +kernel
theorem dX11_told_104 : decode cX11_told 104 = .ok (.ireturn, 1) := by decide +kernel
theorem dX11_told_105 : decode cX11_told 105 = .ok (.aload_n 0, 1) := by decide +kernel
theorem dX11_told_106 : decode cX11_told 106 = .ok (.getfield 39, 3) := by decide +kernel
theorem dX11_told_109 : decode cX11_told 109 = .ok (.getfield 173, 3) := by decide +kernel
theorem dX11_told_112 : decode cX11_told 112 = .ok (.getfield 246, 3) := by decide +kernel
theorem dX11_told_115 : decode cX11_told 115 = .ok (.iload_n 1, 1) := by decide +kernel
theorem dX11_told_116 : decode cX11_told 116 = .ok (.iaload, 1) := by decide +kernel
theorem dX11_told_117 : decode cX11_told 117 = .ok (.ireturn, 1) := by decide +kernel
theorem dX11_told_118 : decode cX11_told 118 = .ok (.aload_n 0, 1) := by decide +kernel
theorem dX11_told_119 : decode cX11_told 119 = .ok (.getfield 39, 3) := by decide +kernel
theorem dX11_told_122 : decode cX11_told 122 = .ok (.getfield 173, 3) := by decide +kernel
theorem dX11_told_125 : decode cX11_told 125 = .ok (.getfield 249, 3) := by decide +kernel
theorem dX11_told_128 : decode cX11_told 128 = .ok (.iload_n 1, 1) := by decide +kernel
theorem dX11_told_129 : decode cX11_told 129 = .ok (.iaload, 1) := by decide +kernel
theorem dX11_told_130 : decode cX11_told 130 = .ok (.ireturn, 1) := by decide +kernel
theorem dX11_told_131 : decode cX11_told 131 = .ok (.iconst (-1), 1) := by decide +kernel
theorem dX11_told_132 : decode cX11_told 132 = .ok (.ireturn, 1) := by decide +kernel
theorem dX11_cell_0 : decode cX11_cell 0 = .ok (.aload_n 0, 1) := by decide +kernel
theorem dX11_cell_1 : decode cX11_cell 1 = .ok (.getfield 39, 3) := by decide +kernel
theorem dX11_cell_4 : decode cX11_cell 4 = .ok (.getfield 173, 3) := by decide +kernel
theorem dX11_cell_7 : decode cX11_cell 7 = .ok (.astore_n 3, 1) := by decide +kernel
theorem dX11_cell_8 : decode cX11_cell 8 = .ok (.iload_n 1, 1) := by decide +kernel
theorem dX11_cell_9 : decode cX11_cell 9 = .ok (.ifCond .lt 32, 3) := by decide +kernel
theorem dX11_cell_12 : decode cX11_cell 12 = .ok (.iload_n 1, 1) := by decide +kernel
theorem dX11_cell_13 : decode cX11_cell 13 = .ok (.aload_n 3, 1) := by decide +kernel
theorem dX11_cell_14 : decode cX11_cell 14 = .ok (.getfield 252, 3) := by decide +kernel
theorem dX11_cell_17 : decode cX11_cell 17 = .ok (.if_icmp .ge 24, 3) := by decide +kernel
theorem dX11_cell_20 : decode cX11_cell 20 = .ok (.iload_n 2, 1) := by decide +kernel
theorem dX11_cell_21 : decode cX11_cell 21 = .ok (.ifCond .lt 20, 3) := by decide +kernel
theorem dX11_cell_24 : decode cX11_cell 24 = .ok (.iload_n 2, 1) := by decide +kernel
theorem dX11_cell_25 : decode cX11_cell 25 = .ok (.aload_n 0, 1) := by decide +kernel
theorem dX11_cell_26 : decode cX11_cell 26 = .ok (.getfield 27, 3) := by decide +kernel
theorem dX11_cell_29 : decode cX11_cell 29 = .ok (.aload_n 3, 1) := by decide +kernel
theorem dX11_cell_30 : decode cX11_cell 30 = .ok (.getfield 255, 3) := by decide +kernel
theorem dX11_cell_33 : decode cX11_cell 33 = .ok (.iload_n 1, 1) := by decide +kernel
theorem dX11_cell_34 : decode cX11_cell 34 = .ok (.iaload, 1) := by decide +kernel
theorem dX11_cell_35 : decode cX11_cell 35 = .ok (.invokevirtual 258, 3) := by decide +kernel
theorem dX11_cell_38 : decode cX11_cell 38 = .ok (.if_icmp .lt 7, 3) := by decide +kernel
theorem dX11_cell_41 : decode cX11_cell 41 = .ok (.ldc2_w 263, 3) := by decide +kernel
theorem dX11_cell_44 : decode cX11_cell 44 = .ok (.lreturn, 1) := by decide +kernel
theorem dX11_cell_45 : decode cX11_cell 45 = .ok (.aload_n 3, 1) := by decide +kernel
theorem dX11_cell_46 : decode cX11_cell 46 = .ok (.getfield 265, 3) := by decide +kernel
theorem dX11_cell_49 : decode cX11_cell 49 = .ok (.iload_n 1, 1) := by decide +kernel
theorem dX11_cell_50 : decode cX11_cell 50 = .ok (.aaload, 1) := by decide +kernel
theorem dX11_cell_51 : decode cX11_cell 51 = .ok (.iload_n 2, 1) := by decide +kernel
theorem dX11_cell_52 : decode cX11_cell 52 = .ok (.iaload, 1) := by decide +kernel
theorem dX11_cell_53 : decode cX11_cell 53 = .ok (.i2l, 1) := by decide +kernel
theorem dX11_cell_54 : decode cX11_cell 54 = .ok (.lreturn, 1) := by decide +kernel
theorem dX11_beside_0 : decode cX11_beside 0 = .ok (.aload_n 0, 1) := by decide +kernel
theorem dX11_beside_1 : decode cX11_beside 1 = .ok (.getfield 39, 3) := by decide +kernel
theorem dX11_beside_4 : decode cX11_beside 4 = .ok (.getfield 173, 3) := by decide +kernel
theorem dX11_beside_7 : decode cX11_beside 7 = .ok (.astore_n 3, 1) := by decide +kernel
theorem dX11_beside_8 : decode cX11_beside 8 = .ok (.iload_n 1, 1) := by decide +kernel
theorem dX11_beside_9 : decode cX11_beside 9 = .ok (.ifCond .lt 32, 3) := by decide +kernel
theorem dX11_beside_12 : decode cX11_beside 12 = .ok (.iload_n 1, 1) := by decide +kernel
theorem dX11_beside_13 : decode cX11_beside 13 = .ok (.aload_n 3, 1) := by decide +kernel
theorem dX11_beside_14 : decode cX11_beside 14 = .ok (.getfield 252, 3) := by decide +kernel
theorem dX11_beside_17 : decode cX11_beside 17 = .ok (.if_icmp .ge 24, 3) := by decide +kernel
theorem dX11_beside_20 : decode cX11_beside 20 = .ok (.iload_n 2, 1) := by decide +kernel
theorem dX11_beside_21 : decode cX11_beside 21 = .ok (.ifCond .lt 20, 3) := by decide +kernel
theorem dX11_beside_24 : decode cX11_beside 24 = .ok (.iload_n 2, 1) := by decide +kernel
theorem dX11_beside_25 : decode cX11_beside 25 = .ok (.aload_n 0, 1) := by decide +kernel
theorem dX11_beside_26 : decode cX11_beside 26 = .ok (.getfield 27, 3) := by decide +kernel
theorem dX11_beside_29 : decode cX11_beside 29 = .ok (.aload_n 3, 1) := by decide +kernel
theorem dX11_beside_30 : decode cX11_beside 30 = .ok (.getfield 267, 3) := by decide +kernel
theorem dX11_beside_33 : decode cX11_beside 33 = .ok (.iload_n 1, 1) := by decide +kernel
theorem dX11_beside_34 : decode cX11_beside 34 = .ok (.iaload, 1) := by decide +kernel
theorem dX11_beside_35 : decode cX11_beside 35 = .ok (.invokevirtual 258, 3) := by decide +kernel
theorem dX11_beside_38 : decode cX11_beside 38 = .ok (.if_icmp .lt 7, 3) := by decide +kernel
theorem dX11_beside_41 : decode cX11_beside 41 = .ok (.ldc2_w 263, 3) := by decide +kernel
theorem dX11_beside_44 : decode cX11_beside 44 = .ok (.lreturn, 1) := by decide +kernel
theorem dX11_beside_45 : decode cX11_beside 45 = .ok (.aload_n 3, 1) := by decide +kernel
theorem dX11_beside_46 : decode cX11_beside 46 = .ok (.getfield 270, 3) := by decide +kernel
theorem dX11_beside_49 : decode cX11_beside 49 = .ok (.iload_n 1, 1) := by decide +kernel
theorem dX11_beside_50 : decode cX11_beside 50 = .ok (.aaload, 1) := by decide +kernel
theorem dX11_beside_51 : decode cX11_beside 51 = .ok (.iload_n 2, 1) := by decide +kernel
theorem dX11_beside_52 : decode cX11_beside 52 = .ok (.iaload, 1) := by decide +kernel
theorem dX11_beside_53 : decode cX11_beside 53 = .ok (.i2l, 1) := by decide +kernel
theorem dX11_beside_54 : decode cX11_beside 54 = .ok (.lreturn, 1) := by decide +kernel
theorem dX11_count_0 : decode cX11_count 0 = .ok (.iload_n 1, 1) := by decide +kernel
theorem dX11_count_1 : decode cX11_count 1 = .ok (.tableswitch 63 0 3 #[31, 39, 44, 52], 31) := by decide +kernel
theorem dX11_count_32 : decode cX11_count 32 = .ok (.aload_n 0, 1) := by decide +kernel
theorem dX11_count_33 : decode cX11_count 33 = .ok (.getfield 27, 3) := by decide +kernel
theorem dX11_count_36 : decode cX11_count 36 = .ok (.getfield 75, 3) := by decide +kernel
theorem dX11_count_39 : decode cX11_count 39 = .ok (.ireturn, 1) := by decide +kernel
theorem dX11_count_40 : decode cX11_count 40 = .ok (.aload_n 0, 1) := by decide +kernel
theorem dX11_count_41 : decode cX11_count 41 = .ok (.getfield 13, 3) := by decide +kernel
theorem dX11_count_44 : decode cX11_count 44 = .ok (.ireturn, 1) := by decide +kernel
theorem dX11_count_45 : decode cX11_count 45 = .ok (.aload_n 0, 1) := by decide +kernel
theorem dX11_count_46 : decode cX11_count 46 = .ok (.getfield 27, 3) := by decide +kernel
theorem dX11_count_49 : decode cX11_count 49 = .ok (.getfield 273, 3) := by decide +kernel
theorem dX11_count_52 : decode cX11_count 52 = .ok (.ireturn, 1) := by decide +kernel
theorem dX11_count_53 : decode cX11_count 53 = .ok (.aload_n 0, 1) := by decide +kernel
theorem dX11_count_54 : decode cX11_count 54 = .ok (.getfield 39, 3) := by decide +kernel
theorem dX11_count_57 : decode cX11_count 57 = .ok (.getfield 173, 3) := by decide +kernel
theorem dX11_count_60 : decode cX11_count 60 = .ok (.getfield 252, 3) := by decide +kernel
theorem dX11_count_63 : decode cX11_count 63 = .ok (.ireturn, 1) := by decide +kernel
theorem dX11_count_64 : decode cX11_count 64 = .ok (.iconst (-1), 1) := by decide +kernel
theorem dX11_count_65 : decode cX11_count 65 = .ok (.ireturn, 1) := by decide +kernel
