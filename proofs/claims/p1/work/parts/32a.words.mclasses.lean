theorem t_92 : Cond.selects RX14 yX14_scan yX14_scan ∈ lw_g := gg_ (i := 92) (by decide +kernel) (by decide +kernel)
theorem t_93 : Cond.selects RX14 yX14_see yX14_see ∈ lw_g := gg_ (i := 93) (by decide +kernel) (by decide +kernel)
theorem t_97 : Cond.selects RX14 yX14_readClass yX14_readClass ∈ lw_g := gg_ (i := 97) (by decide +kernel) (by decide +kernel)
theorem t_98 : Cond.selects RX14 yX14_word yX14_word ∈ lw_g := gg_ (i := 98) (by decide +kernel) (by decide +kernel)
theorem t_99 : Cond.selects RX14 yX14_isWord yX14_isWord ∈ lw_g := gg_ (i := 99) (by decide +kernel) (by decide +kernel)
theorem t_100 : Cond.selects RX14 yX14_need yX14_need ∈ lw_g := gg_ (i := 100) (by decide +kernel) (by decide +kernel)
theorem t_101 : Cond.selects RX14 yX14_wrong yX14_wrong ∈ lw_g := gg_ (i := 101) (by decide +kernel) (by decide +kernel)
theorem t_1959 : Cond.fieldLink RX14 459 "TrialGardenModel$Program" "members" "I" ∈ lw_g := gg_ (i := 1959) (by decide +kernel) (by decide +kernel)
theorem t_1996 : Cond.fieldLink RX14 330 "TrialGardenModel$Program" "statements" "I" ∈ lw_g := gg_ (i := 1996) (by decide +kernel) (by decide +kernel)
theorem t_2017 : Cond.fieldLink RX14 211 "TrialGardenModel$Program" "nodes" "I" ∈ lw_g := gg_ (i := 2017) (by decide +kernel) (by decide +kernel)
theorem t_2151 : Cond.fieldLink RX14 99 "TrialGardenModel" "size" "I" ∈ lw_g := gg_ (i := 2151) (by decide +kernel) (by decide +kernel)
theorem t_2152 : Cond.fieldLink RX14 131 "TrialGardenModel" "sort" "I" ∈ lw_g := gg_ (i := 2152) (by decide +kernel) (by decide +kernel)
theorem t_2154 : Cond.fieldLink RX14 128 "TrialGardenModel" "at" "I" ∈ lw_g := gg_ (i := 2154) (by decide +kernel) (by decide +kernel)
theorem t_2155 : Cond.fieldLink RX14 125 "TrialGardenModel" "end" "I" ∈ lw_g := gg_ (i := 2155) (by decide +kernel) (by decide +kernel)
theorem t_2156 : Cond.fieldLink RX14 134 "TrialGardenModel" "tokens" "I" ∈ lw_g := gg_ (i := 2156) (by decide +kernel) (by decide +kernel)
theorem t_2166 : Cond.fieldLink RX14 195 "TrialGardenModel" "params" "I" ∈ lw_g := gg_ (i := 2166) (by decide +kernel) (by decide +kernel)
theorem t_2167 : Cond.fieldLink RX14 198 "TrialGardenModel" "locals" "I" ∈ lw_g := gg_ (i := 2167) (by decide +kernel) (by decide +kernel)
theorem t_2168 : Cond.fieldLink RX14 303 "TrialGardenModel" "inMarks" "Z" ∈ lw_g := gg_ (i := 2168) (by decide +kernel) (by decide +kernel)
theorem t_2169 : Cond.fieldLink RX14 276 "TrialGardenModel" "inGives" "Z" ∈ lw_g := gg_ (i := 2169) (by decide +kernel) (by decide +kernel)
theorem t_2170 : Cond.fieldLink RX14 191 "TrialGardenModel" "inKept" "Z" ∈ lw_g := gg_ (i := 2170) (by decide +kernel) (by decide +kernel)
theorem t_2171 : Cond.fieldLink RX14 241 "TrialGardenModel" "open" "I" ∈ lw_g := gg_ (i := 2171) (by decide +kernel) (by decide +kernel)
theorem t_2172 : Cond.fieldLink RX14 363 "TrialGardenModel" "braces" "I" ∈ lw_g := gg_ (i := 2172) (by decide +kernel) (by decide +kernel)
theorem t_2359 : Cond.codeWith yX14_classes cX14_classes 2 (some .int) [(108, 124, 127, 7)] ∈ lw_g := gg_ (i := 2359) (by decide +kernel) (by decide +kernel)
theorem t_2360 : Cond.methodLink RX14 179 yX14_scan ∈ lw_g := gg_ (i := 2360) (by decide +kernel) (by decide +kernel)
theorem t_2362 : Cond.instanceMethod yX14_scan ∈ lw_g := gg_ (i := 2362) (by decide +kernel) (by decide +kernel)
theorem t_2363 : Cond.code yX14_scan cX14_scan 4 none ∈ lw_g := gg_ (i := 2363) (by decide +kernel) (by decide +kernel)
theorem t_2364 : Cond.methodLink RX14 121 yX14_see ∈ lw_g := gg_ (i := 2364) (by decide +kernel) (by decide +kernel)
theorem t_2366 : Cond.instanceMethod yX14_see ∈ lw_g := gg_ (i := 2366) (by decide +kernel) (by decide +kernel)
theorem t_2367 : Cond.code yX14_see cX14_see 2 (some .int) ∈ lw_g := gg_ (i := 2367) (by decide +kernel) (by decide +kernel)
theorem t_2391 : Cond.methodLink RX14 526 yX14_readClass ∈ lw_g := gg_ (i := 2391) (by decide +kernel) (by decide +kernel)
theorem t_2393 : Cond.instanceMethod yX14_readClass ∈ lw_g := gg_ (i := 2393) (by decide +kernel) (by decide +kernel)
theorem t_2394 : Cond.code yX14_readClass cX14_readClass 2 none ∈ lw_g := gg_ (i := 2394) (by decide +kernel) (by decide +kernel)
theorem t_2395 : Cond.methodLink RX14 487 yX14_word ∈ lw_g := gg_ (i := 2395) (by decide +kernel) (by decide +kernel)
theorem t_2397 : Cond.instanceMethod yX14_word ∈ lw_g := gg_ (i := 2397) (by decide +kernel) (by decide +kernel)
theorem t_2398 : Cond.code yX14_word cX14_word 2 none ∈ lw_g := gg_ (i := 2398) (by decide +kernel) (by decide +kernel)
theorem t_2399 : Cond.methodLink RX14 188 yX14_isWord ∈ lw_g := gg_ (i := 2399) (by decide +kernel) (by decide +kernel)
theorem t_2401 : Cond.instanceMethod yX14_isWord ∈ lw_g := gg_ (i := 2401) (by decide +kernel) (by decide +kernel)
theorem t_2402 : Cond.code yX14_isWord cX14_isWord 2 (some .boolean) ∈ lw_g := gg_ (i := 2402) (by decide +kernel) (by decide +kernel)
theorem t_2403 : Cond.methodLink RX14 172 yX14_need ∈ lw_g := gg_ (i := 2403) (by decide +kernel) (by decide +kernel)
theorem t_2405 : Cond.instanceMethod yX14_need ∈ lw_g := gg_ (i := 2405) (by decide +kernel) (by decide +kernel)
theorem t_2406 : Cond.code yX14_need cX14_need 4 none ∈ lw_g := gg_ (i := 2406) (by decide +kernel) (by decide +kernel)
theorem t_2407 : Cond.methodLink RX14 105 yX14_wrong ∈ lw_g := gg_ (i := 2407) (by decide +kernel) (by decide +kernel)
theorem t_2409 : Cond.instanceMethod yX14_wrong ∈ lw_g := gg_ (i := 2409) (by decide +kernel) (by decide +kernel)
theorem t_2410 : Cond.code yX14_wrong cX14_wrong 3 none ∈ lw_g := gg_ (i := 2410) (by decide +kernel) (by decide +kernel)
theorem dX14_see_0 : decode cX14_see 0 = .ok (.iload_n 1, 1) := by decide +kernel
theorem dX14_see_1 : decode cX14_see 1 = .ok (.aload_n 0, 1) := by decide +kernel
theorem dX14_see_2 : decode cX14_see 2 = .ok (.getfield 99, 3) := by decide +kernel
theorem dX14_see_5 : decode cX14_see 5 = .ok (.if_icmp .ge 16, 3) := by decide +kernel
theorem dX14_see_8 : decode cX14_see 8 = .ok (.aload_n 0, 1) := by decide +kernel
theorem dX14_see_9 : decode cX14_see 9 = .ok (.getfield 26, 3) := by decide +kernel
theorem dX14_see_12 : decode cX14_see 12 = .ok (.iload_n 1, 1) := by decide +kernel
theorem dX14_see_13 : decode cX14_see 13 = .ok (.baload, 1) := by decide +kernel
theorem dX14_see_14 : decode cX14_see 14 = .ok (.sipush 255, 3) := by decide +kernel
theorem dX14_see_17 : decode cX14_see 17 = .ok (.iand, 1) := by decide +kernel
theorem dX14_see_18 : decode cX14_see 18 = .ok (.goto 4, 3) := by decide +kernel
theorem dX14_see_21 : decode cX14_see 21 = .ok (.iconst (-1), 1) := by decide +kernel
theorem dX14_see_22 : decode cX14_see 22 = .ok (.ireturn, 1) := by decide +kernel
theorem dX14_wrong_0 : decode cX14_wrong 0 = .ok (.aload_n 0, 1) := by decide +kernel
theorem dX14_wrong_1 : decode cX14_wrong 1 = .ok (.iload_n 1, 1) := by decide +kernel
theorem dX14_wrong_2 : decode cX14_wrong 2 = .ok (.putfield 102, 3) := by decide +kernel
theorem dX14_wrong_5 : decode cX14_wrong 5 = .ok (.aload_n 0, 1) := by decide +kernel
theorem dX14_wrong_6 : decode cX14_wrong 6 = .ok (.iload_n 2, 1) := by decide +kernel
theorem dX14_wrong_7 : decode cX14_wrong 7 = .ok (.putfield 30, 3) := by decide +kernel
theorem dX14_wrong_10 : decode cX14_wrong 10 = .ok (.aload_n 0, 1) := by decide +kernel
theorem dX14_wrong_11 : decode cX14_wrong 11 = .ok (.getfield 10, 3) := by decide +kernel
theorem dX14_wrong_14 : decode cX14_wrong 14 = .ok (.athrow, 1) := by decide +kernel
theorem dX14_need_0 : decode cX14_need 0 = .ok (.iload_n 1, 1) := by decide +kernel
theorem dX14_need_1 : decode cX14_need 1 = .ok (.ifCond .ne 9, 3) := by decide +kernel
theorem dX14_need_4 : decode cX14_need 4 = .ok (.aload_n 0, 1) := by decide +kernel
theorem dX14_need_5 : decode cX14_need 5 = .ok (.iload_n 2, 1) := by decide +kernel
theorem dX14_need_6 : decode cX14_need 6 = .ok (.iload_n 3, 1) := by decide +kernel
theorem dX14_need_7 : decode cX14_need 7 = .ok (.invokevirtual 105, 3) := by decide +kernel
theorem dX14_need_10 : decode cX14_need 10 = .ok (.return_, 1) := by decide +kernel
theorem dX14_scan_0 : decode cX14_scan 0 = .ok (.aload_n 0, 1) := by decide +kernel
theorem dX14_scan_1 : decode cX14_scan 1 = .ok (.getfield 125, 3) := by decide +kernel
theorem dX14_scan_4 : decode cX14_scan 4 = .ok (.istore_n 1, 1) := by decide +kernel
theorem dX14_scan_5 : decode cX14_scan 5 = .ok (.aload_n 0, 1) := by decide +kernel
theorem dX14_scan_6 : decode cX14_scan 6 = .ok (.iload_n 1, 1) := by decide +kernel
theorem dX14_scan_7 : decode cX14_scan 7 = .ok (.invokevirtual 121, 3) := by decide +kernel
theorem dX14_scan_10 : decode cX14_scan 10 = .ok (.bipush 32, 2) := by decide +kernel
theorem dX14_scan_12 : decode cX14_scan 12 = .ok (.if_icmp .eq 13, 3) := by decide +kernel
theorem dX14_scan_15 : decode cX14_scan 15 = .ok (.aload_n 0, 1) := by decide +kernel
theorem dX14_scan_16 : decode cX14_scan 16 = .ok (.iload_n 1, 1) := by decide +kernel
theorem dX14_scan_17 : decode cX14_scan 17 = .ok (.invokevirtual 121, 3) := by decide +kernel
theorem dX14_scan_20 : decode cX14_scan 20 = .ok (.bipush 10, 2) := by decide +kernel
theorem dX14_scan_22 : decode cX14_scan 22 = .ok (.if_icmp .ne 9, 3) := by decide +kernel
theorem dX14_scan_25 : decode cX14_scan 25 = .ok (.iinc 1 1, 3) := by decide +kernel
theorem dX14_scan_28 : decode cX14_scan 28 = .ok (.goto (-23), 3) := by decide +kernel
theorem dX14_scan_31 : decode cX14_scan 31 = .ok (.aload_n 0, 1) := by decide +kernel
theorem dX14_scan_32 : decode cX14_scan 32 = .ok (.iload_n 1, 1) := by decide +kernel
theorem dX14_scan_33 : decode cX14_scan 33 = .ok (.putfield 128, 3) := by decide +kernel
theorem dX14_scan_36 : decode cX14_scan 36 = .ok (.aload_n 0, 1) := by decide +kernel
theorem dX14_scan_37 : decode cX14_scan 37 = .ok (.iload_n 1, 1) := by decide +kernel
theorem dX14_scan_38 : decode cX14_scan 38 = .ok (.invokevirtual 121, 3) := by decide +kernel
theorem dX14_scan_41 : decode cX14_scan 41 = .ok (.istore_n 2, 1) := by decide +kernel
theorem dX14_scan_42 : decode cX14_scan 42 = .ok (.iload_n 2, 1) := by decide +kernel
theorem dX14_scan_43 : decode cX14_scan 43 = .ok (.iconst (-1), 1) := by decide +kernel
theorem dX14_scan_44 : decode cX14_scan 44 = .ok (.if_icmp .ne 14, 3) := by decide +kernel
theorem dX14_scan_47 : decode cX14_scan 47 = .ok (.aload_n 0, 1) := by decide +kernel
theorem dX14_scan_48 : decode cX14_scan 48 = .ok (.iconst 5, 1) := by decide +kernel
theorem dX14_scan_49 : decode cX14_scan 49 = .ok (.putfield 131, 3) := by decide +kernel
theorem dX14_scan_52 : decode cX14_scan 52 = .ok (.aload_n 0, 1) := by decide +kernel
theorem dX14_scan_53 : decode cX14_scan 53 = .ok (.iload_n 1, 1) := by decide +kernel
theorem dX14_scan_54 : decode cX14_scan 54 = .ok (.putfield 125, 3) := by decide +kernel
theorem dX14_scan_57 : decode cX14_scan 57 = .ok (.return_, 1) := by decide +kernel
theorem dX14_scan_58 : decode cX14_scan 58 = .ok (.aload_n 0, 1) := by decide +kernel
theorem dX14_scan_59 : decode cX14_scan 59 = .ok (.dup, 1) := by decide +kernel
theorem dX14_scan_60 : decode cX14_scan 60 = .ok (.getfield 134, 3) := by decide +kernel
theorem dX14_scan_63 : decode cX14_scan 63 = .ok (.iconst 1, 1) := by decide +kernel
theorem dX14_scan_64 : decode cX14_scan 64 = .ok (.iadd, 1) := by decide +kernel
theorem dX14_scan_65 : decode cX14_scan 65 = .ok (.putfield 134, 3) := by decide +kernel
theorem dX14_scan_68 : decode cX14_scan 68 = .ok (.iload_n 2, 1) := by decide +kernel
theorem dX14_scan_69 : decode cX14_scan 69 = .ok (.invokestatic 137, 3) := by decide +kernel
theorem dX14_scan_72 : decode cX14_scan 72 = .ok (.ifCond .eq 150, 3) := by decide +kernel
theorem dX14_scan_75 : decode cX14_scan 75 = .ok (.iload_n 1, 1) := by decide +kernel
theorem dX14_scan_76 : decode cX14_scan 76 = .ok (.istore_n 3, 1) := by decide +kernel
theorem dX14_scan_77 : decode cX14_scan 77 = .ok (.aload_n 0, 1) := by decide +kernel
theorem dX14_scan_78 : decode cX14_scan 78 = .ok (.iload_n 3, 1) := by decide +kernel
theorem dX14_scan_79 : decode cX14_scan 79 = .ok (.invokevirtual 121, 3) := by decide +kernel
theorem dX14_scan_82 : decode cX14_scan 82 = .ok (.invokestatic 137, 3) := by decide +kernel
theorem dX14_scan_85 : decode cX14_scan 85 = .ok (.ifCond .ne 24, 3) := by decide +kernel
theorem dX14_scan_88 : decode cX14_scan 88 = .ok (.aload_n 0, 1) := by decide +kernel
theorem dX14_scan_89 : decode cX14_scan 89 = .ok (.iload_n 3, 1) := by decide +kernel
theorem dX14_scan_90 : decode cX14_scan 90 = .ok (.invokevirtual 121, 3) := by decide +kernel
theorem dX14_scan_93 : decode cX14_scan 93 = .ok (.invokestatic 141, 3) := by decide +kernel
theorem dX14_scan_96 : decode cX14_scan 96 = .ok (.ifCond .ne 13, 3) := by decide +kernel
theorem dX14_scan_99 : decode cX14_scan 99 = .ok (.aload_n 0, 1) := by decide +kernel
theorem dX14_scan_100 : decode cX14_scan 100 = .ok (.iload_n 3, 1) := by decide +kernel
theorem dX14_scan_101 : decode cX14_scan 101 = .ok (.invokevirtual 121, 3) := by decide +kernel
theorem dX14_scan_104 : decode cX14_scan 104 = .ok (.bipush 95, 2) := by decide +kernel
theorem dX14_scan_106 : decode cX14_scan 106 = .ok (.if_icmp .ne 9, 3) := by decide +kernel
theorem dX14_scan_109 : decode cX14_scan 109 = .ok (.iinc 3 1, 3) := by decide +kernel
theorem dX14_scan_112 : decode cX14_scan 112 = .ok (.goto (-35), 3) := by decide +kernel
theorem dX14_scan_115 : decode cX14_scan 115 = .ok (.aload_n 0, 1) := by decide +kernel
theorem dX14_scan_116 : decode cX14_scan 116 = .ok (.iload_n 3, 1) := by decide +kernel
theorem dX14_scan_117 : decode cX14_scan 117 = .ok (.putfield 125, 3) := by decide +kernel
theorem dX14_scan_120 : decode cX14_scan 120 = .ok (.aload_n 0, 1) := by decide +kernel
theorem dX14_scan_121 : decode cX14_scan 121 = .ok (.aload_n 0, 1) := by decide +kernel
theorem dX14_scan_122 : decode cX14_scan 122 = .ok (.iload_n 1, 1) := by decide +kernel
theorem dX14_scan_123 : decode cX14_scan 123 = .ok (.iload_n 3, 1) := by decide +kernel
theorem dX14_scan_124 : decode cX14_scan 124 = .ok (.iload_n 1, 1) := by decide +kernel
theorem dX14_scan_125 : decode cX14_scan 125 = .ok (.isub, 1) := by decide +kernel
theorem dX14_scan_126 : decode cX14_scan 126 = .ok (.invokevirtual 144, 3) := by decide +kernel
theorem dX14_scan_129 : decode cX14_scan 129 = .ok (.putfield 148, 3) := by decide +kernel
theorem dX14_scan_132 : decode cX14_scan 132 = .ok (.aload_n 0, 1) := by decide +kernel
theorem dX14_scan_133 : decode cX14_scan 133 = .ok (.aload_n 0, 1) := by decide +kernel
theorem dX14_scan_134 : decode cX14_scan 134 = .ok (.getfield 148, 3) := by decide +kernel
theorem dX14_scan_137 : decode cX14_scan 137 = .ok (.iconst (-1), 1) := by decide +kernel
theorem dX14_scan_138 : decode cX14_scan 138 = .ok (.if_icmp .eq 7, 3) := by decide +kernel
theorem dX14_scan_141 : decode cX14_scan 141 = .ok (.iconst 2, 1) := by decide +kernel
theorem dX14_scan_142 : decode cX14_scan 142 = .ok (.goto 16, 3) := by decide +kernel
theorem dX14_scan_145 : decode cX14_scan 145 = .ok (.iload_n 3, 1) := by decide +kernel
theorem dX14_scan_146 : decode cX14_scan 146 = .ok (.iload_n 1, 1) := by decide +kernel
theorem dX14_scan_147 : decode cX14_scan 147 = .ok (.isub, 1) := by decide +kernel
theorem dX14_scan_148 : decode cX14_scan 148 = .ok (.bipush 12, 2) := by decide +kernel
theorem dX14_scan_150 : decode cX14_scan 150 = .ok (.if_icmp .le 7, 3) := by decide +kernel
theorem dX14_scan_153 : decode cX14_scan 153 = .ok (.iconst 0, 1) := by decide +kernel
theorem dX14_scan_154 : decode cX14_scan 154 = .ok (.goto 4, 3) := by decide +kernel
theorem dX14_scan_157 : decode cX14_scan 157 = .ok (.iconst 1, 1) := by decide +kernel
theorem dX14_scan_158 : decode cX14_scan 158 = .ok (.putfield 131, 3) := by decide +kernel
theorem dX14_scan_161 : decode cX14_scan 161 = .ok (.aload_n 0, 1) := by decide +kernel
theorem dX14_scan_162 : decode cX14_scan 162 = .ok (.aload_n 0, 1) := by decide +kernel
theorem dX14_scan_163 : decode cX14_scan 163 = .ok (.iload_n 1, 1) := by decide +kernel
theorem dX14_scan_164 : decode cX14_scan 164 = .ok (.iload_n 3, 1) := by decide +kernel
theorem dX14_scan_165 : decode cX14_scan 165 = .ok (.iload_n 1, 1) := by decide +kernel
theorem dX14_scan_166 : decode cX14_scan 166 = .ok (.bipush 6, 2) := by decide +kernel
theorem dX14_scan_168 : decode cX14_scan 168 = .ok (.iadd, 1) := by decide +kernel
theorem dX14_scan_169 : decode cX14_scan 169 = .ok (.if_icmp .ge 7, 3) := by decide +kernel
theorem dX14_scan_172 : decode cX14_scan 172 = .ok (.iload_n 3, 1) := by decide +kernel
theorem dX14_scan_173 : decode cX14_scan 173 = .ok (.goto 7, 3) := by decide +kernel
theorem dX14_scan_176 : decode cX14_scan 176 = .ok (.iload_n 1, 1) := by decide +kernel
theorem dX14_scan_177 : decode cX14_scan 177 = .ok (.bipush 6, 2) := by decide +kernel
theorem dX14_scan_179 : decode cX14_scan 179 = .ok (.iadd, 1) := by decide +kernel
theorem dX14_scan_180 : decode cX14_scan 180 = .ok (.invokevirtual 151, 3) := by decide +kernel
theorem dX14_scan_183 : decode cX14_scan 183 = .ok (.putfield 155, 3) := by decide +kernel
theorem dX14_scan_186 : decode cX14_scan 186 = .ok (.aload_n 0, 1) := by decide +kernel
theorem dX14_scan_187 : decode cX14_scan 187 = .ok (.iload_n 3, 1) := by decide +kernel
theorem dX14_scan_188 : decode cX14_scan 188 = .ok (.iload_n 1, 1) := by decide +kernel
theorem dX14_scan_189 : decode cX14_scan 189 = .ok (.bipush 6, 2) := by decide +kernel
theorem dX14_scan_191 : decode cX14_scan 191 = .ok (.iadd, 1) := by decide +kernel
theorem dX14_scan_192 : decode cX14_scan 192 = .ok (.if_icmp .le 23, 3) := by decide +kernel
theorem dX14_scan_195 : decode cX14_scan 195 = .ok (.iload_n 3, 1) := by decide +kernel
theorem dX14_scan_196 : decode cX14_scan 196 = .ok (.iload_n 1, 1) := by decide +kernel
theorem dX14_scan_197 : decode cX14_scan 197 = .ok (.bipush 12, 2) := by decide +kernel
theorem dX14_scan_199 : decode cX14_scan 199 = .ok (.iadd, 1) := by decide +kernel
theorem dX14_scan_200 : decode cX14_scan 200 = .ok (.if_icmp .gt 15, 3) := by decide +kernel
theorem dX14_scan_203 : decode cX14_scan 203 = .ok (.aload_n 0, 1) := by decide +kernel
theorem dX14_scan_204 : decode cX14_scan 204 = .ok (.iload_n 1, 1) := by decide +kernel
theorem dX14_scan_205 : decode cX14_scan 205 = .ok (.bipush 6, 2) := by decide +kernel
theorem dX14_scan_207 : decode cX14_scan 207 = .ok (.iadd, 1) := by decide +kernel
theorem dX14_scan_208 : decode cX14_scan 208 = .ok (.iload_n 3, 1) := by decide +kernel
theorem dX14_scan_209 : decode cX14_scan 209 = .ok (.invokevirtual 151, 3) := by decide +kernel
theorem dX14_scan_212 : decode cX14_scan 212 = .ok (.goto 4, 3) := by decide +kernel
theorem dX14_scan_215 : decode cX14_scan 215 = .ok (.lconst 0, 1) := by decide +kernel
theorem dX14_scan_216 : decode cX14_scan 216 = .ok (.putfield 159, 3) := by decide +kernel
theorem dX14_scan_219 : decode cX14_scan 219 = .ok (.goto 105, 3) := by decide +kernel
theorem dX14_scan_222 : decode cX14_scan 222 = .ok (.iload_n 2, 1) := by decide +kernel
theorem dX14_scan_223 : decode cX14_scan 223 = .ok (.invokestatic 141, 3) := by decide +kernel
theorem dX14_scan_226 : decode cX14_scan 226 = .ok (.ifCond .eq 92, 3) := by decide +kernel
theorem dX14_scan_229 : decode cX14_scan 229 = .ok (.iconst 0, 1) := by decide +kernel
theorem dX14_scan_230 : decode cX14_scan 230 = .ok (.istore_n 3, 1) := by decide +kernel
theorem dX14_scan_231 : decode cX14_scan 231 = .ok (.aload_n 0, 1) := by decide +kernel
theorem dX14_scan_232 : decode cX14_scan 232 = .ok (.lconst 0, 1) := by decide +kernel
theorem dX14_scan_233 : decode cX14_scan 233 = .ok (.putfield 162, 3) := by decide +kernel
theorem dX14_scan_236 : decode cX14_scan 236 = .ok (.aload_n 0, 1) := by decide +kernel
theorem dX14_scan_237 : decode cX14_scan 237 = .ok (.iload_n 1, 1) := by decide +kernel
theorem dX14_scan_238 : decode cX14_scan 238 = .ok (.iload_n 3, 1) := by decide +kernel
theorem dX14_scan_239 : decode cX14_scan 239 = .ok (.iadd, 1) := by decide +kernel
theorem dX14_scan_240 : decode cX14_scan 240 = .ok (.invokevirtual 121, 3) := by decide +kernel
theorem dX14_scan_243 : decode cX14_scan 243 = .ok (.invokestatic 141, 3) := by decide +kernel
theorem dX14_scan_246 : decode cX14_scan 246 = .ok (.ifCond .eq 47, 3) := by decide +kernel
theorem dX14_scan_249 : decode cX14_scan 249 = .ok (.aload_n 0, 1) := by decide +kernel
theorem dX14_scan_250 : decode cX14_scan 250 = .ok (.iload_n 3, 1) := by decide +kernel
theorem dX14_scan_251 : decode cX14_scan 251 = .ok (.bipush 9, 2) := by decide +kernel
theorem dX14_scan_253 : decode cX14_scan 253 = .ok (.if_icmp .ge 27, 3) := by decide +kernel
theorem dX14_scan_256 : decode cX14_scan 256 = .ok (.ldc2_w 165, 3) := by decide +kernel
theorem dX14_scan_259 : decode cX14_scan 259 = .ok (.aload_n 0, 1) := by decide +kernel
theorem dX14_scan_260 : decode cX14_scan 260 = .ok (.getfield 162, 3) := by decide +kernel
theorem dX14_scan_263 : decode cX14_scan 263 = .ok (.lmul, 1) := by decide +kernel
theorem dX14_scan_264 : decode cX14_scan 264 = .ok (.aload_n 0, 1) := by decide +kernel
theorem dX14_scan_265 : decode cX14_scan 265 = .ok (.iload_n 1, 1) := by decide +kernel
theorem dX14_scan_266 : decode cX14_scan 266 = .ok (.iload_n 3, 1) := by decide +kernel
theorem dX14_scan_267 : decode cX14_scan 267 = .ok (.iadd, 1) := by decide +kernel
theorem dX14_scan_268 : decode cX14_scan 268 = .ok (.invokevirtual 121, 3) := by decide +kernel
theorem dX14_scan_271 : decode cX14_scan 271 = .ok (.i2l, 1) := by decide +kernel
theorem dX14_scan_272 : decode cX14_scan 272 = .ok (.ladd, 1) := by decide +kernel
theorem dX14_scan_273 : decode cX14_scan 273 = .ok (.ldc2_w 167, 3) := by decide +kernel
theorem dX14_scan_276 : decode cX14_scan 276 = .ok (.lsub, 1) := by decide +kernel
theorem dX14_scan_277 : decode cX14_scan 277 = .ok (.goto 7, 3) := by decide +kernel
theorem dX14_scan_280 : decode cX14_scan 280 = .ok (.aload_n 0, 1) := by decide +kernel
theorem dX14_scan_281 : decode cX14_scan 281 = .ok (.getfield 162, 3) := by decide +kernel
theorem dX14_scan_284 : decode cX14_scan 284 = .ok (.putfield 162, 3) := by decide +kernel
theorem dX14_scan_287 : decode cX14_scan 287 = .ok (.iinc 3 1, 3) := by decide +kernel
theorem dX14_scan_290 : decode cX14_scan 290 = .ok (.goto (-54), 3) := by decide +kernel
theorem dX14_scan_293 : decode cX14_scan 293 = .ok (.aload_n 0, 1) := by decide +kernel
theorem dX14_scan_294 : decode cX14_scan 294 = .ok (.iload_n 1, 1) := by decide +kernel
theorem dX14_scan_295 : decode cX14_scan 295 = .ok (.iload_n 3, 1) := by decide +kernel
theorem dX14_scan_296 : decode cX14_scan 296 = .ok (.iadd, 1) := by decide +kernel
theorem dX14_scan_297 : decode cX14_scan 297 = .ok (.putfield 125, 3) := by decide +kernel
theorem dX14_scan_300 : decode cX14_scan 300 = .ok (.aload_n 0, 1) := by decide +kernel
theorem dX14_scan_301 : decode cX14_scan 301 = .ok (.iload_n 3, 1) := by decide +kernel
theorem dX14_scan_302 : decode cX14_scan 302 = .ok (.bipush 9, 2) := by decide +kernel
theorem dX14_scan_304 : decode cX14_scan 304 = .ok (.if_icmp .le 7, 3) := by decide +kernel
theorem dX14_scan_307 : decode cX14_scan 307 = .ok (.iconst 0, 1) := by decide +kernel
theorem dX14_scan_308 : decode cX14_scan 308 = .ok (.goto 4, 3) := by decide +kernel
theorem dX14_scan_311 : decode cX14_scan 311 = .ok (.iconst 3, 1) := by decide +kernel
theorem dX14_scan_312 : decode cX14_scan 312 = .ok (.putfield 131, 3) := by decide +kernel
theorem dX14_scan_315 : decode cX14_scan 315 = .ok (.goto 9, 3) := by decide +kernel
theorem dX14_scan_318 : decode cX14_scan 318 = .ok (.aload_n 0, 1) := by decide +kernel
theorem dX14_scan_319 : decode cX14_scan 319 = .ok (.iload_n 1, 1) := by decide +kernel
theorem dX14_scan_320 : decode cX14_scan 320 = .ok (.iload_n 2, 1) := by decide +kernel
theorem dX14_scan_321 : decode cX14_scan 321 = .ok (.invokevirtual 169, 3) := by decide +kernel
theorem dX14_scan_324 : decode cX14_scan 324 = .ok (.return_, 1) := by decide +kernel
theorem dX14_isWord_0 : decode cX14_isWord 0 = .ok (.aload_n 0, 1) := by decide +kernel
theorem dX14_isWord_1 : decode cX14_isWord 1 = .ok (.getfield 131, 3) := by decide +kernel
theorem dX14_isWord_4 : decode cX14_isWord 4 = .ok (.iconst 2, 1) := by decide +kernel
theorem dX14_isWord_5 : decode cX14_isWord 5 = .ok (.if_icmp .ne 15, 3) := by decide +kernel
theorem dX14_isWord_8 : decode cX14_isWord 8 = .ok (.aload_n 0, 1) := by decide +kernel
theorem dX14_isWord_9 : decode cX14_isWord 9 = .ok (.getfield 148, 3) := by decide +kernel
theorem dX14_isWord_12 : decode cX14_isWord 12 = .ok (.iload_n 1, 1) := by decide +kernel
theorem dX14_isWord_13 : decode cX14_isWord 13 = .ok (.if_icmp .ne 7, 3) := by decide +kernel
theorem dX14_isWord_16 : decode cX14_isWord 16 = .ok (.iconst 1, 1) := by decide +kernel
theorem dX14_isWord_17 : decode cX14_isWord 17 = .ok (.goto 4, 3) := by decide +kernel
theorem dX14_isWord_20 : decode cX14_isWord 20 = .ok (.iconst 0, 1) := by decide +kernel
theorem dX14_isWord_21 : decode cX14_isWord 21 = .ok (.ireturn, 1) := by decide +kernel
theorem dX14_word_0 : decode cX14_word 0 = .ok (.aload_n 0, 1) := by decide +kernel
theorem dX14_word_1 : decode cX14_word 1 = .ok (.aload_n 0, 1) := by decide +kernel
theorem dX14_word_2 : decode cX14_word 2 = .ok (.iload_n 1, 1) := by decide +kernel
theorem dX14_word_3 : decode cX14_word 3 = .ok (.invokevirtual 188, 3) := by decide +kernel
theorem dX14_word_6 : decode cX14_word 6 = .ok (.iconst 1, 1) := by decide +kernel
theorem dX14_word_7 : decode cX14_word 7 = .ok (.aload_n 0, 1) := by decide +kernel
theorem dX14_word_8 : decode cX14_word 8 = .ok (.getfield 128, 3) := by decide +kernel
theorem dX14_word_11 : decode cX14_word 11 = .ok (.invokevirtual 172, 3) := by decide +kernel
theorem dX14_word_14 : decode cX14_word 14 = .ok (.aload_n 0, 1) := by decide +kernel
theorem dX14_word_15 : decode cX14_word 15 = .ok (.invokevirtual 185, 3) := by decide +kernel
theorem dX14_word_18 : decode cX14_word 18 = .ok (.return_, 1) := by decide +kernel
theorem dX14_readClass_0 : decode cX14_readClass 0 = .ok (.aload_n 0, 1) := by decide +kernel
theorem dX14_readClass_1 : decode cX14_readClass 1 = .ok (.iconst 0, 1) := by decide +kernel
theorem dX14_readClass_2 : decode cX14_readClass 2 = .ok (.invokevirtual 487, 3) := by decide +kernel
theorem dX14_readClass_5 : decode cX14_readClass 5 = .ok (.aload_n 0, 1) := by decide +kernel
theorem dX14_readClass_6 : decode cX14_readClass 6 = .ok (.aload_n 0, 1) := by decide +kernel
theorem dX14_readClass_7 : decode cX14_readClass 7 = .ok (.getfield 131, 3) := by decide +kernel
theorem dX14_readClass_10 : decode cX14_readClass 10 = .ok (.iconst 1, 1) := by decide +kernel
theorem dX14_readClass_11 : decode cX14_readClass 11 = .ok (.if_icmp .ne 7, 3) := by decide +kernel
theorem dX14_readClass_14 : decode cX14_readClass 14 = .ok (.iconst 1, 1) := by decide +kernel
theorem dX14_readClass_15 : decode cX14_readClass 15 = .ok (.goto 4, 3) := by decide +kernel
theorem dX14_readClass_18 : decode cX14_readClass 18 = .ok (.iconst 0, 1) := by decide +kernel
theorem dX14_readClass_19 : decode cX14_readClass 19 = .ok (.iconst 1, 1) := by decide +kernel
theorem dX14_readClass_20 : decode cX14_readClass 20 = .ok (.aload_n 0, 1) := by decide +kernel
theorem dX14_readClass_21 : decode cX14_readClass 21 = .ok (.getfield 128, 3) := by decide +kernel
theorem dX14_readClass_24 : decode cX14_readClass 24 = .ok (.invokevirtual 172, 3) := by decide +kernel
theorem dX14_readClass_27 : decode cX14_readClass 27 = .ok (.aload_n 0, 1) := by decide +kernel
theorem dX14_readClass_28 : decode cX14_readClass 28 = .ok (.aload_n 0, 1) := by decide +kernel
theorem dX14_readClass_29 : decode cX14_readClass 29 = .ok (.aload_n 0, 1) := by decide +kernel
theorem dX14_readClass_30 : decode cX14_readClass 30 = .ok (.getfield 155, 3) := by decide +kernel
theorem dX14_readClass_33 : decode cX14_readClass 33 = .ok (.aload_n 0, 1) := by decide +kernel
theorem dX14_readClass_34 : decode cX14_readClass 34 = .ok (.getfield 159, 3) := by decide +kernel
theorem dX14_readClass_37 : decode cX14_readClass 37 = .ok (.invokevirtual 496, 3) := by decide +kernel
theorem dX14_readClass_40 : decode cX14_readClass 40 = .ok (.iconst (-1), 1) := by decide +kernel
theorem dX14_readClass_41 : decode cX14_readClass 41 = .ok (.if_icmp .ne 7, 3) := by decide +kernel
theorem dX14_readClass_44 : decode cX14_readClass 44 = .ok (.iconst 1, 1) := by decide +kernel
theorem dX14_readClass_45 : decode cX14_readClass 45 = .ok (.goto 4, 3) := by decide +kernel
theorem dX14_readClass_48 : decode cX14_readClass 48 = .ok (.iconst 0, 1) := by decide +kernel
theorem dX14_readClass_49 : decode cX14_readClass 49 = .ok (.iconst 2, 1) := by decide +kernel
theorem dX14_readClass_50 : decode cX14_readClass 50 = .ok (.aload_n 0, 1) := by decide +kernel
theorem dX14_readClass_51 : decode cX14_readClass 51 = .ok (.getfield 128, 3) := by decide +kernel
theorem dX14_readClass_54 : decode cX14_readClass 54 = .ok (.invokevirtual 172, 3) := by decide +kernel
theorem dX14_readClass_57 : decode cX14_readClass 57 = .ok (.aload_n 0, 1) := by decide +kernel
theorem dX14_readClass_58 : decode cX14_readClass 58 = .ok (.aload_n 0, 1) := by decide +kernel
theorem dX14_readClass_59 : decode cX14_readClass 59 = .ok (.getfield 23, 3) := by decide +kernel
theorem dX14_readClass_62 : decode cX14_readClass 62 = .ok (.getfield 499, 3) := by decide +kernel
theorem dX14_readClass_65 : decode cX14_readClass 65 = .ok (.bipush 8, 2) := by decide +kernel
theorem dX14_readClass_67 : decode cX14_readClass 67 = .ok (.if_icmp .ge 7, 3) := by decide +kernel
theorem dX14_readClass_70 : decode cX14_readClass 70 = .ok (.iconst 1, 1) := by decide +kernel
theorem dX14_readClass_71 : decode cX14_readClass 71 = .ok (.goto 4, 3) := by decide +kernel
theorem dX14_readClass_74 : decode cX14_readClass 74 = .ok (.iconst 0, 1) := by decide +kernel
theorem dX14_readClass_75 : decode cX14_readClass 75 = .ok (.iconst 4, 1) := by decide +kernel
theorem dX14_readClass_76 : decode cX14_readClass 76 = .ok (.aload_n 0, 1) := by decide +kernel
theorem dX14_readClass_77 : decode cX14_readClass 77 = .ok (.getfield 128, 3) := by decide +kernel
theorem dX14_readClass_80 : decode cX14_readClass 80 = .ok (.invokevirtual 172, 3) := by decide +kernel
theorem dX14_readClass_83 : decode cX14_readClass 83 = .ok (.aload_n 0, 1) := by decide +kernel
theorem dX14_readClass_84 : decode cX14_readClass 84 = .ok (.aload_n 0, 1) := by decide +kernel
theorem dX14_readClass_85 : decode cX14_readClass 85 = .ok (.getfield 23, 3) := by decide +kernel
theorem dX14_readClass_88 : decode cX14_readClass 88 = .ok (.getfield 499, 3) := by decide +kernel
theorem dX14_readClass_91 : decode cX14_readClass 91 = .ok (.putfield 201, 3) := by decide +kernel
theorem dX14_readClass_94 : decode cX14_readClass 94 = .ok (.aload_n 0, 1) := by decide +kernel
theorem dX14_readClass_95 : decode cX14_readClass 95 = .ok (.getfield 23, 3) := by decide +kernel
theorem dX14_readClass_98 : decode cX14_readClass 98 = .ok (.getfield 502, 3) := by decide +kernel
theorem dX14_readClass_101 : decode cX14_readClass 101 = .ok (.aload_n 0, 1) := by decide +kernel
theorem dX14_readClass_102 : decode cX14_readClass 102 = .ok (.getfield 201, 3) := by decide +kernel
theorem dX14_readClass_105 : decode cX14_readClass 105 = .ok (.aload_n 0, 1) := by decide +kernel
theorem dX14_readClass_106 : decode cX14_readClass 106 = .ok (.getfield 155, 3) := by decide +kernel
theorem dX14_readClass_109 : decode cX14_readClass 109 = .ok (.lastore, 1) := by decide +kernel
theorem dX14_readClass_110 : decode cX14_readClass 110 = .ok (.aload_n 0, 1) := by decide +kernel
theorem dX14_readClass_111 : decode cX14_readClass 111 = .ok (.getfield 23, 3) := by decide +kernel
theorem dX14_readClass_114 : decode cX14_readClass 114 = .ok (.getfield 505, 3) := by decide +kernel
theorem dX14_readClass_117 : decode cX14_readClass 117 = .ok (.aload_n 0, 1) := by decide +kernel
theorem dX14_readClass_118 : decode cX14_readClass 118 = .ok (.getfield 201, 3) := by decide +kernel
theorem dX14_readClass_121 : decode cX14_readClass 121 = .ok (.aload_n 0, 1) := by decide +kernel
theorem dX14_readClass_122 : decode cX14_readClass 122 = .ok (.getfield 159, 3) := by decide +kernel
theorem dX14_readClass_125 : decode cX14_readClass 125 = .ok (.lastore, 1) := by decide +kernel
theorem dX14_readClass_126 : decode cX14_readClass 126 = .ok (.aload_n 0, 1) := by decide +kernel
theorem dX14_readClass_127 : decode cX14_readClass 127 = .ok (.getfield 23, 3) := by decide +kernel
theorem dX14_readClass_130 : decode cX14_readClass 130 = .ok (.getfield 297, 3) := by decide +kernel
theorem dX14_readClass_133 : decode cX14_readClass 133 = .ok (.aload_n 0, 1) := by decide +kernel
theorem dX14_readClass_134 : decode cX14_readClass 134 = .ok (.getfield 201, 3) := by decide +kernel
theorem dX14_readClass_137 : decode cX14_readClass 137 = .ok (.iconst (-1), 1) := by decide +kernel
theorem dX14_readClass_138 : decode cX14_readClass 138 = .ok (.iastore, 1) := by decide +kernel
theorem dX14_readClass_139 : decode cX14_readClass 139 = .ok (.aload_n 0, 1) := by decide +kernel
theorem dX14_readClass_140 : decode cX14_readClass 140 = .ok (.getfield 23, 3) := by decide +kernel
theorem dX14_readClass_143 : decode cX14_readClass 143 = .ok (.getfield 390, 3) := by decide +kernel
theorem dX14_readClass_146 : decode cX14_readClass 146 = .ok (.aload_n 0, 1) := by decide +kernel
theorem dX14_readClass_147 : decode cX14_readClass 147 = .ok (.getfield 201, 3) := by decide +kernel
theorem dX14_readClass_150 : decode cX14_readClass 150 = .ok (.iconst 0, 1) := by decide +kernel
theorem dX14_readClass_151 : decode cX14_readClass 151 = .ok (.iastore, 1) := by decide +kernel
theorem dX14_readClass_152 : decode cX14_readClass 152 = .ok (.aload_n 0, 1) := by decide +kernel
theorem dX14_readClass_153 : decode cX14_readClass 153 = .ok (.getfield 23, 3) := by decide +kernel
theorem dX14_readClass_156 : decode cX14_readClass 156 = .ok (.getfield 399, 3) := by decide +kernel
theorem dX14_readClass_159 : decode cX14_readClass 159 = .ok (.aload_n 0, 1) := by decide +kernel
theorem dX14_readClass_160 : decode cX14_readClass 160 = .ok (.getfield 201, 3) := by decide +kernel
theorem dX14_readClass_163 : decode cX14_readClass 163 = .ok (.iconst 0, 1) := by decide +kernel
theorem dX14_readClass_164 : decode cX14_readClass 164 = .ok (.iastore, 1) := by decide +kernel
theorem dX14_readClass_165 : decode cX14_readClass 165 = .ok (.aload_n 0, 1) := by decide +kernel
theorem dX14_readClass_166 : decode cX14_readClass 166 = .ok (.getfield 23, 3) := by decide +kernel
theorem dX14_readClass_169 : decode cX14_readClass 169 = .ok (.getfield 419, 3) := by decide +kernel
theorem dX14_readClass_172 : decode cX14_readClass 172 = .ok (.aload_n 0, 1) := by decide +kernel
theorem dX14_readClass_173 : decode cX14_readClass 173 = .ok (.getfield 201, 3) := by decide +kernel
theorem dX14_readClass_176 : decode cX14_readClass 176 = .ok (.iconst 0, 1) := by decide +kernel
theorem dX14_readClass_177 : decode cX14_readClass 177 = .ok (.iastore, 1) := by decide +kernel
theorem dX14_readClass_178 : decode cX14_readClass 178 = .ok (.aload_n 0, 1) := by decide +kernel
theorem dX14_readClass_179 : decode cX14_readClass 179 = .ok (.getfield 23, 3) := by decide +kernel
theorem dX14_readClass_182 : decode cX14_readClass 182 = .ok (.getfield 456, 3) := by decide +kernel
theorem dX14_readClass_185 : decode cX14_readClass 185 = .ok (.aload_n 0, 1) := by decide +kernel
theorem dX14_readClass_186 : decode cX14_readClass 186 = .ok (.getfield 201, 3) := by decide +kernel
theorem dX14_readClass_189 : decode cX14_readClass 189 = .ok (.iconst 0, 1) := by decide +kernel
theorem dX14_readClass_190 : decode cX14_readClass 190 = .ok (.iastore, 1) := by decide +kernel
theorem dX14_readClass_191 : decode cX14_readClass 191 = .ok (.aload_n 0, 1) := by decide +kernel
theorem dX14_readClass_192 : decode cX14_readClass 192 = .ok (.getfield 23, 3) := by decide +kernel
theorem dX14_readClass_195 : decode cX14_readClass 195 = .ok (.getfield 508, 3) := by decide +kernel
theorem dX14_readClass_198 : decode cX14_readClass 198 = .ok (.aload_n 0, 1) := by decide +kernel
theorem dX14_readClass_199 : decode cX14_readClass 199 = .ok (.getfield 201, 3) := by decide +kernel
theorem dX14_readClass_202 : decode cX14_readClass 202 = .ok (.iconst (-1), 1) := by decide +kernel
theorem dX14_readClass_203 : decode cX14_readClass 203 = .ok (.iastore, 1) := by decide +kernel
theorem dX14_readClass_204 : decode cX14_readClass 204 = .ok (.aload_n 0, 1) := by decide +kernel
theorem dX14_readClass_205 : decode cX14_readClass 205 = .ok (.invokevirtual 185, 3) := by decide +kernel
theorem dX14_readClass_208 : decode cX14_readClass 208 = .ok (.aload_n 0, 1) := by decide +kernel
theorem dX14_readClass_209 : decode cX14_readClass 209 = .ok (.iconst 1, 1) := by decide +kernel
theorem dX14_readClass_210 : decode cX14_readClass 210 = .ok (.invokevirtual 279, 3) := by decide +kernel
theorem dX14_readClass_213 : decode cX14_readClass 213 = .ok (.ifCond .eq 66, 3) := by decide +kernel
theorem dX14_readClass_216 : decode cX14_readClass 216 = .ok (.aload_n 0, 1) := by decide +kernel
theorem dX14_readClass_217 : decode cX14_readClass 217 = .ok (.aload_n 0, 1) := by decide +kernel
theorem dX14_readClass_218 : decode cX14_readClass 218 = .ok (.getfield 131, 3) := by decide +kernel
theorem dX14_readClass_221 : decode cX14_readClass 221 = .ok (.iconst 1, 1) := by decide +kernel
theorem dX14_readClass_222 : decode cX14_readClass 222 = .ok (.if_icmp .ne 7, 3) := by decide +kernel
theorem dX14_readClass_225 : decode cX14_readClass 225 = .ok (.iconst 1, 1) := by decide +kernel
theorem dX14_readClass_226 : decode cX14_readClass 226 = .ok (.goto 4, 3) := by decide +kernel
theorem dX14_readClass_229 : decode cX14_readClass 229 = .ok (.iconst 0, 1) := by decide +kernel
theorem dX14_readClass_230 : decode cX14_readClass 230 = .ok (.iconst 1, 1) := by decide +kernel
theorem dX14_readClass_231 : decode cX14_readClass 231 = .ok (.aload_n 0, 1) := by decide +kernel
theorem dX14_readClass_232 : decode cX14_readClass 232 = .ok (.getfield 128, 3) := by decide +kernel
theorem dX14_readClass_235 : decode cX14_readClass 235 = .ok (.invokevirtual 172, 3) := by decide +kernel
theorem dX14_readClass_238 : decode cX14_readClass 238 = .ok (.aload_n 0, 1) := by decide +kernel
theorem dX14_readClass_239 : decode cX14_readClass 239 = .ok (.aload_n 0, 1) := by decide +kernel
theorem dX14_readClass_240 : decode cX14_readClass 240 = .ok (.getfield 155, 3) := by decide +kernel
theorem dX14_readClass_243 : decode cX14_readClass 243 = .ok (.aload_n 0, 1) := by decide +kernel
theorem dX14_readClass_244 : decode cX14_readClass 244 = .ok (.getfield 159, 3) := by decide +kernel
theorem dX14_readClass_247 : decode cX14_readClass 247 = .ok (.invokevirtual 496, 3) := by decide +kernel
theorem dX14_readClass_250 : decode cX14_readClass 250 = .ok (.istore_n 1, 1) := by decide +kernel
theorem dX14_readClass_251 : decode cX14_readClass 251 = .ok (.aload_n 0, 1) := by decide +kernel
theorem dX14_readClass_252 : decode cX14_readClass 252 = .ok (.iload_n 1, 1) := by decide +kernel
theorem dX14_readClass_253 : decode cX14_readClass 253 = .ok (.iconst (-1), 1) := by decide +kernel
theorem dX14_readClass_254 : decode cX14_readClass 254 = .ok (.if_icmp .eq 7, 3) := by decide +kernel
theorem dX14_readClass_257 : decode cX14_readClass 257 = .ok (.iconst 1, 1) := by decide +kernel
theorem dX14_readClass_258 : decode cX14_readClass 258 = .ok (.goto 4, 3) := by decide +kernel
theorem dX14_readClass_261 : decode cX14_readClass 261 = .ok (.iconst 0, 1) := by decide +kernel
theorem dX14_readClass_262 : decode cX14_readClass 262 = .ok (.iconst 2, 1) := by decide +kernel
theorem dX14_readClass_263 : decode cX14_readClass 263 = .ok (.aload_n 0, 1) := by decide +kernel
theorem dX14_readClass_264 : decode cX14_readClass 264 = .ok (.getfield 128, 3) := by decide +kernel
theorem dX14_readClass_267 : decode cX14_readClass 267 = .ok (.invokevirtual 172, 3) := by decide +kernel
theorem dX14_readClass_270 : decode cX14_readClass 270 = .ok (.aload_n 0, 1) := by decide +kernel
theorem dX14_readClass_271 : decode cX14_readClass 271 = .ok (.invokevirtual 185, 3) := by decide +kernel
theorem dX14_readClass_274 : decode cX14_readClass 274 = .ok (.aload_n 0, 1) := by decide +kernel
theorem dX14_readClass_275 : decode cX14_readClass 275 = .ok (.iload_n 1, 1) := by decide +kernel
theorem dX14_readClass_276 : decode cX14_readClass 276 = .ok (.invokevirtual 511, 3) := by decide +kernel
theorem dX14_readClass_279 : decode cX14_readClass 279 = .ok (.aload_n 0, 1) := by decide +kernel
theorem dX14_readClass_280 : decode cX14_readClass 280 = .ok (.getfield 23, 3) := by decide +kernel
theorem dX14_readClass_283 : decode cX14_readClass 283 = .ok (.dup, 1) := by decide +kernel
theorem dX14_readClass_284 : decode cX14_readClass 284 = .ok (.getfield 499, 3) := by decide +kernel
theorem dX14_readClass_287 : decode cX14_readClass 287 = .ok (.iconst 1, 1) := by decide +kernel
theorem dX14_readClass_288 : decode cX14_readClass 288 = .ok (.iadd, 1) := by decide +kernel
theorem dX14_readClass_289 : decode cX14_readClass 289 = .ok (.putfield 499, 3) := by decide +kernel
theorem dX14_readClass_292 : decode cX14_readClass 292 = .ok (.aload_n 0, 1) := by decide +kernel
theorem dX14_readClass_293 : decode cX14_readClass 293 = .ok (.bipush 123, 2) := by decide +kernel
theorem dX14_readClass_295 : decode cX14_readClass 295 = .ok (.invokevirtual 267, 3) := by decide +kernel
theorem dX14_readClass_298 : decode cX14_readClass 298 = .ok (.aload_n 0, 1) := by decide +kernel
theorem dX14_readClass_299 : decode cX14_readClass 299 = .ok (.iconst 2, 1) := by decide +kernel
theorem dX14_readClass_300 : decode cX14_readClass 300 = .ok (.invokevirtual 188, 3) := by decide +kernel
theorem dX14_readClass_303 : decode cX14_readClass 303 = .ok (.ifCond .eq 10, 3) := by decide +kernel
theorem dX14_readClass_306 : decode cX14_readClass 306 = .ok (.aload_n 0, 1) := by decide +kernel
theorem dX14_readClass_307 : decode cX14_readClass 307 = .ok (.invokevirtual 514, 3) := by decide +kernel
theorem dX14_readClass_310 : decode cX14_readClass 310 = .ok (.goto (-12), 3) := by decide +kernel
theorem dX14_readClass_313 : decode cX14_readClass 313 = .ok (.aload_n 0, 1) := by decide +kernel
theorem dX14_readClass_314 : decode cX14_readClass 314 = .ok (.iconst 3, 1) := by decide +kernel
theorem dX14_readClass_315 : decode cX14_readClass 315 = .ok (.invokevirtual 188, 3) := by decide +kernel
theorem dX14_readClass_318 : decode cX14_readClass 318 = .ok (.ifCond .eq 10, 3) := by decide +kernel
theorem dX14_readClass_321 : decode cX14_readClass 321 = .ok (.aload_n 0, 1) := by decide +kernel
theorem dX14_readClass_322 : decode cX14_readClass 322 = .ok (.invokevirtual 517, 3) := by decide +kernel
theorem dX14_readClass_325 : decode cX14_readClass 325 = .ok (.goto (-12), 3) := by decide +kernel
theorem dX14_readClass_328 : decode cX14_readClass 328 = .ok (.aload_n 0, 1) := by decide +kernel
theorem dX14_readClass_329 : decode cX14_readClass 329 = .ok (.iconst 4, 1) := by decide +kernel
theorem dX14_readClass_330 : decode cX14_readClass 330 = .ok (.invokevirtual 188, 3) := by decide +kernel
theorem dX14_readClass_333 : decode cX14_readClass 333 = .ok (.ifCond .eq 10, 3) := by decide +kernel
theorem dX14_readClass_336 : decode cX14_readClass 336 = .ok (.aload_n 0, 1) := by decide +kernel
theorem dX14_readClass_337 : decode cX14_readClass 337 = .ok (.invokevirtual 520, 3) := by decide +kernel
theorem dX14_readClass_340 : decode cX14_readClass 340 = .ok (.goto (-12), 3) := by decide +kernel
theorem dX14_readClass_343 : decode cX14_readClass 343 = .ok (.aload_n 0, 1) := by decide +kernel
theorem dX14_readClass_344 : decode cX14_readClass 344 = .ok (.bipush 125, 2) := by decide +kernel
theorem dX14_readClass_346 : decode cX14_readClass 346 = .ok (.invokevirtual 267, 3) := by decide +kernel
theorem dX14_readClass_349 : decode cX14_readClass 349 = .ok (.return_, 1) := by decide +kernel
theorem dX14_classes_0 : decode cX14_classes 0 = .ok (.aload_n 0, 1) := by decide +kernel
theorem dX14_classes_1 : decode cX14_classes 1 = .ok (.aload_n 0, 1) := by decide +kernel
theorem dX14_classes_2 : decode cX14_classes 2 = .ok (.getfield 523, 3) := by decide +kernel
theorem dX14_classes_5 : decode cX14_classes 5 = .ok (.putfield 99, 3) := by decide +kernel
theorem dX14_classes_8 : decode cX14_classes 8 = .ok (.aload_n 0, 1) := by decide +kernel
theorem dX14_classes_9 : decode cX14_classes 9 = .ok (.iconst 0, 1) := by decide +kernel
theorem dX14_classes_10 : decode cX14_classes 10 = .ok (.putfield 523, 3) := by decide +kernel
theorem dX14_classes_13 : decode cX14_classes 13 = .ok (.aload_n 0, 1) := by decide +kernel
theorem dX14_classes_14 : decode cX14_classes 14 = .ok (.iconst 0, 1) := by decide +kernel
theorem dX14_classes_15 : decode cX14_classes 15 = .ok (.putfield 125, 3) := by decide +kernel
theorem dX14_classes_18 : decode cX14_classes 18 = .ok (.aload_n 0, 1) := by decide +kernel
theorem dX14_classes_19 : decode cX14_classes 19 = .ok (.iconst 0, 1) := by decide +kernel
theorem dX14_classes_20 : decode cX14_classes 20 = .ok (.putfield 134, 3) := by decide +kernel
theorem dX14_classes_23 : decode cX14_classes 23 = .ok (.aload_n 0, 1) := by decide +kernel
theorem dX14_classes_24 : decode cX14_classes 24 = .ok (.iconst 0, 1) := by decide +kernel
theorem dX14_classes_25 : decode cX14_classes 25 = .ok (.putfield 102, 3) := by decide +kernel
theorem dX14_classes_28 : decode cX14_classes 28 = .ok (.aload_n 0, 1) := by decide +kernel
theorem dX14_classes_29 : decode cX14_classes 29 = .ok (.iconst (-1), 1) := by decide +kernel
theorem dX14_classes_30 : decode cX14_classes 30 = .ok (.putfield 30, 3) := by decide +kernel
theorem dX14_classes_33 : decode cX14_classes 33 = .ok (.aload_n 0, 1) := by decide +kernel
theorem dX14_classes_34 : decode cX14_classes 34 = .ok (.getfield 23, 3) := by decide +kernel
theorem dX14_classes_37 : decode cX14_classes 37 = .ok (.iconst 0, 1) := by decide +kernel
theorem dX14_classes_38 : decode cX14_classes 38 = .ok (.putfield 499, 3) := by decide +kernel
theorem dX14_classes_41 : decode cX14_classes 41 = .ok (.aload_n 0, 1) := by decide +kernel
theorem dX14_classes_42 : decode cX14_classes 42 = .ok (.getfield 23, 3) := by decide +kernel
theorem dX14_classes_45 : decode cX14_classes 45 = .ok (.iconst 0, 1) := by decide +kernel
theorem dX14_classes_46 : decode cX14_classes 46 = .ok (.putfield 459, 3) := by decide +kernel
theorem dX14_classes_49 : decode cX14_classes 49 = .ok (.aload_n 0, 1) := by decide +kernel
theorem dX14_classes_50 : decode cX14_classes 50 = .ok (.getfield 23, 3) := by decide +kernel
theorem dX14_classes_53 : decode cX14_classes 53 = .ok (.iconst 0, 1) := by decide +kernel
theorem dX14_classes_54 : decode cX14_classes 54 = .ok (.putfield 330, 3) := by decide +kernel
theorem dX14_classes_57 : decode cX14_classes 57 = .ok (.aload_n 0, 1) := by decide +kernel
theorem dX14_classes_58 : decode cX14_classes 58 = .ok (.getfield 23, 3) := by decide +kernel
theorem dX14_classes_61 : decode cX14_classes 61 = .ok (.iconst 0, 1) := by decide +kernel
theorem dX14_classes_62 : decode cX14_classes 62 = .ok (.putfield 211, 3) := by decide +kernel
theorem dX14_classes_65 : decode cX14_classes 65 = .ok (.aload_n 0, 1) := by decide +kernel
theorem dX14_classes_66 : decode cX14_classes 66 = .ok (.getfield 23, 3) := by decide +kernel
theorem dX14_classes_69 : decode cX14_classes 69 = .ok (.iconst 0, 1) := by decide +kernel
theorem dX14_classes_70 : decode cX14_classes 70 = .ok (.putfield 208, 3) := by decide +kernel
theorem dX14_classes_73 : decode cX14_classes 73 = .ok (.aload_n 0, 1) := by decide +kernel
theorem dX14_classes_74 : decode cX14_classes 74 = .ok (.iconst 0, 1) := by decide +kernel
theorem dX14_classes_75 : decode cX14_classes 75 = .ok (.putfield 195, 3) := by decide +kernel
theorem dX14_classes_78 : decode cX14_classes 78 = .ok (.aload_n 0, 1) := by decide +kernel
theorem dX14_classes_79 : decode cX14_classes 79 = .ok (.iconst 0, 1) := by decide +kernel
theorem dX14_classes_80 : decode cX14_classes 80 = .ok (.putfield 198, 3) := by decide +kernel
theorem dX14_classes_83 : decode cX14_classes 83 = .ok (.aload_n 0, 1) := by decide +kernel
theorem dX14_classes_84 : decode cX14_classes 84 = .ok (.iconst 0, 1) := by decide +kernel
theorem dX14_classes_85 : decode cX14_classes 85 = .ok (.putfield 303, 3) := by decide +kernel
theorem dX14_classes_88 : decode cX14_classes 88 = .ok (.aload_n 0, 1) := by decide +kernel
theorem dX14_classes_89 : decode cX14_classes 89 = .ok (.iconst 0, 1) := by decide +kernel
theorem dX14_classes_90 : decode cX14_classes 90 = .ok (.putfield 276, 3) := by decide +kernel
theorem dX14_classes_93 : decode cX14_classes 93 = .ok (.aload_n 0, 1) := by decide +kernel
theorem dX14_classes_94 : decode cX14_classes 94 = .ok (.iconst 0, 1) := by decide +kernel
theorem dX14_classes_95 : decode cX14_classes 95 = .ok (.putfield 191, 3) := by decide +kernel
theorem dX14_classes_98 : decode cX14_classes 98 = .ok (.aload_n 0, 1) := by decide +kernel
theorem dX14_classes_99 : decode cX14_classes 99 = .ok (.iconst 0, 1) := by decide +kernel
theorem dX14_classes_100 : decode cX14_classes 100 = .ok (.putfield 241, 3) := by decide +kernel
theorem dX14_classes_103 : decode cX14_classes 103 = .ok (.aload_n 0, 1) := by decide +kernel
theorem dX14_classes_104 : decode cX14_classes 104 = .ok (.iconst 0, 1) := by decide +kernel
theorem dX14_classes_105 : decode cX14_classes 105 = .ok (.putfield 363, 3) := by decide +kernel
theorem dX14_classes_108 : decode cX14_classes 108 = .ok (.aload_n 0, 1) := by decide +kernel
theorem dX14_classes_109 : decode cX14_classes 109 = .ok (.invokevirtual 179, 3) := by decide +kernel
theorem dX14_classes_112 : decode cX14_classes 112 = .ok (.aload_n 0, 1) := by decide +kernel
theorem dX14_classes_113 : decode cX14_classes 113 = .ok (.invokevirtual 526, 3) := by decide +kernel
theorem dX14_classes_116 : decode cX14_classes 116 = .ok (.aload_n 0, 1) := by decide +kernel
theorem dX14_classes_117 : decode cX14_classes 117 = .ok (.getfield 131, 3) := by decide +kernel
theorem dX14_classes_120 : decode cX14_classes 120 = .ok (.iconst 5, 1) := by decide +kernel
theorem dX14_classes_121 : decode cX14_classes 121 = .ok (.if_icmp .ne (-9), 3) := by decide +kernel
theorem dX14_classes_124 : decode cX14_classes 124 = .ok (.goto 6, 3) := by decide +kernel
theorem dX14_classes_127 : decode cX14_classes 127 = .ok (.astore_n 1, 1) := by decide +kernel
theorem dX14_classes_128 : decode cX14_classes 128 = .ok (.iconst (-1), 1) := by decide +kernel
theorem dX14_classes_129 : decode cX14_classes 129 = .ok (.ireturn, 1) := by decide +kernel
theorem dX14_classes_130 : decode cX14_classes 130 = .ok (.aload_n 0, 1) := by decide +kernel
theorem dX14_classes_131 : decode cX14_classes 131 = .ok (.getfield 19, 3) := by decide +kernel
theorem dX14_classes_134 : decode cX14_classes 134 = .ok (.astore_n 1, 1) := by decide +kernel
theorem dX14_classes_135 : decode cX14_classes 135 = .ok (.aload_n 0, 1) := by decide +kernel
theorem dX14_classes_136 : decode cX14_classes 136 = .ok (.aload_n 0, 1) := by decide +kernel
theorem dX14_classes_137 : decode cX14_classes 137 = .ok (.getfield 23, 3) := by decide +kernel
theorem dX14_classes_140 : decode cX14_classes 140 = .ok (.putfield 19, 3) := by decide +kernel
theorem dX14_classes_143 : decode cX14_classes 143 = .ok (.aload_n 0, 1) := by decide +kernel
theorem dX14_classes_144 : decode cX14_classes 144 = .ok (.aload_n 1, 1) := by decide +kernel
theorem dX14_classes_145 : decode cX14_classes 145 = .ok (.putfield 23, 3) := by decide +kernel
theorem dX14_classes_148 : decode cX14_classes 148 = .ok (.aload_n 0, 1) := by decide +kernel
theorem dX14_classes_149 : decode cX14_classes 149 = .ok (.iconst 0, 1) := by decide +kernel
theorem dX14_classes_150 : decode cX14_classes 150 = .ok (.putfield 529, 3) := by decide +kernel
theorem dX14_classes_153 : decode cX14_classes 153 = .ok (.aload_n 0, 1) := by decide +kernel
theorem dX14_classes_154 : decode cX14_classes 154 = .ok (.iconst 0, 1) := by decide +kernel
theorem dX14_classes_155 : decode cX14_classes 155 = .ok (.putfield 532, 3) := by decide +kernel
theorem dX14_classes_158 : decode cX14_classes 158 = .ok (.aload_n 0, 1) := by decide +kernel
theorem dX14_classes_159 : decode cX14_classes 159 = .ok (.invokevirtual 535, 3) := by decide +kernel
theorem dX14_classes_162 : decode cX14_classes 162 = .ok (.aload_n 0, 1) := by decide +kernel
theorem dX14_classes_163 : decode cX14_classes 163 = .ok (.iconst 0, 1) := by decide +kernel
theorem dX14_classes_164 : decode cX14_classes 164 = .ok (.putfield 538, 3) := by decide +kernel
theorem dX14_classes_167 : decode cX14_classes 167 = .ok (.aload_n 0, 1) := by decide +kernel
theorem dX14_classes_168 : decode cX14_classes 168 = .ok (.iconst 0, 1) := by decide +kernel
theorem dX14_classes_169 : decode cX14_classes 169 = .ok (.putfield 541, 3) := by decide +kernel
theorem dX14_classes_172 : decode cX14_classes 172 = .ok (.aload_n 0, 1) := by decide +kernel
theorem dX14_classes_173 : decode cX14_classes 173 = .ok (.getfield 19, 3) := by decide +kernel
theorem dX14_classes_176 : decode cX14_classes 176 = .ok (.getfield 499, 3) := by decide +kernel
theorem dX14_classes_179 : decode cX14_classes 179 = .ok (.ireturn, 1) := by decide +kernel
