theorem dX14_see_0 : decode cX14_see 0 = .ok (.iload_n 1, 1) := by decide +kernel
theorem dX14_see_1 : decode cX14_see 1 = .ok (.aload_n 0, 1) := by decide +kernel
theorem dX14_see_2 : decode cX14_see 2 = .ok (.getfield 99, 3) := by decide +kernel
theorem dX14_see_5 : decode cX14_see 5 = .ok (.if_icmp .ge 16, 3) := by decide +kernel
theorem dX14_see_8 : decode cX14_see 8 = .ok (.aload_n 0, 1) := by decide +kernel
theorem dX14_see_9 : decode cX14_see 9 = .ok (.getfield 26, 3) := by decide +kernel
theorem dX14_see_12 : decode cX14_see 12 = .ok (.iload_n 1, 1) := by decide +kernel
theorem dX14_see_13 : decode cX14_see 13 = .ok (.baload, 1) := by decide +kernel
theorem dX14_see_14 : decode cX14_see 14 = .ok (.sipush 255, 3) := by decide +kernel
theorem dX14_see_17 : decode cX14_see 17 = .ok (.iand, 1) := by decide +kernel
theorem dX14_see_18 : decode cX14_see 18 = .ok (.goto 4, 3) := by decide +kernel
theorem dX14_see_21 : decode cX14_see 21 = .ok (.iconst (-1), 1) := by decide +kernel
theorem dX14_see_22 : decode cX14_see 22 = .ok (.ireturn, 1) := by decide +kernel
theorem dX14_keyAt_0 : decode cX14_keyAt 0 = .ok (.iconst 0, 1) := by decide +kernel
theorem dX14_keyAt_1 : decode cX14_keyAt 1 = .ok (.istore_n 3, 1) := by decide +kernel
theorem dX14_keyAt_2 : decode cX14_keyAt 2 = .ok (.iconst 0, 1) := by decide +kernel
theorem dX14_keyAt_3 : decode cX14_keyAt 3 = .ok (.istore 4, 2) := by decide +kernel
theorem dX14_keyAt_5 : decode cX14_keyAt 5 = .ok (.iconst 0, 1) := by decide +kernel
theorem dX14_keyAt_6 : decode cX14_keyAt 6 = .ok (.istore 5, 2) := by decide +kernel
theorem dX14_keyAt_8 : decode cX14_keyAt 8 = .ok (.iload 5, 2) := by decide +kernel
theorem dX14_keyAt_10 : decode cX14_keyAt 10 = .ok (.ldc 109, 2) := by decide +kernel
theorem dX14_keyAt_12 : decode cX14_keyAt 12 = .ok (.invokevirtual 111, 3) := by decide +kernel
theorem dX14_keyAt_15 : decode cX14_keyAt 15 = .ok (.if_icmp .ge 104, 3) := by decide +kernel
theorem dX14_keyAt_18 : decode cX14_keyAt 18 = .ok (.ldc 109, 2) := by decide +kernel
theorem dX14_keyAt_20 : decode cX14_keyAt 20 = .ok (.iload 5, 2) := by decide +kernel
theorem dX14_keyAt_22 : decode cX14_keyAt 22 = .ok (.invokevirtual 117, 3) := by decide +kernel
theorem dX14_keyAt_25 : decode cX14_keyAt 25 = .ok (.bipush 32, 2) := by decide +kernel
theorem dX14_keyAt_27 : decode cX14_keyAt 27 = .ok (.if_icmp .eq 6, 3) := by decide +kernel
theorem dX14_keyAt_30 : decode cX14_keyAt 30 = .ok (.goto 83, 3) := by decide +kernel
theorem dX14_keyAt_33 : decode cX14_keyAt 33 = .ok (.iload 5, 2) := by decide +kernel
theorem dX14_keyAt_35 : decode cX14_keyAt 35 = .ok (.iload 4, 2) := by decide +kernel
theorem dX14_keyAt_37 : decode cX14_keyAt 37 = .ok (.isub, 1) := by decide +kernel
theorem dX14_keyAt_38 : decode cX14_keyAt 38 = .ok (.iload_n 2, 1) := by decide +kernel
theorem dX14_keyAt_39 : decode cX14_keyAt 39 = .ok (.if_icmp .ne 7, 3) := by decide +kernel
theorem dX14_keyAt_42 : decode cX14_keyAt 42 = .ok (.iconst 1, 1) := by decide +kernel
theorem dX14_keyAt_43 : decode cX14_keyAt 43 = .ok (.goto 4, 3) := by decide +kernel
theorem dX14_keyAt_46 : decode cX14_keyAt 46 = .ok (.iconst 0, 1) := by decide +kernel
theorem dX14_keyAt_47 : decode cX14_keyAt 47 = .ok (.istore 6, 2) := by decide +kernel
theorem dX14_keyAt_49 : decode cX14_keyAt 49 = .ok (.iconst 0, 1) := by decide +kernel
theorem dX14_keyAt_50 : decode cX14_keyAt 50 = .ok (.istore 7, 2) := by decide +kernel
theorem dX14_keyAt_52 : decode cX14_keyAt 52 = .ok (.iload 7, 2) := by decide +kernel
theorem dX14_keyAt_54 : decode cX14_keyAt 54 = .ok (.iload_n 2, 1) := by decide +kernel
theorem dX14_keyAt_55 : decode cX14_keyAt 55 = .ok (.if_icmp .ge 42, 3) := by decide +kernel
theorem dX14_keyAt_58 : decode cX14_keyAt 58 = .ok (.iload 6, 2) := by decide +kernel
theorem dX14_keyAt_60 : decode cX14_keyAt 60 = .ok (.ifCond .eq 37, 3) := by decide +kernel
theorem dX14_keyAt_63 : decode cX14_keyAt 63 = .ok (.ldc 109, 2) := by decide +kernel
theorem dX14_keyAt_65 : decode cX14_keyAt 65 = .ok (.iload 4, 2) := by decide +kernel
theorem dX14_keyAt_67 : decode cX14_keyAt 67 = .ok (.iload 7, 2) := by decide +kernel
theorem dX14_keyAt_69 : decode cX14_keyAt 69 = .ok (.iadd, 1) := by decide +kernel
theorem dX14_keyAt_70 : decode cX14_keyAt 70 = .ok (.invokevirtual 117, 3) := by decide +kernel
theorem dX14_keyAt_73 : decode cX14_keyAt 73 = .ok (.aload_n 0, 1) := by decide +kernel
theorem dX14_keyAt_74 : decode cX14_keyAt 74 = .ok (.iload_n 1, 1) := by decide +kernel
theorem dX14_keyAt_75 : decode cX14_keyAt 75 = .ok (.iload 7, 2) := by decide +kernel
theorem dX14_keyAt_77 : decode cX14_keyAt 77 = .ok (.iadd, 1) := by decide +kernel
theorem dX14_keyAt_78 : decode cX14_keyAt 78 = .ok (.invokevirtual 121, 3) := by decide +kernel
theorem dX14_keyAt_81 : decode cX14_keyAt 81 = .ok (.if_icmp .ne 7, 3) := by decide +kernel
theorem dX14_keyAt_84 : decode cX14_keyAt 84 = .ok (.iconst 1, 1) := by decide +kernel
theorem dX14_keyAt_85 : decode cX14_keyAt 85 = .ok (.goto 4, 3) := by decide +kernel
theorem dX14_keyAt_88 : decode cX14_keyAt 88 = .ok (.iconst 0, 1) := by decide +kernel
theorem dX14_keyAt_89 : decode cX14_keyAt 89 = .ok (.istore 6, 2) := by decide +kernel
theorem dX14_keyAt_91 : decode cX14_keyAt 91 = .ok (.iinc 7 1, 3) := by decide +kernel
theorem dX14_keyAt_94 : decode cX14_keyAt 94 = .ok (.goto (-42), 3) := by decide +kernel
theorem dX14_keyAt_97 : decode cX14_keyAt 97 = .ok (.iload 6, 2) := by decide +kernel
theorem dX14_keyAt_99 : decode cX14_keyAt 99 = .ok (.ifCond .eq 5, 3) := by decide +kernel
theorem dX14_keyAt_102 : decode cX14_keyAt 102 = .ok (.iload_n 3, 1) := by decide +kernel
theorem dX14_keyAt_103 : decode cX14_keyAt 103 = .ok (.ireturn, 1) := by decide +kernel
theorem dX14_keyAt_104 : decode cX14_keyAt 104 = .ok (.iinc 3 1, 3) := by decide +kernel
theorem dX14_keyAt_107 : decode cX14_keyAt 107 = .ok (.iload 5, 2) := by decide +kernel
theorem dX14_keyAt_109 : decode cX14_keyAt 109 = .ok (.iconst 1, 1) := by decide +kernel
theorem dX14_keyAt_110 : decode cX14_keyAt 110 = .ok (.iadd, 1) := by decide +kernel
theorem dX14_keyAt_111 : decode cX14_keyAt 111 = .ok (.istore 4, 2) := by decide +kernel
theorem dX14_keyAt_113 : decode cX14_keyAt 113 = .ok (.iinc 5 1, 3) := by decide +kernel
theorem dX14_keyAt_116 : decode cX14_keyAt 116 = .ok (.goto (-108), 3) := by decide +kernel
theorem dX14_keyAt_119 : decode cX14_keyAt 119 = .ok (.iconst (-1), 1) := by decide +kernel
theorem dX14_keyAt_120 : decode cX14_keyAt 120 = .ok (.ireturn, 1) := by decide +kernel
theorem dX14_letters_0 : decode cX14_letters 0 = .ok (.lconst 0, 1) := by decide +kernel
theorem dX14_letters_1 : decode cX14_letters 1 = .ok (.lstore_n 3, 1) := by decide +kernel
theorem dX14_letters_2 : decode cX14_letters 2 = .ok (.iload_n 1, 1) := by decide +kernel
theorem dX14_letters_3 : decode cX14_letters 3 = .ok (.istore 5, 2) := by decide +kernel
theorem dX14_letters_5 : decode cX14_letters 5 = .ok (.iload 5, 2) := by decide +kernel
theorem dX14_letters_7 : decode cX14_letters 7 = .ok (.iload_n 2, 1) := by decide +kernel
theorem dX14_letters_8 : decode cX14_letters 8 = .ok (.if_icmp .ge 22, 3) := by decide +kernel
theorem dX14_letters_11 : decode cX14_letters 11 = .ok (.lload_n 3, 1) := by decide +kernel
theorem dX14_letters_12 : decode cX14_letters 12 = .ok (.bipush 8, 2) := by decide +kernel
theorem dX14_letters_14 : decode cX14_letters 14 = .ok (.lshl, 1) := by decide +kernel
theorem dX14_letters_15 : decode cX14_letters 15 = .ok (.aload_n 0, 1) := by decide +kernel
theorem dX14_letters_16 : decode cX14_letters 16 = .ok (.iload 5, 2) := by decide +kernel
theorem dX14_letters_18 : decode cX14_letters 18 = .ok (.invokevirtual 121, 3) := by decide +kernel
theorem dX14_letters_21 : decode cX14_letters 21 = .ok (.i2l, 1) := by decide +kernel
theorem dX14_letters_22 : decode cX14_letters 22 = .ok (.lor, 1) := by decide +kernel
theorem dX14_letters_23 : decode cX14_letters 23 = .ok (.lstore_n 3, 1) := by decide +kernel
theorem dX14_letters_24 : decode cX14_letters 24 = .ok (.iinc 5 1, 3) := by decide +kernel
theorem dX14_letters_27 : decode cX14_letters 27 = .ok (.goto (-22), 3) := by decide +kernel
theorem dX14_letters_30 : decode cX14_letters 30 = .ok (.lload_n 3, 1) := by decide +kernel
theorem dX14_letters_31 : decode cX14_letters 31 = .ok (.lreturn, 1) := by decide +kernel
theorem dX14_scan_0 : decode cX14_scan 0 = .ok (.aload_n 0, 1) := by decide +kernel
theorem dX14_scan_1 : decode cX14_scan 1 = .ok (.getfield 125, 3) := by decide +kernel
theorem dX14_scan_4 : decode cX14_scan 4 = .ok (.istore_n 1, 1) := by decide +kernel
theorem dX14_scan_5 : decode cX14_scan 5 = .ok (.aload_n 0, 1) := by decide +kernel
theorem dX14_scan_6 : decode cX14_scan 6 = .ok (.iload_n 1, 1) := by decide +kernel
theorem dX14_scan_7 : decode cX14_scan 7 = .ok (.invokevirtual 121, 3) := by decide +kernel
theorem dX14_scan_10 : decode cX14_scan 10 = .ok (.bipush 32, 2) := by decide +kernel
theorem dX14_scan_12 : decode cX14_scan 12 = .ok (.if_icmp .eq 13, 3) := by decide +kernel
theorem dX14_scan_15 : decode cX14_scan 15 = .ok (.aload_n 0, 1) := by decide +kernel
theorem dX14_scan_16 : decode cX14_scan 16 = .ok (.iload_n 1, 1) := by decide +kernel
theorem dX14_scan_17 : decode cX14_scan 17 = .ok (.invokevirtual 121, 3) := by decide +kernel
theorem dX14_scan_20 : decode cX14_scan 20 = .ok (.bipush 10, 2) := by decide +kernel
theorem dX14_scan_22 : decode cX14_scan 22 = .ok (.if_icmp .ne 9, 3) := by decide +kernel
theorem dX14_scan_25 : decode cX14_scan 25 = .ok (.iinc 1 1, 3) := by decide +kernel
theorem dX14_scan_28 : decode cX14_scan 28 = .ok (.goto (-23), 3) := by decide +kernel
theorem dX14_scan_31 : decode cX14_scan 31 = .ok (.aload_n 0, 1) := by decide +kernel
theorem dX14_scan_32 : decode cX14_scan 32 = .ok (.iload_n 1, 1) := by decide +kernel
theorem dX14_scan_33 : decode cX14_scan 33 = .ok (.putfield 128, 3) := by decide +kernel
theorem dX14_scan_36 : decode cX14_scan 36 = .ok (.aload_n 0, 1) := by decide +kernel
theorem dX14_scan_37 : decode cX14_scan 37 = .ok (.iload_n 1, 1) := by decide +kernel
theorem dX14_scan_38 : decode cX14_scan 38 = .ok (.invokevirtual 121, 3) := by decide +kernel
theorem dX14_scan_41 : decode cX14_scan 41 = .ok (.istore_n 2, 1) := by decide +kernel
theorem dX14_scan_42 : decode cX14_scan 42 = .ok (.iload_n 2, 1) := by decide +kernel
theorem dX14_scan_43 : decode cX14_scan 43 = .ok (.iconst (-1), 1) := by decide +kernel
theorem dX14_scan_44 : decode cX14_scan 44 = .ok (.if_icmp .ne 14, 3) := by decide +kernel
theorem dX14_scan_47 : decode cX14_scan 47 = .ok (.aload_n 0, 1) := by decide +kernel
theorem dX14_scan_48 : decode cX14_scan 48 = .ok (.iconst 5, 1) := by decide +kernel
theorem dX14_scan_49 : decode cX14_scan 49 = .ok (.putfield 131, 3) := by decide +kernel
theorem dX14_scan_52 : decode cX14_scan 52 = .ok (.aload_n 0, 1) := by decide +kernel
theorem dX14_scan_53 : decode cX14_scan 53 = .ok (.iload_n 1, 1) := by decide +kernel
theorem dX14_scan_54 : decode cX14_scan 54 = .ok (.putfield 125, 3) := by decide +kernel
theorem dX14_scan_57 : decode cX14_scan 57 = .ok (.return_, 1) := by decide +kernel
theorem dX14_scan_58 : decode cX14_scan 58 = .ok (.aload_n 0, 1) := by decide +kernel
theorem dX14_scan_59 : decode cX14_scan 59 = .ok (.dup, 1) := by decide +kernel
theorem dX14_scan_60 : decode cX14_scan 60 = .ok (.getfield 134, 3) := by decide +kernel
theorem dX14_scan_63 : decode cX14_scan 63 = .ok (.iconst 1, 1) := by decide +kernel
theorem dX14_scan_64 : decode cX14_scan 64 = .ok (.iadd, 1) := by decide +kernel
theorem dX14_scan_65 : decode cX14_scan 65 = .ok (.putfield 134, 3) := by decide +kernel
theorem dX14_scan_68 : decode cX14_scan 68 = .ok (.iload_n 2, 1) := by decide +kernel
theorem dX14_scan_69 : decode cX14_scan 69 = .ok (.invokestatic 137, 3) := by decide +kernel
theorem dX14_scan_72 : decode cX14_scan 72 = .ok (.ifCond .eq 150, 3) := by decide +kernel
theorem dX14_scan_75 : decode cX14_scan 75 = .ok (.iload_n 1, 1) := by decide +kernel
theorem dX14_scan_76 : decode cX14_scan 76 = .ok (.istore_n 3, 1) := by decide +kernel
theorem dX14_scan_77 : decode cX14_scan 77 = .ok (.aload_n 0, 1) := by decide +kernel
theorem dX14_scan_78 : decode cX14_scan 78 = .ok (.iload_n 3, 1) := by decide +kernel
theorem dX14_scan_79 : decode cX14_scan 79 = .ok (.invokevirtual 121, 3) := by decide +kernel
theorem dX14_scan_82 : decode cX14_scan 82 = .ok (.invokestatic 137, 3) := by decide +kernel
theorem dX14_scan_85 : decode cX14_scan 85 = .ok (.ifCond .ne 24, 3) := by decide +kernel
theorem dX14_scan_88 : decode cX14_scan 88 = .ok (.aload_n 0, 1) := by decide +kernel
theorem dX14_scan_89 : decode cX14_scan 89 = .ok (.iload_n 3, 1) := by decide +kernel
theorem dX14_scan_90 : decode cX14_scan 90 = .ok (.invokevirtual 121, 3) := by decide +kernel
theorem dX14_scan_93 : decode cX14_scan 93 = .ok (.invokestatic 141, 3) := by decide +kernel
theorem dX14_scan_96 : decode cX14_scan 96 = .ok (.ifCond .ne 13, 3) := by decide +kernel
theorem dX14_scan_99 : decode cX14_scan 99 = .ok (.aload_n 0, 1) := by decide +kernel
theorem dX14_scan_100 : decode cX14_scan 100 = .ok (.iload_n 3, 1) := by decide +kernel
theorem dX14_scan_101 : decode cX14_scan 101 = .ok (.invokevirtual 121, 3) := by decide +kernel
theorem dX14_scan_104 : decode cX14_scan 104 = .ok (.bipush 95, 2) := by decide +kernel
theorem dX14_scan_106 : decode cX14_scan 106 = .ok (.if_icmp .ne 9, 3) := by decide +kernel
theorem dX14_scan_109 : decode cX14_scan 109 = .ok (.iinc 3 1, 3) := by decide +kernel
theorem dX14_scan_112 : decode cX14_scan 112 = .ok (.goto (-35), 3) := by decide +kernel
theorem dX14_scan_115 : decode cX14_scan 115 = .ok (.aload_n 0, 1) := by decide +kernel
theorem dX14_scan_116 : decode cX14_scan 116 = .ok (.iload_n 3, 1) := by decide +kernel
theorem dX14_scan_117 : decode cX14_scan 117 = .ok (.putfield 125, 3) := by decide +kernel
theorem dX14_scan_120 : decode cX14_scan 120 = .ok (.aload_n 0, 1) := by decide +kernel
theorem dX14_scan_121 : decode cX14_scan 121 = .ok (.aload_n 0, 1) := by decide +kernel
theorem dX14_scan_122 : decode cX14_scan 122 = .ok (.iload_n 1, 1) := by decide +kernel
theorem dX14_scan_123 : decode cX14_scan 123 = .ok (.iload_n 3, 1) := by decide +kernel
theorem dX14_scan_124 : decode cX14_scan 124 = .ok (.iload_n 1, 1) := by decide +kernel
theorem dX14_scan_125 : decode cX14_scan 125 = .ok (.isub, 1) := by decide +kernel
theorem dX14_scan_126 : decode cX14_scan 126 = .ok (.invokevirtual 144, 3) := by decide +kernel
theorem dX14_scan_129 : decode cX14_scan 129 = .ok (.putfield 148, 3) := by decide +kernel
theorem dX14_scan_132 : decode cX14_scan 132 = .ok (.aload_n 0, 1) := by decide +kernel
theorem dX14_scan_133 : decode cX14_scan 133 = .ok (.aload_n 0, 1) := by decide +kernel
theorem dX14_scan_134 : decode cX14_scan 134 = .ok (.getfield 148, 3) := by decide +kernel
theorem dX14_scan_137 : decode cX14_scan 137 = .ok (.iconst (-1), 1) := by decide +kernel
theorem dX14_scan_138 : decode cX14_scan 138 = .ok (.if_icmp .eq 7, 3) := by decide +kernel
theorem dX14_scan_141 : decode cX14_scan 141 = .ok (.iconst 2, 1) := by decide +kernel
theorem dX14_scan_142 : decode cX14_scan 142 = .ok (.goto 16, 3) := by decide +kernel
theorem dX14_scan_145 : decode cX14_scan 145 = .ok (.iload_n 3, 1) := by decide +kernel
theorem dX14_scan_146 : decode cX14_scan 146 = .ok (.iload_n 1, 1) := by decide +kernel
theorem dX14_scan_147 : decode cX14_scan 147 = .ok (.isub, 1) := by decide +kernel
theorem dX14_scan_148 : decode cX14_scan 148 = .ok (.bipush 12, 2) := by decide +kernel
theorem dX14_scan_150 : decode cX14_scan 150 = .ok (.if_icmp .le 7, 3) := by decide +kernel
theorem dX14_scan_153 : decode cX14_scan 153 = .ok (.iconst 0, 1) := by decide +kernel
theorem dX14_scan_154 : decode cX14_scan 154 = .ok (.goto 4, 3) := by decide +kernel
theorem dX14_scan_157 : decode cX14_scan 157 = .ok (.iconst 1, 1) := by decide +kernel
theorem dX14_scan_158 : decode cX14_scan 158 = .ok (.putfield 131, 3) := by decide +kernel
theorem dX14_scan_161 : decode cX14_scan 161 = .ok (.aload_n 0, 1) := by decide +kernel
theorem dX14_scan_162 : decode cX14_scan 162 = .ok (.aload_n 0, 1) := by decide +kernel
theorem dX14_scan_163 : decode cX14_scan 163 = .ok (.iload_n 1, 1) := by decide +kernel
theorem dX14_scan_164 : decode cX14_scan 164 = .ok (.iload_n 3, 1) := by decide +kernel
theorem dX14_scan_165 : decode cX14_scan 165 = .ok (.iload_n 1, 1) := by decide +kernel
theorem dX14_scan_166 : decode cX14_scan 166 = .ok (.bipush 6, 2) := by decide +kernel
theorem dX14_scan_168 : decode cX14_scan 168 = .ok (.iadd, 1) := by decide +kernel
theorem dX14_scan_169 : decode cX14_scan 169 = .ok (.if_icmp .ge 7, 3) := by decide +kernel
theorem dX14_scan_172 : decode cX14_scan 172 = .ok (.iload_n 3, 1) := by decide +kernel
theorem dX14_scan_173 : decode cX14_scan 173 = .ok (.goto 7, 3) := by decide +kernel
theorem dX14_scan_176 : decode cX14_scan 176 = .ok (.iload_n 1, 1) := by decide +kernel
theorem dX14_scan_177 : decode cX14_scan 177 = .ok (.bipush 6, 2) := by decide +kernel
theorem dX14_scan_179 : decode cX14_scan 179 = .ok (.iadd, 1) := by decide +kernel
theorem dX14_scan_180 : decode cX14_scan 180 = .ok (.invokevirtual 151, 3) := by decide +kernel
theorem dX14_scan_183 : decode cX14_scan 183 = .ok (.putfield 155, 3) := by decide +kernel
theorem dX14_scan_186 : decode cX14_scan 186 = .ok (.aload_n 0, 1) := by decide +kernel
theorem dX14_scan_187 : decode cX14_scan 187 = .ok (.iload_n 3, 1) := by decide +kernel
theorem dX14_scan_188 : decode cX14_scan 188 = .ok (.iload_n 1, 1) := by decide +kernel
theorem dX14_scan_189 : decode cX14_scan 189 = .ok (.bipush 6, 2) := by decide +kernel
theorem dX14_scan_191 : decode cX14_scan 191 = .ok (.iadd, 1) := by decide +kernel
theorem dX14_scan_192 : decode cX14_scan 192 = .ok (.if_icmp .le 23, 3) := by decide +kernel
theorem dX14_scan_195 : decode cX14_scan 195 = .ok (.iload_n 3, 1) := by decide +kernel
theorem dX14_scan_196 : decode cX14_scan 196 = .ok (.iload_n 1, 1) := by decide +kernel
theorem dX14_scan_197 : decode cX14_scan 197 = .ok (.bipush 12, 2) := by decide +kernel
theorem dX14_scan_199 : decode cX14_scan 199 = .ok (.iadd, 1) := by decide +kernel
theorem dX14_scan_200 : decode cX14_scan 200 = .ok (.if_icmp .gt 15, 3) := by decide +kernel
theorem dX14_scan_203 : decode cX14_scan 203 = .ok (.aload_n 0, 1) := by decide +kernel
theorem dX14_scan_204 : decode cX14_scan 204 = .ok (.iload_n 1, 1) := by decide +kernel
theorem dX14_scan_205 : decode cX14_scan 205 = .ok (.bipush 6, 2) := by decide +kernel
theorem dX14_scan_207 : decode cX14_scan 207 = .ok (.iadd, 1) := by decide +kernel
theorem dX14_scan_208 : decode cX14_scan 208 = .ok (.iload_n 3, 1) := by decide +kernel
theorem dX14_scan_209 : decode cX14_scan 209 = .ok (.invokevirtual 151, 3) := by decide +kernel
theorem dX14_scan_212 : decode cX14_scan 212 = .ok (.goto 4, 3) := by decide +kernel
theorem dX14_scan_215 : decode cX14_scan 215 = .ok (.lconst 0, 1) := by decide +kernel
theorem dX14_scan_216 : decode cX14_scan 216 = .ok (.putfield 159, 3) := by decide +kernel
theorem dX14_scan_219 : decode cX14_scan 219 = .ok (.goto 105, 3) := by decide +kernel
theorem dX14_scan_222 : decode cX14_scan 222 = .ok (.iload_n 2, 1) := by decide +kernel
theorem dX14_scan_223 : decode cX14_scan 223 = .ok (.invokestatic 141, 3) := by decide +kernel
theorem dX14_scan_226 : decode cX14_scan 226 = .ok (.ifCond .eq 92, 3) := by decide +kernel
theorem dX14_scan_229 : decode cX14_scan 229 = .ok (.iconst 0, 1) := by decide +kernel
theorem dX14_scan_230 : decode cX14_scan 230 = .ok (.istore_n 3, 1) := by decide +kernel
theorem dX14_scan_231 : decode cX14_scan 231 = .ok (.aload_n 0, 1) := by decide +kernel
theorem dX14_scan_232 : decode cX14_scan 232 = .ok (.lconst 0, 1) := by decide +kernel
theorem dX14_scan_233 : decode cX14_scan 233 = .ok (.putfield 162, 3) := by decide +kernel
theorem dX14_scan_236 : decode cX14_scan 236 = .ok (.aload_n 0, 1) := by decide +kernel
theorem dX14_scan_237 : decode cX14_scan 237 = .ok (.iload_n 1, 1) := by decide +kernel
theorem dX14_scan_238 : decode cX14_scan 238 = .ok (.iload_n 3, 1) := by decide +kernel
theorem dX14_scan_239 : decode cX14_scan 239 = .ok (.iadd, 1) := by decide +kernel
theorem dX14_scan_240 : decode cX14_scan 240 = .ok (.invokevirtual 121, 3) := by decide +kernel
theorem dX14_scan_243 : decode cX14_scan 243 = .ok (.invokestatic 141, 3) := by decide +kernel
theorem dX14_scan_246 : decode cX14_scan 246 = .ok (.ifCond .eq 47, 3) := by decide +kernel
theorem dX14_scan_249 : decode cX14_scan 249 = .ok (.aload_n 0, 1) := by decide +kernel
theorem dX14_scan_250 : decode cX14_scan 250 = .ok (.iload_n 3, 1) := by decide +kernel
theorem dX14_scan_251 : decode cX14_scan 251 = .ok (.bipush 9, 2) := by decide +kernel
theorem dX14_scan_253 : decode cX14_scan 253 = .ok (.if_icmp .ge 27, 3) := by decide +kernel
theorem dX14_scan_256 : decode cX14_scan 256 = .ok (.ldc2_w 165, 3) := by decide +kernel
theorem dX14_scan_259 : decode cX14_scan 259 = .ok (.aload_n 0, 1) := by decide +kernel
theorem dX14_scan_260 : decode cX14_scan 260 = .ok (.getfield 162, 3) := by decide +kernel
theorem dX14_scan_263 : decode cX14_scan 263 = .ok (.lmul, 1) := by decide +kernel
theorem dX14_scan_264 : decode cX14_scan 264 = .ok (.aload_n 0, 1) := by decide +kernel
theorem dX14_scan_265 : decode cX14_scan 265 = .ok (.iload_n 1, 1) := by decide +kernel
theorem dX14_scan_266 : decode cX14_scan 266 = .ok (.iload_n 3, 1) := by decide +kernel
theorem dX14_scan_267 : decode cX14_scan 267 = .ok (.iadd, 1) := by decide +kernel
theorem dX14_scan_268 : decode cX14_scan 268 = .ok (.invokevirtual 121, 3) := by decide +kernel
theorem dX14_scan_271 : decode cX14_scan 271 = .ok (.i2l, 1) := by decide +kernel
theorem dX14_scan_272 : decode cX14_scan 272 = .ok (.ladd, 1) := by decide +kernel
theorem dX14_scan_273 : decode cX14_scan 273 = .ok (.ldc2_w 167, 3) := by decide +kernel
theorem dX14_scan_276 : decode cX14_scan 276 = .ok (.lsub, 1) := by decide +kernel
theorem dX14_scan_277 : decode cX14_scan 277 = .ok (.goto 7, 3) := by decide +kernel
theorem dX14_scan_280 : decode cX14_scan 280 = .ok (.aload_n 0, 1) := by decide +kernel
theorem dX14_scan_281 : decode cX14_scan 281 = .ok (.getfield 162, 3) := by decide +kernel
theorem dX14_scan_284 : decode cX14_scan 284 = .ok (.putfield 162, 3) := by decide +kernel
theorem dX14_scan_287 : decode cX14_scan 287 = .ok (.iinc 3 1, 3) := by decide +kernel
theorem dX14_scan_290 : decode cX14_scan 290 = .ok (.goto (-54), 3) := by decide +kernel
theorem dX14_scan_293 : decode cX14_scan 293 = .ok (.aload_n 0, 1) := by decide +kernel
theorem dX14_scan_294 : decode cX14_scan 294 = .ok (.iload_n 1, 1) := by decide +kernel
theorem dX14_scan_295 : decode cX14_scan 295 = .ok (.iload_n 3, 1) := by decide +kernel
theorem dX14_scan_296 : decode cX14_scan 296 = .ok (.iadd, 1) := by decide +kernel
theorem dX14_scan_297 : decode cX14_scan 297 = .ok (.putfield 125, 3) := by decide +kernel
theorem dX14_scan_300 : decode cX14_scan 300 = .ok (.aload_n 0, 1) := by decide +kernel
theorem dX14_scan_301 : decode cX14_scan 301 = .ok (.iload_n 3, 1) := by decide +kernel
theorem dX14_scan_302 : decode cX14_scan 302 = .ok (.bipush 9, 2) := by decide +kernel
theorem dX14_scan_304 : decode cX14_scan 304 = .ok (.if_icmp .le 7, 3) := by decide +kernel
theorem dX14_scan_307 : decode cX14_scan 307 = .ok (.iconst 0, 1) := by decide +kernel
theorem dX14_scan_308 : decode cX14_scan 308 = .ok (.goto 4, 3) := by decide +kernel
theorem dX14_scan_311 : decode cX14_scan 311 = .ok (.iconst 3, 1) := by decide +kernel
theorem dX14_scan_312 : decode cX14_scan 312 = .ok (.putfield 131, 3) := by decide +kernel
theorem dX14_scan_315 : decode cX14_scan 315 = .ok (.goto 9, 3) := by decide +kernel
theorem dX14_scan_318 : decode cX14_scan 318 = .ok (.aload_n 0, 1) := by decide +kernel
theorem dX14_scan_319 : decode cX14_scan 319 = .ok (.iload_n 1, 1) := by decide +kernel
theorem dX14_scan_320 : decode cX14_scan 320 = .ok (.iload_n 2, 1) := by decide +kernel
theorem dX14_scan_321 : decode cX14_scan 321 = .ok (.invokevirtual 169, 3) := by decide +kernel
theorem dX14_scan_324 : decode cX14_scan 324 = .ok (.return_, 1) := by decide +kernel
theorem dX14_scanSign_0 : decode cX14_scanSign 0 = .ok (.aload_n 0, 1) := by decide +kernel
theorem dX14_scanSign_1 : decode cX14_scanSign 1 = .ok (.iload_n 1, 1) := by decide +kernel
theorem dX14_scanSign_2 : decode cX14_scanSign 2 = .ok (.iconst 1, 1) := by decide +kernel
theorem dX14_scanSign_3 : decode cX14_scanSign 3 = .ok (.iadd, 1) := by decide +kernel
theorem dX14_scanSign_4 : decode cX14_scanSign 4 = .ok (.invokevirtual 121, 3) := by decide +kernel
theorem dX14_scanSign_7 : decode cX14_scanSign 7 = .ok (.istore_n 3, 1) := by decide +kernel
theorem dX14_scanSign_8 : decode cX14_scanSign 8 = .ok (.iload_n 3, 1) := by decide +kernel
theorem dX14_scanSign_9 : decode cX14_scanSign 9 = .ok (.bipush 61, 2) := by decide +kernel
theorem dX14_scanSign_11 : decode cX14_scanSign 11 = .ok (.if_icmp .ne 27, 3) := by decide +kernel
theorem dX14_scanSign_14 : decode cX14_scanSign 14 = .ok (.iload_n 2, 1) := by decide +kernel
theorem dX14_scanSign_15 : decode cX14_scanSign 15 = .ok (.bipush 61, 2) := by decide +kernel
theorem dX14_scanSign_17 : decode cX14_scanSign 17 = .ok (.if_icmp .eq 44, 3) := by decide +kernel
theorem dX14_scanSign_20 : decode cX14_scanSign 20 = .ok (.iload_n 2, 1) := by decide +kernel
theorem dX14_scanSign_21 : decode cX14_scanSign 21 = .ok (.bipush 33, 2) := by decide +kernel
theorem dX14_scanSign_23 : decode cX14_scanSign 23 = .ok (.if_icmp .eq 38, 3) := by decide +kernel
theorem dX14_scanSign_26 : decode cX14_scanSign 26 = .ok (.iload_n 2, 1) := by decide +kernel
theorem dX14_scanSign_27 : decode cX14_scanSign 27 = .ok (.bipush 60, 2) := by decide +kernel
theorem dX14_scanSign_29 : decode cX14_scanSign 29 = .ok (.if_icmp .eq 32, 3) := by decide +kernel
theorem dX14_scanSign_32 : decode cX14_scanSign 32 = .ok (.iload_n 2, 1) := by decide +kernel
theorem dX14_scanSign_33 : decode cX14_scanSign 33 = .ok (.bipush 62, 2) := by decide +kernel
theorem dX14_scanSign_35 : decode cX14_scanSign 35 = .ok (.if_icmp .eq 26, 3) := by decide +kernel
theorem dX14_scanSign_38 : decode cX14_scanSign 38 = .ok (.iload_n 2, 1) := by decide +kernel
theorem dX14_scanSign_39 : decode cX14_scanSign 39 = .ok (.iload_n 3, 1) := by decide +kernel
theorem dX14_scanSign_40 : decode cX14_scanSign 40 = .ok (.if_icmp .ne 25, 3) := by decide +kernel
theorem dX14_scanSign_43 : decode cX14_scanSign 43 = .ok (.iload_n 2, 1) := by decide +kernel
theorem dX14_scanSign_44 : decode cX14_scanSign 44 = .ok (.bipush 46, 2) := by decide +kernel
theorem dX14_scanSign_46 : decode cX14_scanSign 46 = .ok (.if_icmp .eq 15, 3) := by decide +kernel
theorem dX14_scanSign_49 : decode cX14_scanSign 49 = .ok (.iload_n 2, 1) := by decide +kernel
theorem dX14_scanSign_50 : decode cX14_scanSign 50 = .ok (.bipush 38, 2) := by decide +kernel
theorem dX14_scanSign_52 : decode cX14_scanSign 52 = .ok (.if_icmp .eq 9, 3) := by decide +kernel
theorem dX14_scanSign_55 : decode cX14_scanSign 55 = .ok (.iload_n 2, 1) := by decide +kernel
theorem dX14_scanSign_56 : decode cX14_scanSign 56 = .ok (.bipush 124, 2) := by decide +kernel
theorem dX14_scanSign_58 : decode cX14_scanSign 58 = .ok (.if_icmp .ne 7, 3) := by decide +kernel
theorem dX14_scanSign_61 : decode cX14_scanSign 61 = .ok (.iconst 1, 1) := by decide +kernel
theorem dX14_scanSign_62 : decode cX14_scanSign 62 = .ok (.goto 4, 3) := by decide +kernel
theorem dX14_scanSign_65 : decode cX14_scanSign 65 = .ok (.iconst 0, 1) := by decide +kernel
theorem dX14_scanSign_66 : decode cX14_scanSign 66 = .ok (.istore 4, 2) := by decide +kernel
theorem dX14_scanSign_68 : decode cX14_scanSign 68 = .ok (.iload_n 2, 1) := by decide +kernel
theorem dX14_scanSign_69 : decode cX14_scanSign 69 = .ok (.bipush 40, 2) := by decide +kernel
theorem dX14_scanSign_71 : decode cX14_scanSign 71 = .ok (.if_icmp .eq 105, 3) := by decide +kernel
theorem dX14_scanSign_74 : decode cX14_scanSign 74 = .ok (.iload_n 2, 1) := by decide +kernel
theorem dX14_scanSign_75 : decode cX14_scanSign 75 = .ok (.bipush 41, 2) := by decide +kernel
theorem dX14_scanSign_77 : decode cX14_scanSign 77 = .ok (.if_icmp .eq 99, 3) := by decide +kernel
theorem dX14_scanSign_80 : decode cX14_scanSign 80 = .ok (.iload_n 2, 1) := by decide +kernel
theorem dX14_scanSign_81 : decode cX14_scanSign 81 = .ok (.bipush 123, 2) := by decide +kernel
theorem dX14_scanSign_83 : decode cX14_scanSign 83 = .ok (.if_icmp .eq 93, 3) := by decide +kernel
theorem dX14_scanSign_86 : decode cX14_scanSign 86 = .ok (.iload_n 2, 1) := by decide +kernel
theorem dX14_scanSign_87 : decode cX14_scanSign 87 = .ok (.bipush 125, 2) := by decide +kernel
theorem dX14_scanSign_89 : decode cX14_scanSign 89 = .ok (.if_icmp .eq 87, 3) := by decide +kernel
theorem dX14_scanSign_92 : decode cX14_scanSign 92 = .ok (.iload_n 2, 1) := by decide +kernel
theorem dX14_scanSign_93 : decode cX14_scanSign 93 = .ok (.bipush 91, 2) := by decide +kernel
theorem dX14_scanSign_95 : decode cX14_scanSign 95 = .ok (.if_icmp .eq 81, 3) := by decide +kernel
theorem dX14_scanSign_98 : decode cX14_scanSign 98 = .ok (.iload_n 2, 1) := by decide +kernel
theorem dX14_scanSign_99 : decode cX14_scanSign 99 = .ok (.bipush 93, 2) := by decide +kernel
theorem dX14_scanSign_101 : decode cX14_scanSign 101 = .ok (.if_icmp .eq 75, 3) := by decide +kernel
theorem dX14_scanSign_104 : decode cX14_scanSign 104 = .ok (.iload_n 2, 1) := by decide +kernel
theorem dX14_scanSign_105 : decode cX14_scanSign 105 = .ok (.bipush 44, 2) := by decide +kernel
theorem dX14_scanSign_107 : decode cX14_scanSign 107 = .ok (.if_icmp .eq 69, 3) := by decide +kernel
theorem dX14_scanSign_110 : decode cX14_scanSign 110 = .ok (.iload_n 2, 1) := by decide +kernel
theorem dX14_scanSign_111 : decode cX14_scanSign 111 = .ok (.bipush 59, 2) := by decide +kernel
theorem dX14_scanSign_113 : decode cX14_scanSign 113 = .ok (.if_icmp .eq 63, 3) := by decide +kernel
theorem dX14_scanSign_116 : decode cX14_scanSign 116 = .ok (.iload_n 2, 1) := by decide +kernel
theorem dX14_scanSign_117 : decode cX14_scanSign 117 = .ok (.bipush 46, 2) := by decide +kernel
theorem dX14_scanSign_119 : decode cX14_scanSign 119 = .ok (.if_icmp .eq 57, 3) := by decide +kernel
theorem dX14_scanSign_122 : decode cX14_scanSign 122 = .ok (.iload_n 2, 1) := by decide +kernel
theorem dX14_scanSign_123 : decode cX14_scanSign 123 = .ok (.bipush 61, 2) := by decide +kernel
theorem dX14_scanSign_125 : decode cX14_scanSign 125 = .ok (.if_icmp .eq 51, 3) := by decide +kernel
theorem dX14_scanSign_128 : decode cX14_scanSign 128 = .ok (.iload_n 2, 1) := by decide +kernel
theorem dX14_scanSign_129 : decode cX14_scanSign 129 = .ok (.bipush 60, 2) := by decide +kernel
theorem dX14_scanSign_131 : decode cX14_scanSign 131 = .ok (.if_icmp .eq 45, 3) := by decide +kernel
theorem dX14_scanSign_134 : decode cX14_scanSign 134 = .ok (.iload_n 2, 1) := by decide +kernel
theorem dX14_scanSign_135 : decode cX14_scanSign 135 = .ok (.bipush 62, 2) := by decide +kernel
theorem dX14_scanSign_137 : decode cX14_scanSign 137 = .ok (.if_icmp .eq 39, 3) := by decide +kernel
theorem dX14_scanSign_140 : decode cX14_scanSign 140 = .ok (.iload_n 2, 1) := by decide +kernel
theorem dX14_scanSign_141 : decode cX14_scanSign 141 = .ok (.bipush 43, 2) := by decide +kernel
theorem dX14_scanSign_143 : decode cX14_scanSign 143 = .ok (.if_icmp .eq 33, 3) := by decide +kernel
theorem dX14_scanSign_146 : decode cX14_scanSign 146 = .ok (.iload_n 2, 1) := by decide +kernel
theorem dX14_scanSign_147 : decode cX14_scanSign 147 = .ok (.bipush 45, 2) := by decide +kernel
theorem dX14_scanSign_149 : decode cX14_scanSign 149 = .ok (.if_icmp .eq 27, 3) := by decide +kernel
theorem dX14_scanSign_152 : decode cX14_scanSign 152 = .ok (.iload_n 2, 1) := by decide +kernel
theorem dX14_scanSign_153 : decode cX14_scanSign 153 = .ok (.bipush 42, 2) := by decide +kernel
theorem dX14_scanSign_155 : decode cX14_scanSign 155 = .ok (.if_icmp .eq 21, 3) := by decide +kernel
theorem dX14_scanSign_158 : decode cX14_scanSign 158 = .ok (.iload_n 2, 1) := by decide +kernel
theorem dX14_scanSign_159 : decode cX14_scanSign 159 = .ok (.bipush 47, 2) := by decide +kernel
theorem dX14_scanSign_161 : decode cX14_scanSign 161 = .ok (.if_icmp .eq 15, 3) := by decide +kernel
theorem dX14_scanSign_164 : decode cX14_scanSign 164 = .ok (.iload_n 2, 1) := by decide +kernel
theorem dX14_scanSign_165 : decode cX14_scanSign 165 = .ok (.bipush 37, 2) := by decide +kernel
theorem dX14_scanSign_167 : decode cX14_scanSign 167 = .ok (.if_icmp .eq 9, 3) := by decide +kernel
theorem dX14_scanSign_170 : decode cX14_scanSign 170 = .ok (.iload_n 2, 1) := by decide +kernel
theorem dX14_scanSign_171 : decode cX14_scanSign 171 = .ok (.bipush 33, 2) := by decide +kernel
theorem dX14_scanSign_173 : decode cX14_scanSign 173 = .ok (.if_icmp .ne 7, 3) := by decide +kernel
theorem dX14_scanSign_176 : decode cX14_scanSign 176 = .ok (.iconst 1, 1) := by decide +kernel
theorem dX14_scanSign_177 : decode cX14_scanSign 177 = .ok (.goto 4, 3) := by decide +kernel
theorem dX14_scanSign_180 : decode cX14_scanSign 180 = .ok (.iconst 0, 1) := by decide +kernel
theorem dX14_scanSign_181 : decode cX14_scanSign 181 = .ok (.istore 5, 2) := by decide +kernel
theorem dX14_scanSign_183 : decode cX14_scanSign 183 = .ok (.aload_n 0, 1) := by decide +kernel
theorem dX14_scanSign_184 : decode cX14_scanSign 184 = .ok (.iload 4, 2) := by decide +kernel
theorem dX14_scanSign_186 : decode cX14_scanSign 186 = .ok (.ifCond .eq 13, 3) := by decide +kernel
theorem dX14_scanSign_189 : decode cX14_scanSign 189 = .ok (.sipush 256, 3) := by decide +kernel
theorem dX14_scanSign_192 : decode cX14_scanSign 192 = .ok (.iload_n 2, 1) := by decide +kernel
theorem dX14_scanSign_193 : decode cX14_scanSign 193 = .ok (.imul, 1) := by decide +kernel
theorem dX14_scanSign_194 : decode cX14_scanSign 194 = .ok (.iload_n 3, 1) := by decide +kernel
theorem dX14_scanSign_195 : decode cX14_scanSign 195 = .ok (.iadd, 1) := by decide +kernel
theorem dX14_scanSign_196 : decode cX14_scanSign 196 = .ok (.goto 4, 3) := by decide +kernel
theorem dX14_scanSign_199 : decode cX14_scanSign 199 = .ok (.iload_n 2, 1) := by decide +kernel
theorem dX14_scanSign_200 : decode cX14_scanSign 200 = .ok (.putfield 148, 3) := by decide +kernel
theorem dX14_scanSign_203 : decode cX14_scanSign 203 = .ok (.aload_n 0, 1) := by decide +kernel
theorem dX14_scanSign_204 : decode cX14_scanSign 204 = .ok (.iload 4, 2) := by decide +kernel
theorem dX14_scanSign_206 : decode cX14_scanSign 206 = .ok (.ifCond .eq 9, 3) := by decide +kernel
theorem dX14_scanSign_209 : decode cX14_scanSign 209 = .ok (.iload_n 1, 1) := by decide +kernel
theorem dX14_scanSign_210 : decode cX14_scanSign 210 = .ok (.iconst 2, 1) := by decide +kernel
theorem dX14_scanSign_211 : decode cX14_scanSign 211 = .ok (.iadd, 1) := by decide +kernel
theorem dX14_scanSign_212 : decode cX14_scanSign 212 = .ok (.goto 6, 3) := by decide +kernel
theorem dX14_scanSign_215 : decode cX14_scanSign 215 = .ok (.iload_n 1, 1) := by decide +kernel
theorem dX14_scanSign_216 : decode cX14_scanSign 216 = .ok (.iconst 1, 1) := by decide +kernel
theorem dX14_scanSign_217 : decode cX14_scanSign 217 = .ok (.iadd, 1) := by decide +kernel
theorem dX14_scanSign_218 : decode cX14_scanSign 218 = .ok (.putfield 125, 3) := by decide +kernel
theorem dX14_scanSign_221 : decode cX14_scanSign 221 = .ok (.aload_n 0, 1) := by decide +kernel
theorem dX14_scanSign_222 : decode cX14_scanSign 222 = .ok (.iload 4, 2) := by decide +kernel
theorem dX14_scanSign_224 : decode cX14_scanSign 224 = .ok (.ifCond .ne 8, 3) := by decide +kernel
theorem dX14_scanSign_227 : decode cX14_scanSign 227 = .ok (.iload 5, 2) := by decide +kernel
theorem dX14_scanSign_229 : decode cX14_scanSign 229 = .ok (.ifCond .eq 7, 3) := by decide +kernel
theorem dX14_scanSign_232 : decode cX14_scanSign 232 = .ok (.iconst 4, 1) := by decide +kernel
theorem dX14_scanSign_233 : decode cX14_scanSign 233 = .ok (.goto 4, 3) := by decide +kernel
theorem dX14_scanSign_236 : decode cX14_scanSign 236 = .ok (.iconst 0, 1) := by decide +kernel
theorem dX14_scanSign_237 : decode cX14_scanSign 237 = .ok (.putfield 131, 3) := by decide +kernel
theorem dX14_scanSign_240 : decode cX14_scanSign 240 = .ok (.return_, 1) := by decide +kernel
theorem dX14_next_0 : decode cX14_next 0 = .ok (.aload_n 0, 1) := by decide +kernel
theorem dX14_next_1 : decode cX14_next 1 = .ok (.invokevirtual 176, 3) := by decide +kernel
theorem dX14_next_4 : decode cX14_next 4 = .ok (.aload_n 0, 1) := by decide +kernel
theorem dX14_next_5 : decode cX14_next 5 = .ok (.invokevirtual 179, 3) := by decide +kernel
theorem dX14_next_8 : decode cX14_next 8 = .ok (.return_, 1) := by decide +kernel
theorem dX14_sign_0 : decode cX14_sign 0 = .ok (.aload_n 0, 1) := by decide +kernel
theorem dX14_sign_1 : decode cX14_sign 1 = .ok (.aload_n 0, 1) := by decide +kernel
theorem dX14_sign_2 : decode cX14_sign 2 = .ok (.iload_n 1, 1) := by decide +kernel
theorem dX14_sign_3 : decode cX14_sign 3 = .ok (.invokevirtual 182, 3) := by decide +kernel
theorem dX14_sign_6 : decode cX14_sign 6 = .ok (.iconst 1, 1) := by decide +kernel
theorem dX14_sign_7 : decode cX14_sign 7 = .ok (.aload_n 0, 1) := by decide +kernel
theorem dX14_sign_8 : decode cX14_sign 8 = .ok (.getfield 128, 3) := by decide +kernel
theorem dX14_sign_11 : decode cX14_sign 11 = .ok (.invokevirtual 172, 3) := by decide +kernel
theorem dX14_sign_14 : decode cX14_sign 14 = .ok (.aload_n 0, 1) := by decide +kernel
theorem dX14_sign_15 : decode cX14_sign 15 = .ok (.invokevirtual 185, 3) := by decide +kernel
theorem dX14_sign_18 : decode cX14_sign 18 = .ok (.return_, 1) := by decide +kernel
theorem dX14_word_0 : decode cX14_word 0 = .ok (.aload_n 0, 1) := by decide +kernel
theorem dX14_word_1 : decode cX14_word 1 = .ok (.aload_n 0, 1) := by decide +kernel
theorem dX14_word_2 : decode cX14_word 2 = .ok (.iload_n 1, 1) := by decide +kernel
theorem dX14_word_3 : decode cX14_word 3 = .ok (.invokevirtual 188, 3) := by decide +kernel
theorem dX14_word_6 : decode cX14_word 6 = .ok (.iconst 1, 1) := by decide +kernel
theorem dX14_word_7 : decode cX14_word 7 = .ok (.aload_n 0, 1) := by decide +kernel
theorem dX14_word_8 : decode cX14_word 8 = .ok (.getfield 128, 3) := by decide +kernel
theorem dX14_word_11 : decode cX14_word 11 = .ok (.invokevirtual 172, 3) := by decide +kernel
theorem dX14_word_14 : decode cX14_word 14 = .ok (.aload_n 0, 1) := by decide +kernel
theorem dX14_word_15 : decode cX14_word 15 = .ok (.invokevirtual 185, 3) := by decide +kernel
theorem dX14_word_18 : decode cX14_word 18 = .ok (.return_, 1) := by decide +kernel
theorem dX14_takes_0 : decode cX14_takes 0 = .ok (.aload_n 0, 1) := by decide +kernel
theorem dX14_takes_1 : decode cX14_takes 1 = .ok (.iload_n 1, 1) := by decide +kernel
theorem dX14_takes_2 : decode cX14_takes 2 = .ok (.invokevirtual 188, 3) := by decide +kernel
theorem dX14_takes_5 : decode cX14_takes 5 = .ok (.istore_n 2, 1) := by decide +kernel
theorem dX14_takes_6 : decode cX14_takes 6 = .ok (.iload_n 2, 1) := by decide +kernel
theorem dX14_takes_7 : decode cX14_takes 7 = .ok (.ifCond .eq 7, 3) := by decide +kernel
theorem dX14_takes_10 : decode cX14_takes 10 = .ok (.aload_n 0, 1) := by decide +kernel
theorem dX14_takes_11 : decode cX14_takes 11 = .ok (.invokevirtual 185, 3) := by decide +kernel
theorem dX14_takes_14 : decode cX14_takes 14 = .ok (.iload_n 2, 1) := by decide +kernel
theorem dX14_takes_15 : decode cX14_takes 15 = .ok (.ireturn, 1) := by decide +kernel
theorem dX14_numHere_0 : decode cX14_numHere 0 = .ok (.aload_n 0, 1) := by decide +kernel
theorem dX14_numHere_1 : decode cX14_numHere 1 = .ok (.bipush 45, 2) := by decide +kernel
theorem dX14_numHere_3 : decode cX14_numHere 3 = .ok (.invokevirtual 182, 3) := by decide +kernel
theorem dX14_numHere_6 : decode cX14_numHere 6 = .ok (.istore_n 1, 1) := by decide +kernel
theorem dX14_numHere_7 : decode cX14_numHere 7 = .ok (.iload_n 1, 1) := by decide +kernel
theorem dX14_numHere_8 : decode cX14_numHere 8 = .ok (.ifCond .eq 7, 3) := by decide +kernel
theorem dX14_numHere_11 : decode cX14_numHere 11 = .ok (.aload_n 0, 1) := by decide +kernel
theorem dX14_numHere_12 : decode cX14_numHere 12 = .ok (.invokevirtual 185, 3) := by decide +kernel
theorem dX14_numHere_15 : decode cX14_numHere 15 = .ok (.aload_n 0, 1) := by decide +kernel
theorem dX14_numHere_16 : decode cX14_numHere 16 = .ok (.aload_n 0, 1) := by decide +kernel
theorem dX14_numHere_17 : decode cX14_numHere 17 = .ok (.getfield 131, 3) := by decide +kernel
theorem dX14_numHere_20 : decode cX14_numHere 20 = .ok (.iconst 3, 1) := by decide +kernel
theorem dX14_numHere_21 : decode cX14_numHere 21 = .ok (.if_icmp .ne 7, 3) := by decide +kernel
theorem dX14_numHere_24 : decode cX14_numHere 24 = .ok (.iconst 1, 1) := by decide +kernel
theorem dX14_numHere_25 : decode cX14_numHere 25 = .ok (.goto 4, 3) := by decide +kernel
theorem dX14_numHere_28 : decode cX14_numHere 28 = .ok (.iconst 0, 1) := by decide +kernel
theorem dX14_numHere_29 : decode cX14_numHere 29 = .ok (.iconst 1, 1) := by decide +kernel
theorem dX14_numHere_30 : decode cX14_numHere 30 = .ok (.aload_n 0, 1) := by decide +kernel
theorem dX14_numHere_31 : decode cX14_numHere 31 = .ok (.getfield 128, 3) := by decide +kernel
theorem dX14_numHere_34 : decode cX14_numHere 34 = .ok (.invokevirtual 172, 3) := by decide +kernel
theorem dX14_numHere_37 : decode cX14_numHere 37 = .ok (.iload_n 1, 1) := by decide +kernel
theorem dX14_numHere_38 : decode cX14_numHere 38 = .ok (.ifCond .eq 11, 3) := by decide +kernel
theorem dX14_numHere_41 : decode cX14_numHere 41 = .ok (.aload_n 0, 1) := by decide +kernel
theorem dX14_numHere_42 : decode cX14_numHere 42 = .ok (.getfield 162, 3) := by decide +kernel
theorem dX14_numHere_45 : decode cX14_numHere 45 = .ok (.lneg, 1) := by decide +kernel
theorem dX14_numHere_46 : decode cX14_numHere 46 = .ok (.goto 7, 3) := by decide +kernel
theorem dX14_numHere_49 : decode cX14_numHere 49 = .ok (.aload_n 0, 1) := by decide +kernel
theorem dX14_numHere_50 : decode cX14_numHere 50 = .ok (.getfield 162, 3) := by decide +kernel
theorem dX14_numHere_53 : decode cX14_numHere 53 = .ok (.l2i, 1) := by decide +kernel
theorem dX14_numHere_54 : decode cX14_numHere 54 = .ok (.istore_n 2, 1) := by decide +kernel
theorem dX14_numHere_55 : decode cX14_numHere 55 = .ok (.aload_n 0, 1) := by decide +kernel
theorem dX14_numHere_56 : decode cX14_numHere 56 = .ok (.invokevirtual 185, 3) := by decide +kernel
theorem dX14_numHere_59 : decode cX14_numHere 59 = .ok (.iload_n 2, 1) := by decide +kernel
theorem dX14_numHere_60 : decode cX14_numHere 60 = .ok (.ireturn, 1) := by decide +kernel
theorem dX14_opening_0 : decode cX14_opening 0 = .ok (.aload_n 0, 1) := by decide +kernel
theorem dX14_opening_1 : decode cX14_opening 1 = .ok (.aload_n 0, 1) := by decide +kernel
theorem dX14_opening_2 : decode cX14_opening 2 = .ok (.iload_n 1, 1) := by decide +kernel
theorem dX14_opening_3 : decode cX14_opening 3 = .ok (.invokevirtual 182, 3) := by decide +kernel
theorem dX14_opening_6 : decode cX14_opening 6 = .ok (.iconst 1, 1) := by decide +kernel
theorem dX14_opening_7 : decode cX14_opening 7 = .ok (.aload_n 0, 1) := by decide +kernel
theorem dX14_opening_8 : decode cX14_opening 8 = .ok (.getfield 128, 3) := by decide +kernel
theorem dX14_opening_11 : decode cX14_opening 11 = .ok (.invokevirtual 172, 3) := by decide +kernel
theorem dX14_opening_14 : decode cX14_opening 14 = .ok (.aload_n 0, 1) := by decide +kernel
theorem dX14_opening_15 : decode cX14_opening 15 = .ok (.aload_n 0, 1) := by decide +kernel
theorem dX14_opening_16 : decode cX14_opening 16 = .ok (.getfield 128, 3) := by decide +kernel
theorem dX14_opening_19 : decode cX14_opening 19 = .ok (.invokevirtual 263, 3) := by decide +kernel
theorem dX14_opening_22 : decode cX14_opening 22 = .ok (.aload_n 0, 1) := by decide +kernel
theorem dX14_opening_23 : decode cX14_opening 23 = .ok (.invokevirtual 185, 3) := by decide +kernel
theorem dX14_opening_26 : decode cX14_opening 26 = .ok (.return_, 1) := by decide +kernel
theorem dJ0_length_8abf5_0 : decode cJ0_length_8abf5 0 = .ok (.aload_n 0, 1) := by decide +kernel
theorem dJ0_length_8abf5_1 : decode cJ0_length_8abf5 1 = .ok (.getfield 9, 3) := by decide +kernel
theorem dJ0_length_8abf5_4 : decode cJ0_length_8abf5 4 = .ok (.arraylength, 1) := by decide +kernel
theorem dJ0_length_8abf5_5 : decode cJ0_length_8abf5 5 = .ok (.aload_n 0, 1) := by decide +kernel
theorem dJ0_length_8abf5_6 : decode cJ0_length_8abf5 6 = .ok (.invokevirtual 335, 3) := by decide +kernel
theorem dJ0_length_8abf5_9 : decode cJ0_length_8abf5 9 = .ok (.ishr, 1) := by decide +kernel
theorem dJ0_length_8abf5_10 : decode cJ0_length_8abf5 10 = .ok (.ireturn, 1) := by decide +kernel
theorem dJ0_charAt_5068e_0 : decode cJ0_charAt_5068e 0 = .ok (.aload_n 0, 1) := by decide +kernel
theorem dJ0_charAt_5068e_1 : decode cJ0_charAt_5068e 1 = .ok (.invokevirtual 492, 3) := by decide +kernel
theorem dJ0_charAt_5068e_4 : decode cJ0_charAt_5068e 4 = .ok (.ifCond .eq 12, 3) := by decide +kernel
theorem dJ0_charAt_5068e_7 : decode cJ0_charAt_5068e 7 = .ok (.aload_n 0, 1) := by decide +kernel
theorem dJ0_charAt_5068e_8 : decode cJ0_charAt_5068e 8 = .ok (.getfield 9, 3) := by decide +kernel
theorem dJ0_charAt_5068e_11 : decode cJ0_charAt_5068e 11 = .ok (.iload_n 1, 1) := by decide +kernel
theorem dJ0_charAt_5068e_12 : decode cJ0_charAt_5068e 12 = .ok (.invokestatic 495, 3) := by decide +kernel
theorem dJ0_charAt_5068e_15 : decode cJ0_charAt_5068e 15 = .ok (.ireturn, 1) := by decide +kernel
theorem dJ0_charAt_5068e_16 : decode cJ0_charAt_5068e 16 = .ok (.aload_n 0, 1) := by decide +kernel
theorem dJ0_charAt_5068e_17 : decode cJ0_charAt_5068e 17 = .ok (.getfield 9, 3) := by decide +kernel
theorem dJ0_charAt_5068e_20 : decode cJ0_charAt_5068e 20 = .ok (.iload_n 1, 1) := by decide +kernel
theorem dJ0_charAt_5068e_21 : decode cJ0_charAt_5068e 21 = .ok (.invokestatic 498, 3) := by decide +kernel
theorem dJ0_charAt_5068e_24 : decode cJ0_charAt_5068e 24 = .ok (.ireturn, 1) := by decide +kernel
theorem dJ0_coder_7d493_0 : decode cJ0_coder_7d493 0 = .ok (.getstatic 38, 3) := by decide +kernel
theorem dJ0_coder_7d493_3 : decode cJ0_coder_7d493 3 = .ok (.ifCond .eq 10, 3) := by decide +kernel
theorem dJ0_coder_7d493_6 : decode cJ0_coder_7d493 6 = .ok (.aload_n 0, 1) := by decide +kernel
theorem dJ0_coder_7d493_7 : decode cJ0_coder_7d493 7 = .ok (.getfield 15, 3) := by decide +kernel
theorem dJ0_coder_7d493_10 : decode cJ0_coder_7d493 10 = .ok (.goto 4, 3) := by decide +kernel
theorem dJ0_coder_7d493_13 : decode cJ0_coder_7d493 13 = .ok (.iconst 1, 1) := by decide +kernel
theorem dJ0_coder_7d493_14 : decode cJ0_coder_7d493 14 = .ok (.ireturn, 1) := by decide +kernel
theorem dJ0_isLatin1_aae02_0 : decode cJ0_isLatin1_aae02 0 = .ok (.getstatic 38, 3) := by decide +kernel
theorem dJ0_isLatin1_aae02_3 : decode cJ0_isLatin1_aae02 3 = .ok (.ifCond .eq 14, 3) := by decide +kernel
theorem dJ0_isLatin1_aae02_6 : decode cJ0_isLatin1_aae02 6 = .ok (.aload_n 0, 1) := by decide +kernel
theorem dJ0_isLatin1_aae02_7 : decode cJ0_isLatin1_aae02 7 = .ok (.getfield 15, 3) := by decide +kernel
theorem dJ0_isLatin1_aae02_10 : decode cJ0_isLatin1_aae02 10 = .ok (.ifCond .ne 7, 3) := by decide +kernel
theorem dJ0_isLatin1_aae02_13 : decode cJ0_isLatin1_aae02 13 = .ok (.iconst 1, 1) := by decide +kernel
theorem dJ0_isLatin1_aae02_14 : decode cJ0_isLatin1_aae02 14 = .ok (.goto 4, 3) := by decide +kernel
theorem dJ0_isLatin1_aae02_17 : decode cJ0_isLatin1_aae02 17 = .ok (.iconst 0, 1) := by decide +kernel
theorem dJ0_isLatin1_aae02_18 : decode cJ0_isLatin1_aae02 18 = .ok (.ireturn, 1) := by decide +kernel
theorem dJ0_checkIndex_df160_0 : decode cJ0_checkIndex_df160 0 = .ok (.iload_n 0, 1) := by decide +kernel
theorem dJ0_checkIndex_df160_1 : decode cJ0_checkIndex_df160 1 = .ok (.iload_n 1, 1) := by decide +kernel
theorem dJ0_checkIndex_df160_2 : decode cJ0_checkIndex_df160 2 = .ok (.getstatic 1053, 3) := by decide +kernel
theorem dJ0_checkIndex_df160_5 : decode cJ0_checkIndex_df160 5 = .ok (.invokestatic 1059, 3) := by decide +kernel
theorem dJ0_checkIndex_df160_8 : decode cJ0_checkIndex_df160 8 = .ok (.pop, 1) := by decide +kernel
theorem dJ0_checkIndex_df160_9 : decode cJ0_checkIndex_df160 9 = .ok (.return_, 1) := by decide +kernel
theorem dJ1_charAt_3b067_0 : decode cJ1_charAt_3b067 0 = .ok (.iload_n 1, 1) := by decide +kernel
theorem dJ1_charAt_3b067_1 : decode cJ1_charAt_3b067 1 = .ok (.aload_n 0, 1) := by decide +kernel
theorem dJ1_charAt_3b067_2 : decode cJ1_charAt_3b067 2 = .ok (.arraylength, 1) := by decide +kernel
theorem dJ1_charAt_3b067_3 : decode cJ1_charAt_3b067 3 = .ok (.invokestatic 9, 3) := by decide +kernel
theorem dJ1_charAt_3b067_6 : decode cJ1_charAt_3b067 6 = .ok (.aload_n 0, 1) := by decide +kernel
theorem dJ1_charAt_3b067_7 : decode cJ1_charAt_3b067 7 = .ok (.iload_n 1, 1) := by decide +kernel
theorem dJ1_charAt_3b067_8 : decode cJ1_charAt_3b067 8 = .ok (.baload, 1) := by decide +kernel
theorem dJ1_charAt_3b067_9 : decode cJ1_charAt_3b067 9 = .ok (.sipush 255, 3) := by decide +kernel
theorem dJ1_charAt_3b067_12 : decode cJ1_charAt_3b067 12 = .ok (.iand, 1) := by decide +kernel
theorem dJ1_charAt_3b067_13 : decode cJ1_charAt_3b067 13 = .ok (.i2c, 1) := by decide +kernel
theorem dJ1_charAt_3b067_14 : decode cJ1_charAt_3b067 14 = .ok (.ireturn, 1) := by decide +kernel
theorem dJ3_checkIndex_8e157_0 : decode cJ3_checkIndex_8e157 0 = .ok (.iload_n 0, 1) := by decide +kernel
theorem dJ3_checkIndex_8e157_1 : decode cJ3_checkIndex_8e157 1 = .ok (.ifCond .lt 8, 3) := by decide +kernel
theorem dJ3_checkIndex_8e157_4 : decode cJ3_checkIndex_8e157 4 = .ok (.iload_n 0, 1) := by decide +kernel
theorem dJ3_checkIndex_8e157_5 : decode cJ3_checkIndex_8e157 5 = .ok (.iload_n 1, 1) := by decide +kernel
theorem dJ3_checkIndex_8e157_6 : decode cJ3_checkIndex_8e157 6 = .ok (.if_icmp .lt 10, 3) := by decide +kernel
theorem dJ3_checkIndex_8e157_9 : decode cJ3_checkIndex_8e157 9 = .ok (.aload_n 2, 1) := by decide +kernel
theorem dJ3_checkIndex_8e157_10 : decode cJ3_checkIndex_8e157 10 = .ok (.iload_n 0, 1) := by decide +kernel
theorem dJ3_checkIndex_8e157_11 : decode cJ3_checkIndex_8e157 11 = .ok (.iload_n 1, 1) := by decide +kernel
theorem dJ3_checkIndex_8e157_12 : decode cJ3_checkIndex_8e157 12 = .ok (.invokestatic 95, 3) := by decide +kernel
theorem dJ3_checkIndex_8e157_15 : decode cJ3_checkIndex_8e157 15 = .ok (.athrow, 1) := by decide +kernel
theorem dJ3_checkIndex_8e157_16 : decode cJ3_checkIndex_8e157 16 = .ok (.iload_n 0, 1) := by decide +kernel
theorem dJ3_checkIndex_8e157_17 : decode cJ3_checkIndex_8e157 17 = .ok (.ireturn, 1) := by decide +kernel
