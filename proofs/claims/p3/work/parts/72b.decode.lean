theorem dX0_read_0 : decode cX0_read 0 = .ok (.aload_n 0, 1) := by decide +kernel
theorem dX0_read_1 : decode cX0_read 1 = .ok (.aload_n 0, 1) := by decide +kernel
theorem dX0_read_2 : decode cX0_read 2 = .ok (.getfield 15, 3) := by decide +kernel
theorem dX0_read_5 : decode cX0_read 5 = .ok (.getfield 38, 3) := by decide +kernel
theorem dX0_read_8 : decode cX0_read 8 = .ok (.putfield 44, 3) := by decide +kernel
theorem dX0_read_11 : decode cX0_read 11 = .ok (.aload_n 0, 1) := by decide +kernel
theorem dX0_read_12 : decode cX0_read 12 = .ok (.iconst 0, 1) := by decide +kernel
theorem dX0_read_13 : decode cX0_read 13 = .ok (.putfield 45, 3) := by decide +kernel
theorem dX0_read_16 : decode cX0_read 16 = .ok (.aload_n 0, 1) := by decide +kernel
theorem dX0_read_17 : decode cX0_read 17 = .ok (.iconst 0, 1) := by decide +kernel
theorem dX0_read_18 : decode cX0_read 18 = .ok (.putfield 49, 3) := by decide +kernel
theorem dX0_read_21 : decode cX0_read 21 = .ok (.aload_n 0, 1) := by decide +kernel
theorem dX0_read_22 : decode cX0_read 22 = .ok (.iconst 0, 1) := by decide +kernel
theorem dX0_read_23 : decode cX0_read 23 = .ok (.putfield 52, 3) := by decide +kernel
theorem dX0_read_26 : decode cX0_read 26 = .ok (.aload_n 0, 1) := by decide +kernel
theorem dX0_read_27 : decode cX0_read 27 = .ok (.iconst 1, 1) := by decide +kernel
theorem dX0_read_28 : decode cX0_read 28 = .ok (.putfield 55, 3) := by decide +kernel
theorem dX0_read_31 : decode cX0_read 31 = .ok (.aload_n 0, 1) := by decide +kernel
theorem dX0_read_32 : decode cX0_read 32 = .ok (.iconst 0, 1) := by decide +kernel
theorem dX0_read_33 : decode cX0_read 33 = .ok (.putfield 59, 3) := by decide +kernel
theorem dX0_read_36 : decode cX0_read 36 = .ok (.iconst 0, 1) := by decide +kernel
theorem dX0_read_37 : decode cX0_read 37 = .ok (.istore_n 1, 1) := by decide +kernel
theorem dX0_read_38 : decode cX0_read 38 = .ok (.iload_n 1, 1) := by decide +kernel
theorem dX0_read_39 : decode cX0_read 39 = .ok (.sipush 2400, 3) := by decide +kernel
theorem dX0_read_42 : decode cX0_read 42 = .ok (.if_icmp .gt 186, 3) := by decide +kernel
theorem dX0_read_45 : decode cX0_read 45 = .ok (.aload_n 0, 1) := by decide +kernel
theorem dX0_read_46 : decode cX0_read 46 = .ok (.getfield 59, 3) := by decide +kernel
theorem dX0_read_49 : decode cX0_read 49 = .ok (.ifCond .ne 179, 3) := by decide +kernel
theorem dX0_read_52 : decode cX0_read 52 = .ok (.aload_n 0, 1) := by decide +kernel
theorem dX0_read_53 : decode cX0_read 53 = .ok (.getfield 9, 3) := by decide +kernel
theorem dX0_read_56 : decode cX0_read 56 = .ok (.getfield 64, 3) := by decide +kernel
theorem dX0_read_59 : decode cX0_read 59 = .ok (.ifCond .ne 169, 3) := by decide +kernel
theorem dX0_read_62 : decode cX0_read 62 = .ok (.aload_n 0, 1) := by decide +kernel
theorem dX0_read_63 : decode cX0_read 63 = .ok (.getfield 9, 3) := by decide +kernel
theorem dX0_read_66 : decode cX0_read 66 = .ok (.invokevirtual 67, 3) := by decide +kernel
theorem dX0_read_69 : decode cX0_read 69 = .ok (.istore_n 2, 1) := by decide +kernel
theorem dX0_read_70 : decode cX0_read 70 = .ok (.aload_n 0, 1) := by decide +kernel
theorem dX0_read_71 : decode cX0_read 71 = .ok (.getfield 55, 3) := by decide +kernel
theorem dX0_read_74 : decode cX0_read 74 = .ok (.ifCond .ne 11, 3) := by decide +kernel
theorem dX0_read_77 : decode cX0_read 77 = .ok (.aload_n 0, 1) := by decide +kernel
theorem dX0_read_78 : decode cX0_read 78 = .ok (.iload_n 2, 1) := by decide +kernel
theorem dX0_read_79 : decode cX0_read 79 = .ok (.invokevirtual 71, 3) := by decide +kernel
theorem dX0_read_82 : decode cX0_read 82 = .ok (.goto 140, 3) := by decide +kernel
theorem dX0_read_85 : decode cX0_read 85 = .ok (.iload_n 2, 1) := by decide +kernel
theorem dX0_read_86 : decode cX0_read 86 = .ok (.iconst 3, 1) := by decide +kernel
theorem dX0_read_87 : decode cX0_read 87 = .ok (.if_icmp .ne 10, 3) := by decide +kernel
theorem dX0_read_90 : decode cX0_read 90 = .ok (.aload_n 0, 1) := by decide +kernel
theorem dX0_read_91 : decode cX0_read 91 = .ok (.invokevirtual 75, 3) := by decide +kernel
theorem dX0_read_94 : decode cX0_read 94 = .ok (.goto 128, 3) := by decide +kernel
theorem dX0_read_97 : decode cX0_read 97 = .ok (.iload_n 2, 1) := by decide +kernel
theorem dX0_read_98 : decode cX0_read 98 = .ok (.iconst 4, 1) := by decide +kernel
theorem dX0_read_99 : decode cX0_read 99 = .ok (.if_icmp .ne 10, 3) := by decide +kernel
theorem dX0_read_102 : decode cX0_read 102 = .ok (.aload_n 0, 1) := by decide +kernel
theorem dX0_read_103 : decode cX0_read 103 = .ok (.invokevirtual 78, 3) := by decide +kernel
theorem dX0_read_106 : decode cX0_read 106 = .ok (.goto 116, 3) := by decide +kernel
theorem dX0_read_109 : decode cX0_read 109 = .ok (.iload_n 2, 1) := by decide +kernel
theorem dX0_read_110 : decode cX0_read 110 = .ok (.bipush 40, 2) := by decide +kernel
theorem dX0_read_112 : decode cX0_read 112 = .ok (.if_icmp .eq 15, 3) := by decide +kernel
theorem dX0_read_115 : decode cX0_read 115 = .ok (.iload_n 2, 1) := by decide +kernel
theorem dX0_read_116 : decode cX0_read 116 = .ok (.bipush 45, 2) := by decide +kernel
theorem dX0_read_118 : decode cX0_read 118 = .ok (.if_icmp .eq 9, 3) := by decide +kernel
theorem dX0_read_121 : decode cX0_read 121 = .ok (.iload_n 2, 1) := by decide +kernel
theorem dX0_read_122 : decode cX0_read 122 = .ok (.bipush 33, 2) := by decide +kernel
theorem dX0_read_124 : decode cX0_read 124 = .ok (.if_icmp .ne 11, 3) := by decide +kernel
theorem dX0_read_127 : decode cX0_read 127 = .ok (.aload_n 0, 1) := by decide +kernel
theorem dX0_read_128 : decode cX0_read 128 = .ok (.iload_n 2, 1) := by decide +kernel
theorem dX0_read_129 : decode cX0_read 129 = .ok (.invokevirtual 81, 3) := by decide +kernel
theorem dX0_read_132 : decode cX0_read 132 = .ok (.goto 90, 3) := by decide +kernel
theorem dX0_read_135 : decode cX0_read 135 = .ok (.iload_n 2, 1) := by decide +kernel
theorem dX0_read_136 : decode cX0_read 136 = .ok (.bipush 11, 2) := by decide +kernel
theorem dX0_read_138 : decode cX0_read 138 = .ok (.if_icmp .ne 10, 3) := by decide +kernel
theorem dX0_read_141 : decode cX0_read 141 = .ok (.aload_n 0, 1) := by decide +kernel
theorem dX0_read_142 : decode cX0_read 142 = .ok (.invokevirtual 84, 3) := by decide +kernel
theorem dX0_read_145 : decode cX0_read 145 = .ok (.goto 77, 3) := by decide +kernel
theorem dX0_read_148 : decode cX0_read 148 = .ok (.iload_n 2, 1) := by decide +kernel
theorem dX0_read_149 : decode cX0_read 149 = .ok (.bipush 30, 2) := by decide +kernel
theorem dX0_read_151 : decode cX0_read 151 = .ok (.if_icmp .ne 10, 3) := by decide +kernel
theorem dX0_read_154 : decode cX0_read 154 = .ok (.aload_n 0, 1) := by decide +kernel
theorem dX0_read_155 : decode cX0_read 155 = .ok (.invokevirtual 87, 3) := by decide +kernel
theorem dX0_read_158 : decode cX0_read 158 = .ok (.goto 64, 3) := by decide +kernel
theorem dX0_read_161 : decode cX0_read 161 = .ok (.iload_n 2, 1) := by decide +kernel
theorem dX0_read_162 : decode cX0_read 162 = .ok (.bipush 28, 2) := by decide +kernel
theorem dX0_read_164 : decode cX0_read 164 = .ok (.if_icmp .ne 20, 3) := by decide +kernel
theorem dX0_read_167 : decode cX0_read 167 = .ok (.aload_n 0, 1) := by decide +kernel
theorem dX0_read_168 : decode cX0_read 168 = .ok (.getfield 15, 3) := by decide +kernel
theorem dX0_read_171 : decode cX0_read 171 = .ok (.getfield 90, 3) := by decide +kernel
theorem dX0_read_174 : decode cX0_read 174 = .ok (.ifCond .eq 10, 3) := by decide +kernel
theorem dX0_read_177 : decode cX0_read 177 = .ok (.aload_n 0, 1) := by decide +kernel
theorem dX0_read_178 : decode cX0_read 178 = .ok (.invokevirtual 93, 3) := by decide +kernel
theorem dX0_read_181 : decode cX0_read 181 = .ok (.goto 41, 3) := by decide +kernel
theorem dX0_read_184 : decode cX0_read 184 = .ok (.iload_n 2, 1) := by decide +kernel
theorem dX0_read_185 : decode cX0_read 185 = .ok (.bipush 29, 2) := by decide +kernel
theorem dX0_read_187 : decode cX0_read 187 = .ok (.if_icmp .ne 20, 3) := by decide +kernel
theorem dX0_read_190 : decode cX0_read 190 = .ok (.aload_n 0, 1) := by decide +kernel
theorem dX0_read_191 : decode cX0_read 191 = .ok (.getfield 15, 3) := by decide +kernel
theorem dX0_read_194 : decode cX0_read 194 = .ok (.getfield 90, 3) := by decide +kernel
theorem dX0_read_197 : decode cX0_read 197 = .ok (.ifCond .eq 10, 3) := by decide +kernel
theorem dX0_read_200 : decode cX0_read 200 = .ok (.aload_n 0, 1) := by decide +kernel
theorem dX0_read_201 : decode cX0_read 201 = .ok (.invokevirtual 96, 3) := by decide +kernel
theorem dX0_read_204 : decode cX0_read 204 = .ok (.goto 18, 3) := by decide +kernel
theorem dX0_read_207 : decode cX0_read 207 = .ok (.aload_n 0, 1) := by decide +kernel
theorem dX0_read_208 : decode cX0_read 208 = .ok (.getfield 9, 3) := by decide +kernel
theorem dX0_read_211 : decode cX0_read 211 = .ok (.iconst 1, 1) := by decide +kernel
theorem dX0_read_212 : decode cX0_read 212 = .ok (.aload_n 0, 1) := by decide +kernel
theorem dX0_read_213 : decode cX0_read 213 = .ok (.getfield 9, 3) := by decide +kernel
theorem dX0_read_216 : decode cX0_read 216 = .ok (.invokevirtual 99, 3) := by decide +kernel
theorem dX0_read_219 : decode cX0_read 219 = .ok (.invokevirtual 102, 3) := by decide +kernel
theorem dX0_read_222 : decode cX0_read 222 = .ok (.iinc 1 1, 3) := by decide +kernel
theorem dX0_read_225 : decode cX0_read 225 = .ok (.goto (-187), 3) := by decide +kernel
theorem dX0_read_228 : decode cX0_read 228 = .ok (.return_, 1) := by decide +kernel
theorem dX0_push_0 : decode cX0_push 0 = .ok (.aload_n 0, 1) := by decide +kernel
theorem dX0_push_1 : decode cX0_push 1 = .ok (.getfield 45, 3) := by decide +kernel
theorem dX0_push_4 : decode cX0_push 4 = .ok (.sipush 300, 3) := by decide +kernel
theorem dX0_push_7 : decode cX0_push 7 = .ok (.if_icmp .ge 63, 3) := by decide +kernel
theorem dX0_push_10 : decode cX0_push 10 = .ok (.aload_n 0, 1) := by decide +kernel
theorem dX0_push_11 : decode cX0_push 11 = .ok (.getfield 19, 3) := by decide +kernel
theorem dX0_push_14 : decode cX0_push 14 = .ok (.aload_n 0, 1) := by decide +kernel
theorem dX0_push_15 : decode cX0_push 15 = .ok (.getfield 45, 3) := by decide +kernel
theorem dX0_push_18 : decode cX0_push 18 = .ok (.iload_n 1, 1) := by decide +kernel
theorem dX0_push_19 : decode cX0_push 19 = .ok (.iastore, 1) := by decide +kernel
theorem dX0_push_20 : decode cX0_push 20 = .ok (.aload_n 0, 1) := by decide +kernel
theorem dX0_push_21 : decode cX0_push 21 = .ok (.getfield 23, 3) := by decide +kernel
theorem dX0_push_24 : decode cX0_push 24 = .ok (.aload_n 0, 1) := by decide +kernel
theorem dX0_push_25 : decode cX0_push 25 = .ok (.getfield 45, 3) := by decide +kernel
theorem dX0_push_28 : decode cX0_push 28 = .ok (.iload_n 2, 1) := by decide +kernel
theorem dX0_push_29 : decode cX0_push 29 = .ok (.iastore, 1) := by decide +kernel
theorem dX0_push_30 : decode cX0_push 30 = .ok (.aload_n 0, 1) := by decide +kernel
theorem dX0_push_31 : decode cX0_push 31 = .ok (.getfield 26, 3) := by decide +kernel
theorem dX0_push_34 : decode cX0_push 34 = .ok (.aload_n 0, 1) := by decide +kernel
theorem dX0_push_35 : decode cX0_push 35 = .ok (.getfield 45, 3) := by decide +kernel
theorem dX0_push_38 : decode cX0_push 38 = .ok (.iload_n 3, 1) := by decide +kernel
theorem dX0_push_39 : decode cX0_push 39 = .ok (.iastore, 1) := by decide +kernel
theorem dX0_push_40 : decode cX0_push 40 = .ok (.aload_n 0, 1) := by decide +kernel
theorem dX0_push_41 : decode cX0_push 41 = .ok (.getfield 29, 3) := by decide +kernel
theorem dX0_push_44 : decode cX0_push 44 = .ok (.aload_n 0, 1) := by decide +kernel
theorem dX0_push_45 : decode cX0_push 45 = .ok (.getfield 45, 3) := by decide +kernel
theorem dX0_push_48 : decode cX0_push 48 = .ok (.iconst 0, 1) := by decide +kernel
theorem dX0_push_49 : decode cX0_push 49 = .ok (.iastore, 1) := by decide +kernel
theorem dX0_push_50 : decode cX0_push 50 = .ok (.aload_n 0, 1) := by decide +kernel
theorem dX0_push_51 : decode cX0_push 51 = .ok (.getfield 32, 3) := by decide +kernel
theorem dX0_push_54 : decode cX0_push 54 = .ok (.aload_n 0, 1) := by decide +kernel
theorem dX0_push_55 : decode cX0_push 55 = .ok (.getfield 45, 3) := by decide +kernel
theorem dX0_push_58 : decode cX0_push 58 = .ok (.iconst 0, 1) := by decide +kernel
theorem dX0_push_59 : decode cX0_push 59 = .ok (.iastore, 1) := by decide +kernel
theorem dX0_push_60 : decode cX0_push 60 = .ok (.aload_n 0, 1) := by decide +kernel
theorem dX0_push_61 : decode cX0_push 61 = .ok (.dup, 1) := by decide +kernel
theorem dX0_push_62 : decode cX0_push 62 = .ok (.getfield 45, 3) := by decide +kernel
theorem dX0_push_65 : decode cX0_push 65 = .ok (.iconst 1, 1) := by decide +kernel
theorem dX0_push_66 : decode cX0_push 66 = .ok (.iadd, 1) := by decide +kernel
theorem dX0_push_67 : decode cX0_push 67 = .ok (.putfield 45, 3) := by decide +kernel
theorem dX0_push_70 : decode cX0_push 70 = .ok (.return_, 1) := by decide +kernel
theorem dX0_addWhole_0 : decode cX0_addWhole 0 = .ok (.aload_n 0, 1) := by decide +kernel
theorem dX0_addWhole_1 : decode cX0_addWhole 1 = .ok (.getfield 49, 3) := by decide +kernel
theorem dX0_addWhole_4 : decode cX0_addWhole 4 = .ok (.sipush 300, 3) := by decide +kernel
theorem dX0_addWhole_7 : decode cX0_addWhole 7 = .ok (.if_icmp .ge 23, 3) := by decide +kernel
theorem dX0_addWhole_10 : decode cX0_addWhole 10 = .ok (.aload_n 0, 1) := by decide +kernel
theorem dX0_addWhole_11 : decode cX0_addWhole 11 = .ok (.getfield 35, 3) := by decide +kernel
theorem dX0_addWhole_14 : decode cX0_addWhole 14 = .ok (.aload_n 0, 1) := by decide +kernel
theorem dX0_addWhole_15 : decode cX0_addWhole 15 = .ok (.getfield 49, 3) := by decide +kernel
theorem dX0_addWhole_18 : decode cX0_addWhole 18 = .ok (.iload_n 1, 1) := by decide +kernel
theorem dX0_addWhole_19 : decode cX0_addWhole 19 = .ok (.iastore, 1) := by decide +kernel
theorem dX0_addWhole_20 : decode cX0_addWhole 20 = .ok (.aload_n 0, 1) := by decide +kernel
theorem dX0_addWhole_21 : decode cX0_addWhole 21 = .ok (.dup, 1) := by decide +kernel
theorem dX0_addWhole_22 : decode cX0_addWhole 22 = .ok (.getfield 49, 3) := by decide +kernel
theorem dX0_addWhole_25 : decode cX0_addWhole 25 = .ok (.iconst 1, 1) := by decide +kernel
theorem dX0_addWhole_26 : decode cX0_addWhole 26 = .ok (.iadd, 1) := by decide +kernel
theorem dX0_addWhole_27 : decode cX0_addWhole 27 = .ok (.putfield 49, 3) := by decide +kernel
theorem dX0_addWhole_30 : decode cX0_addWhole 30 = .ok (.aload_n 0, 1) := by decide +kernel
theorem dX0_addWhole_31 : decode cX0_addWhole 31 = .ok (.iconst 0, 1) := by decide +kernel
theorem dX0_addWhole_32 : decode cX0_addWhole 32 = .ok (.putfield 55, 3) := by decide +kernel
theorem dX0_addWhole_35 : decode cX0_addWhole 35 = .ok (.return_, 1) := by decide +kernel
theorem dX0_takeHeight_0 : decode cX0_takeHeight 0 = .ok (.aload_n 0, 1) := by decide +kernel
theorem dX0_takeHeight_1 : decode cX0_takeHeight 1 = .ok (.getfield 49, 3) := by decide +kernel
theorem dX0_takeHeight_4 : decode cX0_takeHeight 4 = .ok (.ifCond .le 13, 3) := by decide +kernel
theorem dX0_takeHeight_7 : decode cX0_takeHeight 7 = .ok (.aload_n 0, 1) := by decide +kernel
theorem dX0_takeHeight_8 : decode cX0_takeHeight 8 = .ok (.dup, 1) := by decide +kernel
theorem dX0_takeHeight_9 : decode cX0_takeHeight 9 = .ok (.getfield 49, 3) := by decide +kernel
theorem dX0_takeHeight_12 : decode cX0_takeHeight 12 = .ok (.iconst 1, 1) := by decide +kernel
theorem dX0_takeHeight_13 : decode cX0_takeHeight 13 = .ok (.isub, 1) := by decide +kernel
theorem dX0_takeHeight_14 : decode cX0_takeHeight 14 = .ok (.putfield 49, 3) := by decide +kernel
theorem dX0_takeHeight_17 : decode cX0_takeHeight 17 = .ok (.aload_n 0, 1) := by decide +kernel
theorem dX0_takeHeight_18 : decode cX0_takeHeight 18 = .ok (.getfield 35, 3) := by decide +kernel
theorem dX0_takeHeight_21 : decode cX0_takeHeight 21 = .ok (.aload_n 0, 1) := by decide +kernel
theorem dX0_takeHeight_22 : decode cX0_takeHeight 22 = .ok (.getfield 49, 3) := by decide +kernel
theorem dX0_takeHeight_25 : decode cX0_takeHeight 25 = .ok (.iaload, 1) := by decide +kernel
theorem dX0_takeHeight_26 : decode cX0_takeHeight 26 = .ok (.ireturn, 1) := by decide +kernel
theorem dX0_readNumber_0 : decode cX0_readNumber 0 = .ok (.aload_n 0, 1) := by decide +kernel
theorem dX0_readNumber_1 : decode cX0_readNumber 1 = .ok (.getfield 44, 3) := by decide +kernel
theorem dX0_readNumber_4 : decode cX0_readNumber 4 = .ok (.iconst 1, 1) := by decide +kernel
theorem dX0_readNumber_5 : decode cX0_readNumber 5 = .ok (.aload_n 0, 1) := by decide +kernel
theorem dX0_readNumber_6 : decode cX0_readNumber 6 = .ok (.getfield 9, 3) := by decide +kernel
theorem dX0_readNumber_9 : decode cX0_readNumber 9 = .ok (.invokevirtual 108, 3) := by decide +kernel
theorem dX0_readNumber_12 : decode cX0_readNumber 12 = .ok (.l2i, 1) := by decide +kernel
theorem dX0_readNumber_13 : decode cX0_readNumber 13 = .ok (.invokevirtual 112, 3) := by decide +kernel
theorem dX0_readNumber_16 : decode cX0_readNumber 16 = .ok (.aload_n 0, 1) := by decide +kernel
theorem dX0_readNumber_17 : decode cX0_readNumber 17 = .ok (.getfield 44, 3) := by decide +kernel
theorem dX0_readNumber_20 : decode cX0_readNumber 20 = .ok (.dup, 1) := by decide +kernel
theorem dX0_readNumber_21 : decode cX0_readNumber 21 = .ok (.getfield 117, 3) := by decide +kernel
theorem dX0_readNumber_24 : decode cX0_readNumber 24 = .ok (.iconst 1, 1) := by decide +kernel
theorem dX0_readNumber_25 : decode cX0_readNumber 25 = .ok (.iadd, 1) := by decide +kernel
theorem dX0_readNumber_26 : decode cX0_readNumber 26 = .ok (.putfield 117, 3) := by decide +kernel
theorem dX0_readNumber_29 : decode cX0_readNumber 29 = .ok (.aload_n 0, 1) := by decide +kernel
theorem dX0_readNumber_30 : decode cX0_readNumber 30 = .ok (.getfield 9, 3) := by decide +kernel
theorem dX0_readNumber_33 : decode cX0_readNumber 33 = .ok (.invokevirtual 120, 3) := by decide +kernel
theorem dX0_readNumber_36 : decode cX0_readNumber 36 = .ok (.aload_n 0, 1) := by decide +kernel
theorem dX0_readNumber_37 : decode cX0_readNumber 37 = .ok (.iconst 1, 1) := by decide +kernel
theorem dX0_readNumber_38 : decode cX0_readNumber 38 = .ok (.invokevirtual 123, 3) := by decide +kernel
theorem dX0_readNumber_41 : decode cX0_readNumber 41 = .ok (.return_, 1) := by decide +kernel
theorem dX0_readResult_0 : decode cX0_readResult 0 = .ok (.aload_n 0, 1) := by decide +kernel
theorem dX0_readResult_1 : decode cX0_readResult 1 = .ok (.getfield 44, 3) := by decide +kernel
theorem dX0_readResult_4 : decode cX0_readResult 4 = .ok (.iconst 5, 1) := by decide +kernel
theorem dX0_readResult_5 : decode cX0_readResult 5 = .ok (.iconst 0, 1) := by decide +kernel
theorem dX0_readResult_6 : decode cX0_readResult 6 = .ok (.invokevirtual 112, 3) := by decide +kernel
theorem dX0_readResult_9 : decode cX0_readResult 9 = .ok (.aload_n 0, 1) := by decide +kernel
theorem dX0_readResult_10 : decode cX0_readResult 10 = .ok (.getfield 44, 3) := by decide +kernel
theorem dX0_readResult_13 : decode cX0_readResult 13 = .ok (.dup, 1) := by decide +kernel
theorem dX0_readResult_14 : decode cX0_readResult 14 = .ok (.getfield 117, 3) := by decide +kernel
theorem dX0_readResult_17 : decode cX0_readResult 17 = .ok (.iconst 1, 1) := by decide +kernel
theorem dX0_readResult_18 : decode cX0_readResult 18 = .ok (.iadd, 1) := by decide +kernel
theorem dX0_readResult_19 : decode cX0_readResult 19 = .ok (.putfield 117, 3) := by decide +kernel
theorem dX0_readResult_22 : decode cX0_readResult 22 = .ok (.aload_n 0, 1) := by decide +kernel
theorem dX0_readResult_23 : decode cX0_readResult 23 = .ok (.getfield 9, 3) := by decide +kernel
theorem dX0_readResult_26 : decode cX0_readResult 26 = .ok (.invokevirtual 120, 3) := by decide +kernel
theorem dX0_readResult_29 : decode cX0_readResult 29 = .ok (.aload_n 0, 1) := by decide +kernel
theorem dX0_readResult_30 : decode cX0_readResult 30 = .ok (.iconst 1, 1) := by decide +kernel
theorem dX0_readResult_31 : decode cX0_readResult 31 = .ok (.invokevirtual 123, 3) := by decide +kernel
theorem dX0_readResult_34 : decode cX0_readResult 34 = .ok (.return_, 1) := by decide +kernel
theorem dX0_openSign_0 : decode cX0_openSign 0 = .ok (.aload_n 0, 1) := by decide +kernel
theorem dX0_openSign_1 : decode cX0_openSign 1 = .ok (.getfield 52, 3) := by decide +kernel
theorem dX0_openSign_4 : decode cX0_openSign 4 = .ok (.bipush 40, 2) := by decide +kernel
theorem dX0_openSign_6 : decode cX0_openSign 6 = .ok (.if_icmp .lt 18, 3) := by decide +kernel
theorem dX0_openSign_9 : decode cX0_openSign 9 = .ok (.aload_n 0, 1) := by decide +kernel
theorem dX0_openSign_10 : decode cX0_openSign 10 = .ok (.getfield 9, 3) := by decide +kernel
theorem dX0_openSign_13 : decode cX0_openSign 13 = .ok (.iconst 4, 1) := by decide +kernel
theorem dX0_openSign_14 : decode cX0_openSign 14 = .ok (.aload_n 0, 1) := by decide +kernel
theorem dX0_openSign_15 : decode cX0_openSign 15 = .ok (.getfield 9, 3) := by decide +kernel
theorem dX0_openSign_18 : decode cX0_openSign 18 = .ok (.invokevirtual 99, 3) := by decide +kernel
theorem dX0_openSign_21 : decode cX0_openSign 21 = .ok (.invokevirtual 102, 3) := by decide +kernel
theorem dX0_openSign_24 : decode cX0_openSign 24 = .ok (.iload_n 1, 1) := by decide +kernel
theorem dX0_openSign_25 : decode cX0_openSign 25 = .ok (.bipush 45, 2) := by decide +kernel
theorem dX0_openSign_27 : decode cX0_openSign 27 = .ok (.if_icmp .ne 8, 3) := by decide +kernel
theorem dX0_openSign_30 : decode cX0_openSign 30 = .ok (.bipush 6, 2) := by decide +kernel
theorem dX0_openSign_32 : decode cX0_openSign 32 = .ok (.goto 5, 3) := by decide +kernel
theorem dX0_openSign_35 : decode cX0_openSign 35 = .ok (.bipush 7, 2) := by decide +kernel
theorem dX0_openSign_37 : decode cX0_openSign 37 = .ok (.istore_n 2, 1) := by decide +kernel
theorem dX0_openSign_38 : decode cX0_openSign 38 = .ok (.aload_n 0, 1) := by decide +kernel
theorem dX0_openSign_39 : decode cX0_openSign 39 = .ok (.iload_n 1, 1) := by decide +kernel
theorem dX0_openSign_40 : decode cX0_openSign 40 = .ok (.bipush 40, 2) := by decide +kernel
theorem dX0_openSign_42 : decode cX0_openSign 42 = .ok (.if_icmp .ne 7, 3) := by decide +kernel
theorem dX0_openSign_45 : decode cX0_openSign 45 = .ok (.iconst 1, 1) := by decide +kernel
theorem dX0_openSign_46 : decode cX0_openSign 46 = .ok (.goto 4, 3) := by decide +kernel
theorem dX0_openSign_49 : decode cX0_openSign 49 = .ok (.iload_n 2, 1) := by decide +kernel
theorem dX0_openSign_50 : decode cX0_openSign 50 = .ok (.aload_n 0, 1) := by decide +kernel
theorem dX0_openSign_51 : decode cX0_openSign 51 = .ok (.getfield 9, 3) := by decide +kernel
theorem dX0_openSign_54 : decode cX0_openSign 54 = .ok (.invokevirtual 99, 3) := by decide +kernel
theorem dX0_openSign_57 : decode cX0_openSign 57 = .ok (.iconst 0, 1) := by decide +kernel
theorem dX0_openSign_58 : decode cX0_openSign 58 = .ok (.invokevirtual 126, 3) := by decide +kernel
theorem dX0_openSign_61 : decode cX0_openSign 61 = .ok (.aload_n 0, 1) := by decide +kernel
theorem dX0_openSign_62 : decode cX0_openSign 62 = .ok (.getfield 44, 3) := by decide +kernel
theorem dX0_openSign_65 : decode cX0_openSign 65 = .ok (.dup, 1) := by decide +kernel
theorem dX0_openSign_66 : decode cX0_openSign 66 = .ok (.getfield 117, 3) := by decide +kernel
theorem dX0_openSign_69 : decode cX0_openSign 69 = .ok (.iload_n 1, 1) := by decide +kernel
theorem dX0_openSign_70 : decode cX0_openSign 70 = .ok (.bipush 40, 2) := by decide +kernel
theorem dX0_openSign_72 : decode cX0_openSign 72 = .ok (.if_icmp .ne 7, 3) := by decide +kernel
theorem dX0_openSign_75 : decode cX0_openSign 75 = .ok (.iconst 0, 1) := by decide +kernel
theorem dX0_openSign_76 : decode cX0_openSign 76 = .ok (.goto 4, 3) := by decide +kernel
theorem dX0_openSign_79 : decode cX0_openSign 79 = .ok (.iconst 1, 1) := by decide +kernel
theorem dX0_openSign_80 : decode cX0_openSign 80 = .ok (.iadd, 1) := by decide +kernel
theorem dX0_openSign_81 : decode cX0_openSign 81 = .ok (.putfield 117, 3) := by decide +kernel
theorem dX0_openSign_84 : decode cX0_openSign 84 = .ok (.aload_n 0, 1) := by decide +kernel
theorem dX0_openSign_85 : decode cX0_openSign 85 = .ok (.dup, 1) := by decide +kernel
theorem dX0_openSign_86 : decode cX0_openSign 86 = .ok (.getfield 52, 3) := by decide +kernel
theorem dX0_openSign_89 : decode cX0_openSign 89 = .ok (.iconst 1, 1) := by decide +kernel
theorem dX0_openSign_90 : decode cX0_openSign 90 = .ok (.iadd, 1) := by decide +kernel
theorem dX0_openSign_91 : decode cX0_openSign 91 = .ok (.putfield 52, 3) := by decide +kernel
theorem dX0_openSign_94 : decode cX0_openSign 94 = .ok (.aload_n 0, 1) := by decide +kernel
theorem dX0_openSign_95 : decode cX0_openSign 95 = .ok (.getfield 9, 3) := by decide +kernel
theorem dX0_openSign_98 : decode cX0_openSign 98 = .ok (.invokevirtual 120, 3) := by decide +kernel
theorem dX0_openSign_101 : decode cX0_openSign 101 = .ok (.return_, 1) := by decide +kernel
theorem dX0_readName_0 : decode cX0_readName 0 = .ok (.aload_n 0, 1) := by decide +kernel
theorem dX0_readName_1 : decode cX0_readName 1 = .ok (.getfield 9, 3) := by decide +kernel
theorem dX0_readName_4 : decode cX0_readName 4 = .ok (.invokevirtual 108, 3) := by decide +kernel
theorem dX0_readName_7 : decode cX0_readName 7 = .ok (.lstore_n 1, 1) := by decide +kernel
theorem dX0_readName_8 : decode cX0_readName 8 = .ok (.aload_n 0, 1) := by decide +kernel
theorem dX0_readName_9 : decode cX0_readName 9 = .ok (.getfield 9, 3) := by decide +kernel
theorem dX0_readName_12 : decode cX0_readName 12 = .ok (.invokevirtual 99, 3) := by decide +kernel
theorem dX0_readName_15 : decode cX0_readName 15 = .ok (.istore_n 3, 1) := by decide +kernel
theorem dX0_readName_16 : decode cX0_readName 16 = .ok (.aload_n 0, 1) := by decide +kernel
theorem dX0_readName_17 : decode cX0_readName 17 = .ok (.getfield 9, 3) := by decide +kernel
theorem dX0_readName_20 : decode cX0_readName 20 = .ok (.invokevirtual 120, 3) := by decide +kernel
theorem dX0_readName_23 : decode cX0_readName 23 = .ok (.aload_n 0, 1) := by decide +kernel
theorem dX0_readName_24 : decode cX0_readName 24 = .ok (.getfield 9, 3) := by decide +kernel
theorem dX0_readName_27 : decode cX0_readName 27 = .ok (.invokevirtual 130, 3) := by decide +kernel
theorem dX0_readName_30 : decode cX0_readName 30 = .ok (.ifCond .eq 100, 3) := by decide +kernel
theorem dX0_readName_33 : decode cX0_readName 33 = .ok (.aload_n 0, 1) := by decide +kernel
theorem dX0_readName_34 : decode cX0_readName 34 = .ok (.getfield 44, 3) := by decide +kernel
theorem dX0_readName_37 : decode cX0_readName 37 = .ok (.aload_n 0, 1) := by decide +kernel
theorem dX0_readName_38 : decode cX0_readName 38 = .ok (.getfield 15, 3) := by decide +kernel
theorem dX0_readName_41 : decode cX0_readName 41 = .ok (.getfield 134, 3) := by decide +kernel
theorem dX0_readName_44 : decode cX0_readName 44 = .ok (.lload_n 1, 1) := by decide +kernel
theorem dX0_readName_45 : decode cX0_readName 45 = .ok (.invokevirtual 138, 3) := by decide +kernel
theorem dX0_readName_48 : decode cX0_readName 48 = .ok (.istore 4, 2) := by decide +kernel
theorem dX0_readName_50 : decode cX0_readName 50 = .ok (.iload 4, 2) := by decide +kernel
theorem dX0_readName_52 : decode cX0_readName 52 = .ok (.iconst (-1), 1) := by decide +kernel
theorem dX0_readName_53 : decode cX0_readName 53 = .ok (.if_icmp .ne 13, 3) := by decide +kernel
theorem dX0_readName_56 : decode cX0_readName 56 = .ok (.aload_n 0, 1) := by decide +kernel
theorem dX0_readName_57 : decode cX0_readName 57 = .ok (.getfield 9, 3) := by decide +kernel
theorem dX0_readName_60 : decode cX0_readName 60 = .ok (.iconst 2, 1) := by decide +kernel
theorem dX0_readName_61 : decode cX0_readName 61 = .ok (.iload_n 3, 1) := by decide +kernel
theorem dX0_readName_62 : decode cX0_readName 62 = .ok (.invokevirtual 102, 3) := by decide +kernel
theorem dX0_readName_65 : decode cX0_readName 65 = .ok (.return_, 1) := by decide +kernel
theorem dX0_readName_66 : decode cX0_readName 66 = .ok (.aload_n 0, 1) := by decide +kernel
theorem dX0_readName_67 : decode cX0_readName 67 = .ok (.getfield 44, 3) := by decide +kernel
theorem dX0_readName_70 : decode cX0_readName 70 = .ok (.getfield 142, 3) := by decide +kernel
theorem dX0_readName_73 : decode cX0_readName 73 = .ok (.aload_n 0, 1) := by decide +kernel
theorem dX0_readName_74 : decode cX0_readName 74 = .ok (.getfield 15, 3) := by decide +kernel
theorem dX0_readName_77 : decode cX0_readName 77 = .ok (.getfield 134, 3) := by decide +kernel
theorem dX0_readName_80 : decode cX0_readName 80 = .ok (.getfield 146, 3) := by decide +kernel
theorem dX0_readName_83 : decode cX0_readName 83 = .ok (.iload 4, 2) := by decide +kernel
theorem dX0_readName_85 : decode cX0_readName 85 = .ok (.iaload, 1) := by decide +kernel
theorem dX0_readName_86 : decode cX0_readName 86 = .ok (.aaload, 1) := by decide +kernel
theorem dX0_readName_87 : decode cX0_readName 87 = .ok (.astore 5, 2) := by decide +kernel
theorem dX0_readName_89 : decode cX0_readName 89 = .ok (.aload_n 0, 1) := by decide +kernel
theorem dX0_readName_90 : decode cX0_readName 90 = .ok (.getfield 15, 3) := by decide +kernel
theorem dX0_readName_93 : decode cX0_readName 93 = .ok (.getfield 151, 3) := by decide +kernel
theorem dX0_readName_96 : decode cX0_readName 96 = .ok (.ifCond .eq 20, 3) := by decide +kernel
theorem dX0_readName_99 : decode cX0_readName 99 = .ok (.aload 5, 2) := by decide +kernel
theorem dX0_readName_101 : decode cX0_readName 101 = .ok (.getfield 154, 3) := by decide +kernel
theorem dX0_readName_104 : decode cX0_readName 104 = .ok (.ifCond .ne 12, 3) := by decide +kernel
theorem dX0_readName_107 : decode cX0_readName 107 = .ok (.aload_n 0, 1) := by decide +kernel
theorem dX0_readName_108 : decode cX0_readName 108 = .ok (.getfield 9, 3) := by decide +kernel
theorem dX0_readName_111 : decode cX0_readName 111 = .ok (.iconst 5, 1) := by decide +kernel
theorem dX0_readName_112 : decode cX0_readName 112 = .ok (.iload_n 3, 1) := by decide +kernel
theorem dX0_readName_113 : decode cX0_readName 113 = .ok (.invokevirtual 102, 3) := by decide +kernel
theorem dX0_readName_116 : decode cX0_readName 116 = .ok (.aload_n 0, 1) := by decide +kernel
theorem dX0_readName_117 : decode cX0_readName 117 = .ok (.iconst 2, 1) := by decide +kernel
theorem dX0_readName_118 : decode cX0_readName 118 = .ok (.iload_n 3, 1) := by decide +kernel
theorem dX0_readName_119 : decode cX0_readName 119 = .ok (.iload 4, 2) := by decide +kernel
theorem dX0_readName_121 : decode cX0_readName 121 = .ok (.aload 5, 2) := by decide +kernel
theorem dX0_readName_123 : decode cX0_readName 123 = .ok (.getfield 159, 3) := by decide +kernel
theorem dX0_readName_126 : decode cX0_readName 126 = .ok (.invokevirtual 162, 3) := by decide +kernel
theorem dX0_readName_129 : decode cX0_readName 129 = .ok (.return_, 1) := by decide +kernel
theorem dX0_readName_130 : decode cX0_readName 130 = .ok (.aload_n 0, 1) := by decide +kernel
theorem dX0_readName_131 : decode cX0_readName 131 = .ok (.getfield 15, 3) := by decide +kernel
theorem dX0_readName_134 : decode cX0_readName 134 = .ok (.lload_n 1, 1) := by decide +kernel
theorem dX0_readName_135 : decode cX0_readName 135 = .ok (.invokevirtual 166, 3) := by decide +kernel
theorem dX0_readName_138 : decode cX0_readName 138 = .ok (.istore 4, 2) := by decide +kernel
theorem dX0_readName_140 : decode cX0_readName 140 = .ok (.iload 4, 2) := by decide +kernel
theorem dX0_readName_142 : decode cX0_readName 142 = .ok (.iconst (-1), 1) := by decide +kernel
theorem dX0_readName_143 : decode cX0_readName 143 = .ok (.if_icmp .ne 13, 3) := by decide +kernel
theorem dX0_readName_146 : decode cX0_readName 146 = .ok (.aload_n 0, 1) := by decide +kernel
theorem dX0_readName_147 : decode cX0_readName 147 = .ok (.getfield 9, 3) := by decide +kernel
theorem dX0_readName_150 : decode cX0_readName 150 = .ok (.iconst 2, 1) := by decide +kernel
theorem dX0_readName_151 : decode cX0_readName 151 = .ok (.iload_n 3, 1) := by decide +kernel
theorem dX0_readName_152 : decode cX0_readName 152 = .ok (.invokevirtual 102, 3) := by decide +kernel
theorem dX0_readName_155 : decode cX0_readName 155 = .ok (.return_, 1) := by decide +kernel
theorem dX0_readName_156 : decode cX0_readName 156 = .ok (.aload_n 0, 1) := by decide +kernel
theorem dX0_readName_157 : decode cX0_readName 157 = .ok (.getfield 44, 3) := by decide +kernel
theorem dX0_readName_160 : decode cX0_readName 160 = .ok (.dup, 1) := by decide +kernel
theorem dX0_readName_161 : decode cX0_readName 161 = .ok (.getfield 117, 3) := by decide +kernel
theorem dX0_readName_164 : decode cX0_readName 164 = .ok (.iconst 1, 1) := by decide +kernel
theorem dX0_readName_165 : decode cX0_readName 165 = .ok (.iadd, 1) := by decide +kernel
theorem dX0_readName_166 : decode cX0_readName 166 = .ok (.putfield 117, 3) := by decide +kernel
theorem dX0_readName_169 : decode cX0_readName 169 = .ok (.aload_n 0, 1) := by decide +kernel
theorem dX0_readName_170 : decode cX0_readName 170 = .ok (.getfield 15, 3) := by decide +kernel
theorem dX0_readName_173 : decode cX0_readName 173 = .ok (.getfield 134, 3) := by decide +kernel
theorem dX0_readName_176 : decode cX0_readName 176 = .ok (.iload 4, 2) := by decide +kernel
theorem dX0_readName_178 : decode cX0_readName 178 = .ok (.invokevirtual 170, 3) := by decide +kernel
theorem dX0_readName_181 : decode cX0_readName 181 = .ok (.aload_n 0, 1) := by decide +kernel
theorem dX0_readName_182 : decode cX0_readName 182 = .ok (.getfield 9, 3) := by decide +kernel
theorem dX0_readName_185 : decode cX0_readName 185 = .ok (.invokevirtual 67, 3) := by decide +kernel
theorem dX0_readName_188 : decode cX0_readName 188 = .ok (.bipush 91, 2) := by decide +kernel
theorem dX0_readName_190 : decode cX0_readName 190 = .ok (.if_icmp .ne 7, 3) := by decide +kernel
theorem dX0_readName_193 : decode cX0_readName 193 = .ok (.iconst 1, 1) := by decide +kernel
theorem dX0_readName_194 : decode cX0_readName 194 = .ok (.goto 4, 3) := by decide +kernel
theorem dX0_readName_197 : decode cX0_readName 197 = .ok (.iconst 0, 1) := by decide +kernel
theorem dX0_readName_198 : decode cX0_readName 198 = .ok (.if_icmp .eq 15, 3) := by decide +kernel
theorem dX0_readName_201 : decode cX0_readName 201 = .ok (.aload_n 0, 1) := by decide +kernel
theorem dX0_readName_202 : decode cX0_readName 202 = .ok (.getfield 9, 3) := by decide +kernel
theorem dX0_readName_205 : decode cX0_readName 205 = .ok (.iconst 5, 1) := by decide +kernel
theorem dX0_readName_206 : decode cX0_readName 206 = .ok (.iload_n 3, 1) := by decide +kernel
theorem dX0_readName_207 : decode cX0_readName 207 = .ok (.invokevirtual 102, 3) := by decide +kernel
theorem dX0_readName_210 : decode cX0_readName 210 = .ok (.goto 82, 3) := by decide +kernel
theorem dX0_readName_213 : decode cX0_readName 213 = .ok (.aload_n 0, 1) := by decide +kernel
theorem dX0_readName_214 : decode cX0_readName 214 = .ok (.getfield 15, 3) := by decide +kernel
theorem dX0_readName_217 : decode cX0_readName 217 = .ok (.getfield 134, 3) := by decide +kernel
theorem dX0_readName_220 : decode cX0_readName 220 = .ok (.iload 4, 2) := by decide +kernel
theorem dX0_readName_222 : decode cX0_readName 222 = .ok (.invokevirtual 170, 3) := by decide +kernel
theorem dX0_readName_225 : decode cX0_readName 225 = .ok (.ifCond .eq 14, 3) := by decide +kernel
theorem dX0_readName_228 : decode cX0_readName 228 = .ok (.aload_n 0, 1) := by decide +kernel
theorem dX0_readName_229 : decode cX0_readName 229 = .ok (.iconst 4, 1) := by decide +kernel
theorem dX0_readName_230 : decode cX0_readName 230 = .ok (.iload_n 3, 1) := by decide +kernel
theorem dX0_readName_231 : decode cX0_readName 231 = .ok (.iload 4, 2) := by decide +kernel
theorem dX0_readName_233 : decode cX0_readName 233 = .ok (.invokevirtual 174, 3) := by decide +kernel
theorem dX0_readName_236 : decode cX0_readName 236 = .ok (.goto 56, 3) := by decide +kernel
theorem dX0_readName_239 : decode cX0_readName 239 = .ok (.iload 4, 2) := by decide +kernel
theorem dX0_readName_241 : decode cX0_readName 241 = .ok (.bipush 16, 2) := by decide +kernel
theorem dX0_readName_243 : decode cX0_readName 243 = .ok (.if_icmp .lt 24, 3) := by decide +kernel
theorem dX0_readName_246 : decode cX0_readName 246 = .ok (.aload_n 0, 1) := by decide +kernel
theorem dX0_readName_247 : decode cX0_readName 247 = .ok (.getfield 44, 3) := by decide +kernel
theorem dX0_readName_250 : decode cX0_readName 250 = .ok (.iconst 2, 1) := by decide +kernel
theorem dX0_readName_251 : decode cX0_readName 251 = .ok (.iload 4, 2) := by decide +kernel
theorem dX0_readName_253 : decode cX0_readName 253 = .ok (.bipush 16, 2) := by decide +kernel
theorem dX0_readName_255 : decode cX0_readName 255 = .ok (.isub, 1) := by decide +kernel
theorem dX0_readName_256 : decode cX0_readName 256 = .ok (.invokevirtual 112, 3) := by decide +kernel
theorem dX0_readName_259 : decode cX0_readName 259 = .ok (.aload_n 0, 1) := by decide +kernel
theorem dX0_readName_260 : decode cX0_readName 260 = .ok (.iconst 1, 1) := by decide +kernel
theorem dX0_readName_261 : decode cX0_readName 261 = .ok (.invokevirtual 123, 3) := by decide +kernel
theorem dX0_readName_264 : decode cX0_readName 264 = .ok (.goto 28, 3) := by decide +kernel
theorem dX0_readName_267 : decode cX0_readName 267 = .ok (.aload_n 0, 1) := by decide +kernel
theorem dX0_readName_268 : decode cX0_readName 268 = .ok (.getfield 44, 3) := by decide +kernel
theorem dX0_readName_271 : decode cX0_readName 271 = .ok (.iconst 3, 1) := by decide +kernel
theorem dX0_readName_272 : decode cX0_readName 272 = .ok (.aload_n 0, 1) := by decide +kernel
theorem dX0_readName_273 : decode cX0_readName 273 = .ok (.getfield 15, 3) := by decide +kernel
theorem dX0_readName_276 : decode cX0_readName 276 = .ok (.getfield 134, 3) := by decide +kernel
theorem dX0_readName_279 : decode cX0_readName 279 = .ok (.iload 4, 2) := by decide +kernel
theorem dX0_readName_281 : decode cX0_readName 281 = .ok (.invokevirtual 177, 3) := by decide +kernel
theorem dX0_readName_284 : decode cX0_readName 284 = .ok (.invokevirtual 112, 3) := by decide +kernel
theorem dX0_readName_287 : decode cX0_readName 287 = .ok (.aload_n 0, 1) := by decide +kernel
theorem dX0_readName_288 : decode cX0_readName 288 = .ok (.iconst 1, 1) := by decide +kernel
theorem dX0_readName_289 : decode cX0_readName 289 = .ok (.invokevirtual 123, 3) := by decide +kernel
theorem dX0_readName_292 : decode cX0_readName 292 = .ok (.return_, 1) := by decide +kernel
theorem dX0_openIndex_0 : decode cX0_openIndex 0 = .ok (.aload_n 0, 1) := by decide +kernel
theorem dX0_openIndex_1 : decode cX0_openIndex 1 = .ok (.getfield 52, 3) := by decide +kernel
theorem dX0_openIndex_4 : decode cX0_openIndex 4 = .ok (.bipush 40, 2) := by decide +kernel
theorem dX0_openIndex_6 : decode cX0_openIndex 6 = .ok (.if_icmp .lt 18, 3) := by decide +kernel
theorem dX0_openIndex_9 : decode cX0_openIndex 9 = .ok (.aload_n 0, 1) := by decide +kernel
theorem dX0_openIndex_10 : decode cX0_openIndex 10 = .ok (.getfield 9, 3) := by decide +kernel
theorem dX0_openIndex_13 : decode cX0_openIndex 13 = .ok (.iconst 4, 1) := by decide +kernel
theorem dX0_openIndex_14 : decode cX0_openIndex 14 = .ok (.aload_n 0, 1) := by decide +kernel
theorem dX0_openIndex_15 : decode cX0_openIndex 15 = .ok (.getfield 9, 3) := by decide +kernel
theorem dX0_openIndex_18 : decode cX0_openIndex 18 = .ok (.invokevirtual 99, 3) := by decide +kernel
theorem dX0_openIndex_21 : decode cX0_openIndex 21 = .ok (.invokevirtual 102, 3) := by decide +kernel
theorem dX0_openIndex_24 : decode cX0_openIndex 24 = .ok (.aload_n 0, 1) := by decide +kernel
theorem dX0_openIndex_25 : decode cX0_openIndex 25 = .ok (.iload_n 1, 1) := by decide +kernel
theorem dX0_openIndex_26 : decode cX0_openIndex 26 = .ok (.iload_n 2, 1) := by decide +kernel
theorem dX0_openIndex_27 : decode cX0_openIndex 27 = .ok (.aload_n 0, 1) := by decide +kernel
theorem dX0_openIndex_28 : decode cX0_openIndex 28 = .ok (.getfield 15, 3) := by decide +kernel
theorem dX0_openIndex_31 : decode cX0_openIndex 31 = .ok (.getfield 134, 3) := by decide +kernel
theorem dX0_openIndex_34 : decode cX0_openIndex 34 = .ok (.iload_n 3, 1) := by decide +kernel
theorem dX0_openIndex_35 : decode cX0_openIndex 35 = .ok (.invokevirtual 177, 3) := by decide +kernel
theorem dX0_openIndex_38 : decode cX0_openIndex 38 = .ok (.invokevirtual 126, 3) := by decide +kernel
theorem dX0_openIndex_41 : decode cX0_openIndex 41 = .ok (.aload_n 0, 1) := by decide +kernel
theorem dX0_openIndex_42 : decode cX0_openIndex 42 = .ok (.dup, 1) := by decide +kernel
theorem dX0_openIndex_43 : decode cX0_openIndex 43 = .ok (.getfield 52, 3) := by decide +kernel
theorem dX0_openIndex_46 : decode cX0_openIndex 46 = .ok (.iconst 1, 1) := by decide +kernel
theorem dX0_openIndex_47 : decode cX0_openIndex 47 = .ok (.iadd, 1) := by decide +kernel
theorem dX0_openIndex_48 : decode cX0_openIndex 48 = .ok (.putfield 52, 3) := by decide +kernel
theorem dX0_openIndex_51 : decode cX0_openIndex 51 = .ok (.aload_n 0, 1) := by decide +kernel
theorem dX0_openIndex_52 : decode cX0_openIndex 52 = .ok (.getfield 9, 3) := by decide +kernel
theorem dX0_openIndex_55 : decode cX0_openIndex 55 = .ok (.invokevirtual 120, 3) := by decide +kernel
theorem dX0_openIndex_58 : decode cX0_openIndex 58 = .ok (.return_, 1) := by decide +kernel
theorem dX0_openCall_0 : decode cX0_openCall 0 = .ok (.aload_n 0, 1) := by decide +kernel
theorem dX0_openCall_1 : decode cX0_openCall 1 = .ok (.getfield 9, 3) := by decide +kernel
theorem dX0_openCall_4 : decode cX0_openCall 4 = .ok (.invokevirtual 99, 3) := by decide +kernel
theorem dX0_openCall_7 : decode cX0_openCall 7 = .ok (.istore 5, 2) := by decide +kernel
theorem dX0_openCall_9 : decode cX0_openCall 9 = .ok (.aload_n 0, 1) := by decide +kernel
theorem dX0_openCall_10 : decode cX0_openCall 10 = .ok (.getfield 52, 3) := by decide +kernel
theorem dX0_openCall_13 : decode cX0_openCall 13 = .ok (.bipush 40, 2) := by decide +kernel
theorem dX0_openCall_15 : decode cX0_openCall 15 = .ok (.if_icmp .lt 13, 3) := by decide +kernel
theorem dX0_openCall_18 : decode cX0_openCall 18 = .ok (.aload_n 0, 1) := by decide +kernel
theorem dX0_openCall_19 : decode cX0_openCall 19 = .ok (.getfield 9, 3) := by decide +kernel
theorem dX0_openCall_22 : decode cX0_openCall 22 = .ok (.iconst 4, 1) := by decide +kernel
theorem dX0_openCall_23 : decode cX0_openCall 23 = .ok (.iload 5, 2) := by decide +kernel
theorem dX0_openCall_25 : decode cX0_openCall 25 = .ok (.invokevirtual 102, 3) := by decide +kernel
theorem dX0_openCall_28 : decode cX0_openCall 28 = .ok (.aload_n 0, 1) := by decide +kernel
theorem dX0_openCall_29 : decode cX0_openCall 29 = .ok (.getfield 44, 3) := by decide +kernel
theorem dX0_openCall_32 : decode cX0_openCall 32 = .ok (.dup, 1) := by decide +kernel
theorem dX0_openCall_33 : decode cX0_openCall 33 = .ok (.getfield 117, 3) := by decide +kernel
theorem dX0_openCall_36 : decode cX0_openCall 36 = .ok (.iconst 1, 1) := by decide +kernel
theorem dX0_openCall_37 : decode cX0_openCall 37 = .ok (.iadd, 1) := by decide +kernel
theorem dX0_openCall_38 : decode cX0_openCall 38 = .ok (.putfield 117, 3) := by decide +kernel
theorem dX0_openCall_41 : decode cX0_openCall 41 = .ok (.aload_n 0, 1) := by decide +kernel
theorem dX0_openCall_42 : decode cX0_openCall 42 = .ok (.getfield 9, 3) := by decide +kernel
theorem dX0_openCall_45 : decode cX0_openCall 45 = .ok (.invokevirtual 120, 3) := by decide +kernel
theorem dX0_openCall_48 : decode cX0_openCall 48 = .ok (.aload_n 0, 1) := by decide +kernel
theorem dX0_openCall_49 : decode cX0_openCall 49 = .ok (.getfield 9, 3) := by decide +kernel
theorem dX0_openCall_52 : decode cX0_openCall 52 = .ok (.invokevirtual 99, 3) := by decide +kernel
theorem dX0_openCall_55 : decode cX0_openCall 55 = .ok (.istore 6, 2) := by decide +kernel
theorem dX0_openCall_57 : decode cX0_openCall 57 = .ok (.aload_n 0, 1) := by decide +kernel
theorem dX0_openCall_58 : decode cX0_openCall 58 = .ok (.getfield 9, 3) := by decide +kernel
theorem dX0_openCall_61 : decode cX0_openCall 61 = .ok (.invokevirtual 67, 3) := by decide +kernel
theorem dX0_openCall_64 : decode cX0_openCall 64 = .ok (.bipush 41, 2) := by decide +kernel
theorem dX0_openCall_66 : decode cX0_openCall 66 = .ok (.if_icmp .ne 7, 3) := by decide +kernel
theorem dX0_openCall_69 : decode cX0_openCall 69 = .ok (.iconst 1, 1) := by decide +kernel
theorem dX0_openCall_70 : decode cX0_openCall 70 = .ok (.goto 4, 3) := by decide +kernel
theorem dX0_openCall_73 : decode cX0_openCall 73 = .ok (.iconst 0, 1) := by decide +kernel
theorem dX0_openCall_74 : decode cX0_openCall 74 = .ok (.istore 7, 2) := by decide +kernel
theorem dX0_openCall_76 : decode cX0_openCall 76 = .ok (.iload 4, 2) := by decide +kernel
theorem dX0_openCall_78 : decode cX0_openCall 78 = .ok (.ifCond .ne 19, 3) := by decide +kernel
theorem dX0_openCall_81 : decode cX0_openCall 81 = .ok (.iload 7, 2) := by decide +kernel
theorem dX0_openCall_83 : decode cX0_openCall 83 = .ok (.ifCond .ne 14, 3) := by decide +kernel
theorem dX0_openCall_86 : decode cX0_openCall 86 = .ok (.aload_n 0, 1) := by decide +kernel
theorem dX0_openCall_87 : decode cX0_openCall 87 = .ok (.getfield 9, 3) := by decide +kernel
theorem dX0_openCall_90 : decode cX0_openCall 90 = .ok (.bipush 6, 2) := by decide +kernel
theorem dX0_openCall_92 : decode cX0_openCall 92 = .ok (.iload 5, 2) := by decide +kernel
theorem dX0_openCall_94 : decode cX0_openCall 94 = .ok (.invokevirtual 102, 3) := by decide +kernel
theorem dX0_openCall_97 : decode cX0_openCall 97 = .ok (.iload 7, 2) := by decide +kernel
theorem dX0_openCall_99 : decode cX0_openCall 99 = .ok (.ifCond .ne 21, 3) := by decide +kernel
theorem dX0_openCall_102 : decode cX0_openCall 102 = .ok (.aload_n 0, 1) := by decide +kernel
theorem dX0_openCall_103 : decode cX0_openCall 103 = .ok (.iload_n 1, 1) := by decide +kernel
theorem dX0_openCall_104 : decode cX0_openCall 104 = .ok (.iload_n 2, 1) := by decide +kernel
theorem dX0_openCall_105 : decode cX0_openCall 105 = .ok (.iload_n 3, 1) := by decide +kernel
theorem dX0_openCall_106 : decode cX0_openCall 106 = .ok (.invokevirtual 126, 3) := by decide +kernel
theorem dX0_openCall_109 : decode cX0_openCall 109 = .ok (.aload_n 0, 1) := by decide +kernel
theorem dX0_openCall_110 : decode cX0_openCall 110 = .ok (.dup, 1) := by decide +kernel
theorem dX0_openCall_111 : decode cX0_openCall 111 = .ok (.getfield 52, 3) := by decide +kernel
theorem dX0_openCall_114 : decode cX0_openCall 114 = .ok (.iconst 1, 1) := by decide +kernel
theorem dX0_openCall_115 : decode cX0_openCall 115 = .ok (.iadd, 1) := by decide +kernel
theorem dX0_openCall_116 : decode cX0_openCall 116 = .ok (.putfield 52, 3) := by decide +kernel
theorem dX0_openCall_119 : decode cX0_openCall 119 = .ok (.return_, 1) := by decide +kernel
theorem dX0_openCall_120 : decode cX0_openCall 120 = .ok (.aload_n 0, 1) := by decide +kernel
theorem dX0_openCall_121 : decode cX0_openCall 121 = .ok (.getfield 9, 3) := by decide +kernel
theorem dX0_openCall_124 : decode cX0_openCall 124 = .ok (.invokevirtual 120, 3) := by decide +kernel
theorem dX0_openCall_127 : decode cX0_openCall 127 = .ok (.iload 4, 2) := by decide +kernel
theorem dX0_openCall_129 : decode cX0_openCall 129 = .ok (.ifCond .le 14, 3) := by decide +kernel
theorem dX0_openCall_132 : decode cX0_openCall 132 = .ok (.aload_n 0, 1) := by decide +kernel
theorem dX0_openCall_133 : decode cX0_openCall 133 = .ok (.getfield 9, 3) := by decide +kernel
theorem dX0_openCall_136 : decode cX0_openCall 136 = .ok (.bipush 6, 2) := by decide +kernel
theorem dX0_openCall_138 : decode cX0_openCall 138 = .ok (.iload 6, 2) := by decide +kernel
theorem dX0_openCall_140 : decode cX0_openCall 140 = .ok (.invokevirtual 102, 3) := by decide +kernel
theorem dX0_openCall_143 : decode cX0_openCall 143 = .ok (.aload_n 0, 1) := by decide +kernel
theorem dX0_openCall_144 : decode cX0_openCall 144 = .ok (.getfield 44, 3) := by decide +kernel
theorem dX0_openCall_147 : decode cX0_openCall 147 = .ok (.bipush 13, 2) := by decide +kernel
theorem dX0_openCall_149 : decode cX0_openCall 149 = .ok (.iconst 0, 1) := by decide +kernel
theorem dX0_openCall_150 : decode cX0_openCall 150 = .ok (.invokevirtual 112, 3) := by decide +kernel
theorem dX0_openCall_153 : decode cX0_openCall 153 = .ok (.aload_n 0, 1) := by decide +kernel
theorem dX0_openCall_154 : decode cX0_openCall 154 = .ok (.getfield 44, 3) := by decide +kernel
theorem dX0_openCall_157 : decode cX0_openCall 157 = .ok (.iload_n 1, 1) := by decide +kernel
theorem dX0_openCall_158 : decode cX0_openCall 158 = .ok (.iconst 2, 1) := by decide +kernel
theorem dX0_openCall_159 : decode cX0_openCall 159 = .ok (.if_icmp .ne 8, 3) := by decide +kernel
theorem dX0_openCall_162 : decode cX0_openCall 162 = .ok (.bipush 17, 2) := by decide +kernel
theorem dX0_openCall_164 : decode cX0_openCall 164 = .ok (.goto 5, 3) := by decide +kernel
theorem dX0_openCall_167 : decode cX0_openCall 167 = .ok (.bipush 18, 2) := by decide +kernel
theorem dX0_openCall_169 : decode cX0_openCall 169 = .ok (.iload_n 3, 1) := by decide +kernel
theorem dX0_openCall_170 : decode cX0_openCall 170 = .ok (.invokevirtual 112, 3) := by decide +kernel
theorem dX0_openCall_173 : decode cX0_openCall 173 = .ok (.aload_n 0, 1) := by decide +kernel
theorem dX0_openCall_174 : decode cX0_openCall 174 = .ok (.iconst 1, 1) := by decide +kernel
theorem dX0_openCall_175 : decode cX0_openCall 175 = .ok (.invokevirtual 123, 3) := by decide +kernel
theorem dX0_openCall_178 : decode cX0_openCall 178 = .ok (.return_, 1) := by decide +kernel
theorem dX0_readAbove_0 : decode cX0_readAbove 0 = .ok (.aload_n 0, 1) := by decide +kernel
theorem dX0_readAbove_1 : decode cX0_readAbove 1 = .ok (.getfield 9, 3) := by decide +kernel
theorem dX0_readAbove_4 : decode cX0_readAbove 4 = .ok (.invokevirtual 99, 3) := by decide +kernel
theorem dX0_readAbove_7 : decode cX0_readAbove 7 = .ok (.istore_n 1, 1) := by decide +kernel
theorem dX0_readAbove_8 : decode cX0_readAbove 8 = .ok (.aload_n 0, 1) := by decide +kernel
theorem dX0_readAbove_9 : decode cX0_readAbove 9 = .ok (.getfield 9, 3) := by decide +kernel
theorem dX0_readAbove_12 : decode cX0_readAbove 12 = .ok (.invokevirtual 120, 3) := by decide +kernel
theorem dX0_readAbove_15 : decode cX0_readAbove 15 = .ok (.aload_n 0, 1) := by decide +kernel
theorem dX0_readAbove_16 : decode cX0_readAbove 16 = .ok (.getfield 44, 3) := by decide +kernel
theorem dX0_readAbove_19 : decode cX0_readAbove 19 = .ok (.aload_n 0, 1) := by decide +kernel
theorem dX0_readAbove_20 : decode cX0_readAbove 20 = .ok (.getfield 15, 3) := by decide +kernel
theorem dX0_readAbove_23 : decode cX0_readAbove 23 = .ok (.getfield 134, 3) := by decide +kernel
theorem dX0_readAbove_26 : decode cX0_readAbove 26 = .ok (.getfield 181, 3) := by decide +kernel
theorem dX0_readAbove_29 : decode cX0_readAbove 29 = .ok (.invokevirtual 184, 3) := by decide +kernel
theorem dX0_readAbove_32 : decode cX0_readAbove 32 = .ok (.ifCond .ne 13, 3) := by decide +kernel
theorem dX0_readAbove_35 : decode cX0_readAbove 35 = .ok (.aload_n 0, 1) := by decide +kernel
theorem dX0_readAbove_36 : decode cX0_readAbove 36 = .ok (.getfield 9, 3) := by decide +kernel
theorem dX0_readAbove_39 : decode cX0_readAbove 39 = .ok (.iconst 5, 1) := by decide +kernel
theorem dX0_readAbove_40 : decode cX0_readAbove 40 = .ok (.iload_n 1, 1) := by decide +kernel
theorem dX0_readAbove_41 : decode cX0_readAbove 41 = .ok (.invokevirtual 102, 3) := by decide +kernel
theorem dX0_readAbove_44 : decode cX0_readAbove 44 = .ok (.return_, 1) := by decide +kernel
theorem dX0_readAbove_45 : decode cX0_readAbove 45 = .ok (.aload_n 0, 1) := by decide +kernel
theorem dX0_readAbove_46 : decode cX0_readAbove 46 = .ok (.getfield 44, 3) := by decide +kernel
theorem dX0_readAbove_49 : decode cX0_readAbove 49 = .ok (.getfield 187, 3) := by decide +kernel
theorem dX0_readAbove_52 : decode cX0_readAbove 52 = .ok (.aload_n 0, 1) := by decide +kernel
theorem dX0_readAbove_53 : decode cX0_readAbove 53 = .ok (.getfield 15, 3) := by decide +kernel
theorem dX0_readAbove_56 : decode cX0_readAbove 56 = .ok (.getfield 134, 3) := by decide +kernel
theorem dX0_readAbove_59 : decode cX0_readAbove 59 = .ok (.getfield 181, 3) := by decide +kernel
theorem dX0_readAbove_62 : decode cX0_readAbove 62 = .ok (.aaload, 1) := by decide +kernel
theorem dX0_readAbove_63 : decode cX0_readAbove 63 = .ok (.astore_n 2, 1) := by decide +kernel
theorem dX0_readAbove_64 : decode cX0_readAbove 64 = .ok (.aload_n 0, 1) := by decide +kernel
theorem dX0_readAbove_65 : decode cX0_readAbove 65 = .ok (.getfield 9, 3) := by decide +kernel
theorem dX0_readAbove_68 : decode cX0_readAbove 68 = .ok (.bipush 46, 2) := by decide +kernel
theorem dX0_readAbove_70 : decode cX0_readAbove 70 = .ok (.invokevirtual 191, 3) := by decide +kernel
theorem dX0_readAbove_73 : decode cX0_readAbove 73 = .ok (.aload_n 0, 1) := by decide +kernel
theorem dX0_readAbove_74 : decode cX0_readAbove 74 = .ok (.getfield 9, 3) := by decide +kernel
theorem dX0_readAbove_77 : decode cX0_readAbove 77 = .ok (.invokevirtual 99, 3) := by decide +kernel
theorem dX0_readAbove_80 : decode cX0_readAbove 80 = .ok (.istore_n 3, 1) := by decide +kernel
theorem dX0_readAbove_81 : decode cX0_readAbove 81 = .ok (.aload_n 0, 1) := by decide +kernel
theorem dX0_readAbove_82 : decode cX0_readAbove 82 = .ok (.getfield 9, 3) := by decide +kernel
theorem dX0_readAbove_85 : decode cX0_readAbove 85 = .ok (.invokevirtual 67, 3) := by decide +kernel
theorem dX0_readAbove_88 : decode cX0_readAbove 88 = .ok (.iconst 3, 1) := by decide +kernel
theorem dX0_readAbove_89 : decode cX0_readAbove 89 = .ok (.if_icmp .eq 13, 3) := by decide +kernel
theorem dX0_readAbove_92 : decode cX0_readAbove 92 = .ok (.aload_n 0, 1) := by decide +kernel
theorem dX0_readAbove_93 : decode cX0_readAbove 93 = .ok (.getfield 9, 3) := by decide +kernel
theorem dX0_readAbove_96 : decode cX0_readAbove 96 = .ok (.iconst 1, 1) := by decide +kernel
theorem dX0_readAbove_97 : decode cX0_readAbove 97 = .ok (.iload_n 3, 1) := by decide +kernel
theorem dX0_readAbove_98 : decode cX0_readAbove 98 = .ok (.invokevirtual 102, 3) := by decide +kernel
theorem dX0_readAbove_101 : decode cX0_readAbove 101 = .ok (.return_, 1) := by decide +kernel
theorem dX0_readAbove_102 : decode cX0_readAbove 102 = .ok (.aload_n 0, 1) := by decide +kernel
theorem dX0_readAbove_103 : decode cX0_readAbove 103 = .ok (.getfield 44, 3) := by decide +kernel
theorem dX0_readAbove_106 : decode cX0_readAbove 106 = .ok (.aload_n 2, 1) := by decide +kernel
theorem dX0_readAbove_107 : decode cX0_readAbove 107 = .ok (.aload_n 0, 1) := by decide +kernel
theorem dX0_readAbove_108 : decode cX0_readAbove 108 = .ok (.getfield 9, 3) := by decide +kernel
theorem dX0_readAbove_111 : decode cX0_readAbove 111 = .ok (.invokevirtual 108, 3) := by decide +kernel
theorem dX0_readAbove_114 : decode cX0_readAbove 114 = .ok (.invokevirtual 138, 3) := by decide +kernel
theorem dX0_readAbove_117 : decode cX0_readAbove 117 = .ok (.istore 4, 2) := by decide +kernel
theorem dX0_readAbove_119 : decode cX0_readAbove 119 = .ok (.iload 4, 2) := by decide +kernel
theorem dX0_readAbove_121 : decode cX0_readAbove 121 = .ok (.iconst (-1), 1) := by decide +kernel
theorem dX0_readAbove_122 : decode cX0_readAbove 122 = .ok (.if_icmp .ne 13, 3) := by decide +kernel
theorem dX0_readAbove_125 : decode cX0_readAbove 125 = .ok (.aload_n 0, 1) := by decide +kernel
theorem dX0_readAbove_126 : decode cX0_readAbove 126 = .ok (.getfield 9, 3) := by decide +kernel
theorem dX0_readAbove_129 : decode cX0_readAbove 129 = .ok (.iconst 2, 1) := by decide +kernel
theorem dX0_readAbove_130 : decode cX0_readAbove 130 = .ok (.iload_n 3, 1) := by decide +kernel
theorem dX0_readAbove_131 : decode cX0_readAbove 131 = .ok (.invokevirtual 102, 3) := by decide +kernel
theorem dX0_readAbove_134 : decode cX0_readAbove 134 = .ok (.return_, 1) := by decide +kernel
theorem dX0_readAbove_135 : decode cX0_readAbove 135 = .ok (.aload_n 0, 1) := by decide +kernel
theorem dX0_readAbove_136 : decode cX0_readAbove 136 = .ok (.getfield 9, 3) := by decide +kernel
theorem dX0_readAbove_139 : decode cX0_readAbove 139 = .ok (.invokevirtual 120, 3) := by decide +kernel
theorem dX0_readAbove_142 : decode cX0_readAbove 142 = .ok (.aload_n 2, 1) := by decide +kernel
theorem dX0_readAbove_143 : decode cX0_readAbove 143 = .ok (.getfield 146, 3) := by decide +kernel
theorem dX0_readAbove_146 : decode cX0_readAbove 146 = .ok (.iload 4, 2) := by decide +kernel
theorem dX0_readAbove_148 : decode cX0_readAbove 148 = .ok (.iaload, 1) := by decide +kernel
theorem dX0_readAbove_149 : decode cX0_readAbove 149 = .ok (.istore 5, 2) := by decide +kernel
theorem dX0_readAbove_151 : decode cX0_readAbove 151 = .ok (.aload_n 0, 1) := by decide +kernel
theorem dX0_readAbove_152 : decode cX0_readAbove 152 = .ok (.getfield 15, 3) := by decide +kernel
theorem dX0_readAbove_155 : decode cX0_readAbove 155 = .ok (.getfield 151, 3) := by decide +kernel
theorem dX0_readAbove_158 : decode cX0_readAbove 158 = .ok (.ifCond .eq 28, 3) := by decide +kernel
theorem dX0_readAbove_161 : decode cX0_readAbove 161 = .ok (.aload_n 0, 1) := by decide +kernel
theorem dX0_readAbove_162 : decode cX0_readAbove 162 = .ok (.getfield 44, 3) := by decide +kernel
theorem dX0_readAbove_165 : decode cX0_readAbove 165 = .ok (.getfield 142, 3) := by decide +kernel
theorem dX0_readAbove_168 : decode cX0_readAbove 168 = .ok (.iload 5, 2) := by decide +kernel
theorem dX0_readAbove_170 : decode cX0_readAbove 170 = .ok (.aaload, 1) := by decide +kernel
theorem dX0_readAbove_171 : decode cX0_readAbove 171 = .ok (.getfield 154, 3) := by decide +kernel
theorem dX0_readAbove_174 : decode cX0_readAbove 174 = .ok (.ifCond .ne 12, 3) := by decide +kernel
theorem dX0_readAbove_177 : decode cX0_readAbove 177 = .ok (.aload_n 0, 1) := by decide +kernel
theorem dX0_readAbove_178 : decode cX0_readAbove 178 = .ok (.getfield 9, 3) := by decide +kernel
theorem dX0_readAbove_181 : decode cX0_readAbove 181 = .ok (.iconst 5, 1) := by decide +kernel
theorem dX0_readAbove_182 : decode cX0_readAbove 182 = .ok (.iload_n 3, 1) := by decide +kernel
theorem dX0_readAbove_183 : decode cX0_readAbove 183 = .ok (.invokevirtual 102, 3) := by decide +kernel
theorem dX0_readAbove_186 : decode cX0_readAbove 186 = .ok (.aload_n 0, 1) := by decide +kernel
theorem dX0_readAbove_187 : decode cX0_readAbove 187 = .ok (.getfield 9, 3) := by decide +kernel
theorem dX0_readAbove_190 : decode cX0_readAbove 190 = .ok (.invokevirtual 67, 3) := by decide +kernel
theorem dX0_readAbove_193 : decode cX0_readAbove 193 = .ok (.bipush 40, 2) := by decide +kernel
theorem dX0_readAbove_195 : decode cX0_readAbove 195 = .ok (.if_icmp .eq 19, 3) := by decide +kernel
theorem dX0_readAbove_198 : decode cX0_readAbove 198 = .ok (.aload_n 0, 1) := by decide +kernel
theorem dX0_readAbove_199 : decode cX0_readAbove 199 = .ok (.getfield 9, 3) := by decide +kernel
theorem dX0_readAbove_202 : decode cX0_readAbove 202 = .ok (.iconst 1, 1) := by decide +kernel
theorem dX0_readAbove_203 : decode cX0_readAbove 203 = .ok (.aload_n 0, 1) := by decide +kernel
theorem dX0_readAbove_204 : decode cX0_readAbove 204 = .ok (.getfield 9, 3) := by decide +kernel
theorem dX0_readAbove_207 : decode cX0_readAbove 207 = .ok (.invokevirtual 99, 3) := by decide +kernel
theorem dX0_readAbove_210 : decode cX0_readAbove 210 = .ok (.invokevirtual 102, 3) := by decide +kernel
theorem dX0_readAbove_213 : decode cX0_readAbove 213 = .ok (.return_, 1) := by decide +kernel
theorem dX0_readAbove_214 : decode cX0_readAbove 214 = .ok (.aload_n 0, 1) := by decide +kernel
theorem dX0_readAbove_215 : decode cX0_readAbove 215 = .ok (.iconst 3, 1) := by decide +kernel
theorem dX0_readAbove_216 : decode cX0_readAbove 216 = .ok (.iload_n 3, 1) := by decide +kernel
theorem dX0_readAbove_217 : decode cX0_readAbove 217 = .ok (.iload 5, 2) := by decide +kernel
theorem dX0_readAbove_219 : decode cX0_readAbove 219 = .ok (.aload_n 0, 1) := by decide +kernel
theorem dX0_readAbove_220 : decode cX0_readAbove 220 = .ok (.getfield 44, 3) := by decide +kernel
theorem dX0_readAbove_223 : decode cX0_readAbove 223 = .ok (.getfield 142, 3) := by decide +kernel
theorem dX0_readAbove_226 : decode cX0_readAbove 226 = .ok (.iload 5, 2) := by decide +kernel
theorem dX0_readAbove_228 : decode cX0_readAbove 228 = .ok (.aaload, 1) := by decide +kernel
theorem dX0_readAbove_229 : decode cX0_readAbove 229 = .ok (.getfield 159, 3) := by decide +kernel
theorem dX0_readAbove_232 : decode cX0_readAbove 232 = .ok (.invokevirtual 162, 3) := by decide +kernel
theorem dX0_readAbove_235 : decode cX0_readAbove 235 = .ok (.return_, 1) := by decide +kernel
theorem dX0_takeBracket_0 : decode cX0_takeBracket 0 = .ok (.aload_n 0, 1) := by decide +kernel
theorem dX0_takeBracket_1 : decode cX0_takeBracket 1 = .ok (.getfield 9, 3) := by decide +kernel
theorem dX0_takeBracket_4 : decode cX0_takeBracket 4 = .ok (.invokevirtual 67, 3) := by decide +kernel
theorem dX0_takeBracket_7 : decode cX0_takeBracket 7 = .ok (.bipush 40, 2) := by decide +kernel
theorem dX0_takeBracket_9 : decode cX0_takeBracket 9 = .ok (.if_icmp .eq 21, 3) := by decide +kernel
theorem dX0_takeBracket_12 : decode cX0_takeBracket 12 = .ok (.aload_n 0, 1) := by decide +kernel
theorem dX0_takeBracket_13 : decode cX0_takeBracket 13 = .ok (.getfield 9, 3) := by decide +kernel
theorem dX0_takeBracket_16 : decode cX0_takeBracket 16 = .ok (.iconst 1, 1) := by decide +kernel
theorem dX0_takeBracket_17 : decode cX0_takeBracket 17 = .ok (.aload_n 0, 1) := by decide +kernel
theorem dX0_takeBracket_18 : decode cX0_takeBracket 18 = .ok (.getfield 9, 3) := by decide +kernel
theorem dX0_takeBracket_21 : decode cX0_takeBracket 21 = .ok (.invokevirtual 99, 3) := by decide +kernel
theorem dX0_takeBracket_24 : decode cX0_takeBracket 24 = .ok (.invokevirtual 102, 3) := by decide +kernel
theorem dX0_takeBracket_27 : decode cX0_takeBracket 27 = .ok (.goto 27, 3) := by decide +kernel
theorem dX0_takeBracket_30 : decode cX0_takeBracket 30 = .ok (.aload_n 0, 1) := by decide +kernel
theorem dX0_takeBracket_31 : decode cX0_takeBracket 31 = .ok (.getfield 52, 3) := by decide +kernel
theorem dX0_takeBracket_34 : decode cX0_takeBracket 34 = .ok (.bipush 40, 2) := by decide +kernel
theorem dX0_takeBracket_36 : decode cX0_takeBracket 36 = .ok (.if_icmp .lt 18, 3) := by decide +kernel
theorem dX0_takeBracket_39 : decode cX0_takeBracket 39 = .ok (.aload_n 0, 1) := by decide +kernel
theorem dX0_takeBracket_40 : decode cX0_takeBracket 40 = .ok (.getfield 9, 3) := by decide +kernel
theorem dX0_takeBracket_43 : decode cX0_takeBracket 43 = .ok (.iconst 4, 1) := by decide +kernel
theorem dX0_takeBracket_44 : decode cX0_takeBracket 44 = .ok (.aload_n 0, 1) := by decide +kernel
theorem dX0_takeBracket_45 : decode cX0_takeBracket 45 = .ok (.getfield 9, 3) := by decide +kernel
theorem dX0_takeBracket_48 : decode cX0_takeBracket 48 = .ok (.invokevirtual 99, 3) := by decide +kernel
theorem dX0_takeBracket_51 : decode cX0_takeBracket 51 = .ok (.invokevirtual 102, 3) := by decide +kernel
theorem dX0_takeBracket_54 : decode cX0_takeBracket 54 = .ok (.aload_n 0, 1) := by decide +kernel
theorem dX0_takeBracket_55 : decode cX0_takeBracket 55 = .ok (.getfield 9, 3) := by decide +kernel
theorem dX0_takeBracket_58 : decode cX0_takeBracket 58 = .ok (.invokevirtual 120, 3) := by decide +kernel
theorem dX0_takeBracket_61 : decode cX0_takeBracket 61 = .ok (.aload_n 0, 1) := by decide +kernel
theorem dX0_takeBracket_62 : decode cX0_takeBracket 62 = .ok (.getfield 9, 3) := by decide +kernel
theorem dX0_takeBracket_65 : decode cX0_takeBracket 65 = .ok (.invokevirtual 67, 3) := by decide +kernel
theorem dX0_takeBracket_68 : decode cX0_takeBracket 68 = .ok (.iconst 3, 1) := by decide +kernel
theorem dX0_takeBracket_69 : decode cX0_takeBracket 69 = .ok (.if_icmp .eq 18, 3) := by decide +kernel
theorem dX0_takeBracket_72 : decode cX0_takeBracket 72 = .ok (.aload_n 0, 1) := by decide +kernel
theorem dX0_takeBracket_73 : decode cX0_takeBracket 73 = .ok (.getfield 9, 3) := by decide +kernel
theorem dX0_takeBracket_76 : decode cX0_takeBracket 76 = .ok (.iconst 1, 1) := by decide +kernel
theorem dX0_takeBracket_77 : decode cX0_takeBracket 77 = .ok (.aload_n 0, 1) := by decide +kernel
theorem dX0_takeBracket_78 : decode cX0_takeBracket 78 = .ok (.getfield 9, 3) := by decide +kernel
theorem dX0_takeBracket_81 : decode cX0_takeBracket 81 = .ok (.invokevirtual 99, 3) := by decide +kernel
theorem dX0_takeBracket_84 : decode cX0_takeBracket 84 = .ok (.invokevirtual 102, 3) := by decide +kernel
theorem dX0_takeBracket_87 : decode cX0_takeBracket 87 = .ok (.return_, 1) := by decide +kernel
theorem dX0_readSize_0 : decode cX0_readSize 0 = .ok (.aload_n 0, 1) := by decide +kernel
theorem dX0_readSize_1 : decode cX0_readSize 1 = .ok (.getfield 9, 3) := by decide +kernel
theorem dX0_readSize_4 : decode cX0_readSize 4 = .ok (.invokevirtual 120, 3) := by decide +kernel
theorem dX0_readSize_7 : decode cX0_readSize 7 = .ok (.aload_n 0, 1) := by decide +kernel
theorem dX0_readSize_8 : decode cX0_readSize 8 = .ok (.invokevirtual 194, 3) := by decide +kernel
theorem dX0_readSize_11 : decode cX0_readSize 11 = .ok (.aload_n 0, 1) := by decide +kernel
theorem dX0_readSize_12 : decode cX0_readSize 12 = .ok (.getfield 9, 3) := by decide +kernel
theorem dX0_readSize_15 : decode cX0_readSize 15 = .ok (.invokevirtual 99, 3) := by decide +kernel
theorem dX0_readSize_18 : decode cX0_readSize 18 = .ok (.istore_n 1, 1) := by decide +kernel
theorem dX0_readSize_19 : decode cX0_readSize 19 = .ok (.aload_n 0, 1) := by decide +kernel
theorem dX0_readSize_20 : decode cX0_readSize 20 = .ok (.getfield 15, 3) := by decide +kernel
theorem dX0_readSize_23 : decode cX0_readSize 23 = .ok (.aload_n 0, 1) := by decide +kernel
theorem dX0_readSize_24 : decode cX0_readSize 24 = .ok (.getfield 9, 3) := by decide +kernel
theorem dX0_readSize_27 : decode cX0_readSize 27 = .ok (.invokevirtual 108, 3) := by decide +kernel
theorem dX0_readSize_30 : decode cX0_readSize 30 = .ok (.invokevirtual 166, 3) := by decide +kernel
theorem dX0_readSize_33 : decode cX0_readSize 33 = .ok (.istore_n 2, 1) := by decide +kernel
theorem dX0_readSize_34 : decode cX0_readSize 34 = .ok (.iload_n 2, 1) := by decide +kernel
theorem dX0_readSize_35 : decode cX0_readSize 35 = .ok (.iconst (-1), 1) := by decide +kernel
theorem dX0_readSize_36 : decode cX0_readSize 36 = .ok (.if_icmp .ne 13, 3) := by decide +kernel
theorem dX0_readSize_39 : decode cX0_readSize 39 = .ok (.aload_n 0, 1) := by decide +kernel
theorem dX0_readSize_40 : decode cX0_readSize 40 = .ok (.getfield 9, 3) := by decide +kernel
theorem dX0_readSize_43 : decode cX0_readSize 43 = .ok (.iconst 2, 1) := by decide +kernel
theorem dX0_readSize_44 : decode cX0_readSize 44 = .ok (.iload_n 1, 1) := by decide +kernel
theorem dX0_readSize_45 : decode cX0_readSize 45 = .ok (.invokevirtual 102, 3) := by decide +kernel
theorem dX0_readSize_48 : decode cX0_readSize 48 = .ok (.return_, 1) := by decide +kernel
theorem dX0_readSize_49 : decode cX0_readSize 49 = .ok (.aload_n 0, 1) := by decide +kernel
theorem dX0_readSize_50 : decode cX0_readSize 50 = .ok (.getfield 9, 3) := by decide +kernel
theorem dX0_readSize_53 : decode cX0_readSize 53 = .ok (.invokevirtual 120, 3) := by decide +kernel
theorem dX0_readSize_56 : decode cX0_readSize 56 = .ok (.aload_n 0, 1) := by decide +kernel
theorem dX0_readSize_57 : decode cX0_readSize 57 = .ok (.getfield 15, 3) := by decide +kernel
theorem dX0_readSize_60 : decode cX0_readSize 60 = .ok (.getfield 134, 3) := by decide +kernel
theorem dX0_readSize_63 : decode cX0_readSize 63 = .ok (.iload_n 2, 1) := by decide +kernel
theorem dX0_readSize_64 : decode cX0_readSize 64 = .ok (.invokevirtual 170, 3) := by decide +kernel
theorem dX0_readSize_67 : decode cX0_readSize 67 = .ok (.ifCond .ne 13, 3) := by decide +kernel
theorem dX0_readSize_70 : decode cX0_readSize 70 = .ok (.aload_n 0, 1) := by decide +kernel
theorem dX0_readSize_71 : decode cX0_readSize 71 = .ok (.getfield 9, 3) := by decide +kernel
theorem dX0_readSize_74 : decode cX0_readSize 74 = .ok (.iconst 5, 1) := by decide +kernel
theorem dX0_readSize_75 : decode cX0_readSize 75 = .ok (.iload_n 1, 1) := by decide +kernel
theorem dX0_readSize_76 : decode cX0_readSize 76 = .ok (.invokevirtual 102, 3) := by decide +kernel
theorem dX0_readSize_79 : decode cX0_readSize 79 = .ok (.return_, 1) := by decide +kernel
theorem dX0_readSize_80 : decode cX0_readSize 80 = .ok (.aload_n 0, 1) := by decide +kernel
theorem dX0_readSize_81 : decode cX0_readSize 81 = .ok (.getfield 9, 3) := by decide +kernel
theorem dX0_readSize_84 : decode cX0_readSize 84 = .ok (.bipush 41, 2) := by decide +kernel
theorem dX0_readSize_86 : decode cX0_readSize 86 = .ok (.invokevirtual 191, 3) := by decide +kernel
theorem dX0_readSize_89 : decode cX0_readSize 89 = .ok (.aload_n 0, 1) := by decide +kernel
theorem dX0_readSize_90 : decode cX0_readSize 90 = .ok (.getfield 44, 3) := by decide +kernel
theorem dX0_readSize_93 : decode cX0_readSize 93 = .ok (.iconst 1, 1) := by decide +kernel
theorem dX0_readSize_94 : decode cX0_readSize 94 = .ok (.aload_n 0, 1) := by decide +kernel
theorem dX0_readSize_95 : decode cX0_readSize 95 = .ok (.getfield 15, 3) := by decide +kernel
theorem dX0_readSize_98 : decode cX0_readSize 98 = .ok (.getfield 134, 3) := by decide +kernel
theorem dX0_readSize_101 : decode cX0_readSize 101 = .ok (.getfield 197, 3) := by decide +kernel
theorem dX0_readSize_104 : decode cX0_readSize 104 = .ok (.iload_n 2, 1) := by decide +kernel
theorem dX0_readSize_105 : decode cX0_readSize 105 = .ok (.iaload, 1) := by decide +kernel
theorem dX0_readSize_106 : decode cX0_readSize 106 = .ok (.invokevirtual 112, 3) := by decide +kernel
theorem dX0_readSize_109 : decode cX0_readSize 109 = .ok (.aload_n 0, 1) := by decide +kernel
theorem dX0_readSize_110 : decode cX0_readSize 110 = .ok (.getfield 44, 3) := by decide +kernel
theorem dX0_readSize_113 : decode cX0_readSize 113 = .ok (.dup, 1) := by decide +kernel
theorem dX0_readSize_114 : decode cX0_readSize 114 = .ok (.getfield 117, 3) := by decide +kernel
theorem dX0_readSize_117 : decode cX0_readSize 117 = .ok (.iconst 1, 1) := by decide +kernel
theorem dX0_readSize_118 : decode cX0_readSize 118 = .ok (.iadd, 1) := by decide +kernel
theorem dX0_readSize_119 : decode cX0_readSize 119 = .ok (.putfield 117, 3) := by decide +kernel
theorem dX0_readSize_122 : decode cX0_readSize 122 = .ok (.aload_n 0, 1) := by decide +kernel
theorem dX0_readSize_123 : decode cX0_readSize 123 = .ok (.iconst 1, 1) := by decide +kernel
theorem dX0_readSize_124 : decode cX0_readSize 124 = .ok (.invokevirtual 123, 3) := by decide +kernel
theorem dX0_readSize_127 : decode cX0_readSize 127 = .ok (.return_, 1) := by decide +kernel
theorem dX0_readOld_0 : decode cX0_readOld 0 = .ok (.aload_n 0, 1) := by decide +kernel
theorem dX0_readOld_1 : decode cX0_readOld 1 = .ok (.getfield 9, 3) := by decide +kernel
theorem dX0_readOld_4 : decode cX0_readOld 4 = .ok (.invokevirtual 99, 3) := by decide +kernel
theorem dX0_readOld_7 : decode cX0_readOld 7 = .ok (.istore_n 1, 1) := by decide +kernel
theorem dX0_readOld_8 : decode cX0_readOld 8 = .ok (.aload_n 0, 1) := by decide +kernel
theorem dX0_readOld_9 : decode cX0_readOld 9 = .ok (.getfield 9, 3) := by decide +kernel
theorem dX0_readOld_12 : decode cX0_readOld 12 = .ok (.invokevirtual 120, 3) := by decide +kernel
theorem dX0_readOld_15 : decode cX0_readOld 15 = .ok (.aload_n 0, 1) := by decide +kernel
theorem dX0_readOld_16 : decode cX0_readOld 16 = .ok (.invokevirtual 194, 3) := by decide +kernel
theorem dX0_readOld_19 : decode cX0_readOld 19 = .ok (.aload_n 0, 1) := by decide +kernel
theorem dX0_readOld_20 : decode cX0_readOld 20 = .ok (.getfield 9, 3) := by decide +kernel
theorem dX0_readOld_23 : decode cX0_readOld 23 = .ok (.invokevirtual 99, 3) := by decide +kernel
theorem dX0_readOld_26 : decode cX0_readOld 26 = .ok (.istore_n 2, 1) := by decide +kernel
theorem dX0_readOld_27 : decode cX0_readOld 27 = .ok (.aload_n 0, 1) := by decide +kernel
theorem dX0_readOld_28 : decode cX0_readOld 28 = .ok (.getfield 15, 3) := by decide +kernel
theorem dX0_readOld_31 : decode cX0_readOld 31 = .ok (.aload_n 0, 1) := by decide +kernel
theorem dX0_readOld_32 : decode cX0_readOld 32 = .ok (.getfield 9, 3) := by decide +kernel
theorem dX0_readOld_35 : decode cX0_readOld 35 = .ok (.invokevirtual 108, 3) := by decide +kernel
theorem dX0_readOld_38 : decode cX0_readOld 38 = .ok (.invokevirtual 166, 3) := by decide +kernel
theorem dX0_readOld_41 : decode cX0_readOld 41 = .ok (.istore_n 3, 1) := by decide +kernel
theorem dX0_readOld_42 : decode cX0_readOld 42 = .ok (.aload_n 0, 1) := by decide +kernel
theorem dX0_readOld_43 : decode cX0_readOld 43 = .ok (.getfield 9, 3) := by decide +kernel
theorem dX0_readOld_46 : decode cX0_readOld 46 = .ok (.invokevirtual 120, 3) := by decide +kernel
theorem dX0_readOld_49 : decode cX0_readOld 49 = .ok (.iload_n 3, 1) := by decide +kernel
theorem dX0_readOld_50 : decode cX0_readOld 50 = .ok (.iconst (-1), 1) := by decide +kernel
theorem dX0_readOld_51 : decode cX0_readOld 51 = .ok (.if_icmp .ne 13, 3) := by decide +kernel
theorem dX0_readOld_54 : decode cX0_readOld 54 = .ok (.aload_n 0, 1) := by decide +kernel
theorem dX0_readOld_55 : decode cX0_readOld 55 = .ok (.getfield 9, 3) := by decide +kernel
theorem dX0_readOld_58 : decode cX0_readOld 58 = .ok (.iconst 2, 1) := by decide +kernel
theorem dX0_readOld_59 : decode cX0_readOld 59 = .ok (.iload_n 2, 1) := by decide +kernel
theorem dX0_readOld_60 : decode cX0_readOld 60 = .ok (.invokevirtual 102, 3) := by decide +kernel
theorem dX0_readOld_63 : decode cX0_readOld 63 = .ok (.return_, 1) := by decide +kernel
theorem dX0_readOld_64 : decode cX0_readOld 64 = .ok (.aload_n 0, 1) := by decide +kernel
theorem dX0_readOld_65 : decode cX0_readOld 65 = .ok (.getfield 15, 3) := by decide +kernel
theorem dX0_readOld_68 : decode cX0_readOld 68 = .ok (.getfield 134, 3) := by decide +kernel
theorem dX0_readOld_71 : decode cX0_readOld 71 = .ok (.iload_n 3, 1) := by decide +kernel
theorem dX0_readOld_72 : decode cX0_readOld 72 = .ok (.invokevirtual 170, 3) := by decide +kernel
theorem dX0_readOld_75 : decode cX0_readOld 75 = .ok (.istore 4, 2) := by decide +kernel
theorem dX0_readOld_77 : decode cX0_readOld 77 = .ok (.iload_n 3, 1) := by decide +kernel
theorem dX0_readOld_78 : decode cX0_readOld 78 = .ok (.bipush 16, 2) := by decide +kernel
theorem dX0_readOld_80 : decode cX0_readOld 80 = .ok (.if_icmp .ge 25, 3) := by decide +kernel
theorem dX0_readOld_83 : decode cX0_readOld 83 = .ok (.iload 4, 2) := by decide +kernel
theorem dX0_readOld_85 : decode cX0_readOld 85 = .ok (.aload_n 0, 1) := by decide +kernel
theorem dX0_readOld_86 : decode cX0_readOld 86 = .ok (.getfield 9, 3) := by decide +kernel
theorem dX0_readOld_89 : decode cX0_readOld 89 = .ok (.invokevirtual 67, 3) := by decide +kernel
theorem dX0_readOld_92 : decode cX0_readOld 92 = .ok (.bipush 91, 2) := by decide +kernel
theorem dX0_readOld_94 : decode cX0_readOld 94 = .ok (.if_icmp .ne 7, 3) := by decide +kernel
theorem dX0_readOld_97 : decode cX0_readOld 97 = .ok (.iconst 1, 1) := by decide +kernel
theorem dX0_readOld_98 : decode cX0_readOld 98 = .ok (.goto 4, 3) := by decide +kernel
theorem dX0_readOld_101 : decode cX0_readOld 101 = .ok (.iconst 0, 1) := by decide +kernel
theorem dX0_readOld_102 : decode cX0_readOld 102 = .ok (.if_icmp .eq 13, 3) := by decide +kernel
theorem dX0_readOld_105 : decode cX0_readOld 105 = .ok (.aload_n 0, 1) := by decide +kernel
theorem dX0_readOld_106 : decode cX0_readOld 106 = .ok (.getfield 9, 3) := by decide +kernel
theorem dX0_readOld_109 : decode cX0_readOld 109 = .ok (.iconst 5, 1) := by decide +kernel
theorem dX0_readOld_110 : decode cX0_readOld 110 = .ok (.iload_n 2, 1) := by decide +kernel
theorem dX0_readOld_111 : decode cX0_readOld 111 = .ok (.invokevirtual 102, 3) := by decide +kernel
theorem dX0_readOld_114 : decode cX0_readOld 114 = .ok (.return_, 1) := by decide +kernel
theorem dX0_readOld_115 : decode cX0_readOld 115 = .ok (.aload_n 0, 1) := by decide +kernel
theorem dX0_readOld_116 : decode cX0_readOld 116 = .ok (.getfield 44, 3) := by decide +kernel
theorem dX0_readOld_119 : decode cX0_readOld 119 = .ok (.dup, 1) := by decide +kernel
theorem dX0_readOld_120 : decode cX0_readOld 120 = .ok (.getfield 117, 3) := by decide +kernel
theorem dX0_readOld_123 : decode cX0_readOld 123 = .ok (.iconst 2, 1) := by decide +kernel
theorem dX0_readOld_124 : decode cX0_readOld 124 = .ok (.iadd, 1) := by decide +kernel
theorem dX0_readOld_125 : decode cX0_readOld 125 = .ok (.putfield 117, 3) := by decide +kernel
theorem dX0_readOld_128 : decode cX0_readOld 128 = .ok (.iload 4, 2) := by decide +kernel
theorem dX0_readOld_130 : decode cX0_readOld 130 = .ok (.ifCond .eq 37, 3) := by decide +kernel
theorem dX0_readOld_133 : decode cX0_readOld 133 = .ok (.aload_n 0, 1) := by decide +kernel
theorem dX0_readOld_134 : decode cX0_readOld 134 = .ok (.dup, 1) := by decide +kernel
theorem dX0_readOld_135 : decode cX0_readOld 135 = .ok (.getfield 52, 3) := by decide +kernel
theorem dX0_readOld_138 : decode cX0_readOld 138 = .ok (.iconst 1, 1) := by decide +kernel
theorem dX0_readOld_139 : decode cX0_readOld 139 = .ok (.iadd, 1) := by decide +kernel
theorem dX0_readOld_140 : decode cX0_readOld 140 = .ok (.putfield 52, 3) := by decide +kernel
theorem dX0_readOld_143 : decode cX0_readOld 143 = .ok (.aload_n 0, 1) := by decide +kernel
theorem dX0_readOld_144 : decode cX0_readOld 144 = .ok (.iconst 5, 1) := by decide +kernel
theorem dX0_readOld_145 : decode cX0_readOld 145 = .ok (.iload_n 2, 1) := by decide +kernel
theorem dX0_readOld_146 : decode cX0_readOld 146 = .ok (.iload_n 3, 1) := by decide +kernel
theorem dX0_readOld_147 : decode cX0_readOld 147 = .ok (.invokevirtual 174, 3) := by decide +kernel
theorem dX0_readOld_150 : decode cX0_readOld 150 = .ok (.aload_n 0, 1) := by decide +kernel
theorem dX0_readOld_151 : decode cX0_readOld 151 = .ok (.getfield 32, 3) := by decide +kernel
theorem dX0_readOld_154 : decode cX0_readOld 154 = .ok (.aload_n 0, 1) := by decide +kernel
theorem dX0_readOld_155 : decode cX0_readOld 155 = .ok (.getfield 45, 3) := by decide +kernel
theorem dX0_readOld_158 : decode cX0_readOld 158 = .ok (.iconst 1, 1) := by decide +kernel
theorem dX0_readOld_159 : decode cX0_readOld 159 = .ok (.isub, 1) := by decide +kernel
theorem dX0_readOld_160 : decode cX0_readOld 160 = .ok (.iconst 0, 1) := by decide +kernel
theorem dX0_readOld_161 : decode cX0_readOld 161 = .ok (.invokestatic 200, 3) := by decide +kernel
theorem dX0_readOld_164 : decode cX0_readOld 164 = .ok (.iload_n 1, 1) := by decide +kernel
theorem dX0_readOld_165 : decode cX0_readOld 165 = .ok (.iastore, 1) := by decide +kernel
theorem dX0_readOld_166 : decode cX0_readOld 166 = .ok (.return_, 1) := by decide +kernel
theorem dX0_readOld_167 : decode cX0_readOld 167 = .ok (.aload_n 0, 1) := by decide +kernel
theorem dX0_readOld_168 : decode cX0_readOld 168 = .ok (.getfield 9, 3) := by decide +kernel
theorem dX0_readOld_171 : decode cX0_readOld 171 = .ok (.bipush 41, 2) := by decide +kernel
theorem dX0_readOld_173 : decode cX0_readOld 173 = .ok (.invokevirtual 191, 3) := by decide +kernel
theorem dX0_readOld_176 : decode cX0_readOld 176 = .ok (.aload_n 0, 1) := by decide +kernel
theorem dX0_readOld_177 : decode cX0_readOld 177 = .ok (.getfield 44, 3) := by decide +kernel
theorem dX0_readOld_180 : decode cX0_readOld 180 = .ok (.iconst 4, 1) := by decide +kernel
theorem dX0_readOld_181 : decode cX0_readOld 181 = .ok (.aload_n 0, 1) := by decide +kernel
theorem dX0_readOld_182 : decode cX0_readOld 182 = .ok (.getfield 15, 3) := by decide +kernel
theorem dX0_readOld_185 : decode cX0_readOld 185 = .ok (.getfield 134, 3) := by decide +kernel
theorem dX0_readOld_188 : decode cX0_readOld 188 = .ok (.iload_n 3, 1) := by decide +kernel
theorem dX0_readOld_189 : decode cX0_readOld 189 = .ok (.invokevirtual 177, 3) := by decide +kernel
theorem dX0_readOld_192 : decode cX0_readOld 192 = .ok (.invokevirtual 112, 3) := by decide +kernel
theorem dX0_readOld_195 : decode cX0_readOld 195 = .ok (.aload_n 0, 1) := by decide +kernel
theorem dX0_readOld_196 : decode cX0_readOld 196 = .ok (.iconst 2, 1) := by decide +kernel
theorem dX0_readOld_197 : decode cX0_readOld 197 = .ok (.invokevirtual 123, 3) := by decide +kernel
theorem dX0_readOld_200 : decode cX0_readOld 200 = .ok (.return_, 1) := by decide +kernel
theorem dX0_readBehind_0 : decode cX0_readBehind 0 = .ok (.iload_n 1, 1) := by decide +kernel
theorem dX0_readBehind_1 : decode cX0_readBehind 1 = .ok (.invokestatic 206, 3) := by decide +kernel
theorem dX0_readBehind_4 : decode cX0_readBehind 4 = .ok (.istore_n 2, 1) := by decide +kernel
theorem dX0_readBehind_5 : decode cX0_readBehind 5 = .ok (.aload_n 0, 1) := by decide +kernel
theorem dX0_readBehind_6 : decode cX0_readBehind 6 = .ok (.iload_n 2, 1) := by decide +kernel
theorem dX0_readBehind_7 : decode cX0_readBehind 7 = .ok (.iconst 1, 1) := by decide +kernel
theorem dX0_readBehind_8 : decode cX0_readBehind 8 = .ok (.invokestatic 200, 3) := by decide +kernel
theorem dX0_readBehind_11 : decode cX0_readBehind 11 = .ok (.invokevirtual 209, 3) := by decide +kernel
theorem dX0_readBehind_14 : decode cX0_readBehind 14 = .ok (.aload_n 0, 1) := by decide +kernel
theorem dX0_readBehind_15 : decode cX0_readBehind 15 = .ok (.getfield 9, 3) := by decide +kernel
theorem dX0_readBehind_18 : decode cX0_readBehind 18 = .ok (.getfield 64, 3) := by decide +kernel
theorem dX0_readBehind_21 : decode cX0_readBehind 21 = .ok (.ifCond .eq 4, 3) := by decide +kernel
theorem dX0_readBehind_24 : decode cX0_readBehind 24 = .ok (.return_, 1) := by decide +kernel
theorem dX0_readBehind_25 : decode cX0_readBehind 25 = .ok (.iload_n 2, 1) := by decide +kernel
theorem dX0_readBehind_26 : decode cX0_readBehind 26 = .ok (.ifCond .le 11, 3) := by decide +kernel
theorem dX0_readBehind_29 : decode cX0_readBehind 29 = .ok (.aload_n 0, 1) := by decide +kernel
theorem dX0_readBehind_30 : decode cX0_readBehind 30 = .ok (.iload_n 1, 1) := by decide +kernel
theorem dX0_readBehind_31 : decode cX0_readBehind 31 = .ok (.invokevirtual 212, 3) := by decide +kernel
theorem dX0_readBehind_34 : decode cX0_readBehind 34 = .ok (.goto 165, 3) := by decide +kernel
theorem dX0_readBehind_37 : decode cX0_readBehind 37 = .ok (.aload_n 0, 1) := by decide +kernel
theorem dX0_readBehind_38 : decode cX0_readBehind 38 = .ok (.getfield 45, 3) := by decide +kernel
theorem dX0_readBehind_41 : decode cX0_readBehind 41 = .ok (.ifCond .ne 11, 3) := by decide +kernel
theorem dX0_readBehind_44 : decode cX0_readBehind 44 = .ok (.aload_n 0, 1) := by decide +kernel
theorem dX0_readBehind_45 : decode cX0_readBehind 45 = .ok (.iconst 1, 1) := by decide +kernel
theorem dX0_readBehind_46 : decode cX0_readBehind 46 = .ok (.putfield 59, 3) := by decide +kernel
theorem dX0_readBehind_49 : decode cX0_readBehind 49 = .ok (.goto 150, 3) := by decide +kernel
theorem dX0_readBehind_52 : decode cX0_readBehind 52 = .ok (.aload_n 0, 1) := by decide +kernel
theorem dX0_readBehind_53 : decode cX0_readBehind 53 = .ok (.getfield 19, 3) := by decide +kernel
theorem dX0_readBehind_56 : decode cX0_readBehind 56 = .ok (.aload_n 0, 1) := by decide +kernel
theorem dX0_readBehind_57 : decode cX0_readBehind 57 = .ok (.getfield 45, 3) := by decide +kernel
theorem dX0_readBehind_60 : decode cX0_readBehind 60 = .ok (.iconst 1, 1) := by decide +kernel
theorem dX0_readBehind_61 : decode cX0_readBehind 61 = .ok (.isub, 1) := by decide +kernel
theorem dX0_readBehind_62 : decode cX0_readBehind 62 = .ok (.iaload, 1) := by decide +kernel
theorem dX0_readBehind_63 : decode cX0_readBehind 63 = .ok (.iconst 1, 1) := by decide +kernel
theorem dX0_readBehind_64 : decode cX0_readBehind 64 = .ok (.if_icmp .ne 39, 3) := by decide +kernel
theorem dX0_readBehind_67 : decode cX0_readBehind 67 = .ok (.iload_n 1, 1) := by decide +kernel
theorem dX0_readBehind_68 : decode cX0_readBehind 68 = .ok (.bipush 41, 2) := by decide +kernel
theorem dX0_readBehind_70 : decode cX0_readBehind 70 = .ok (.if_icmp .ne 33, 3) := by decide +kernel
theorem dX0_readBehind_73 : decode cX0_readBehind 73 = .ok (.aload_n 0, 1) := by decide +kernel
theorem dX0_readBehind_74 : decode cX0_readBehind 74 = .ok (.dup, 1) := by decide +kernel
theorem dX0_readBehind_75 : decode cX0_readBehind 75 = .ok (.getfield 45, 3) := by decide +kernel
theorem dX0_readBehind_78 : decode cX0_readBehind 78 = .ok (.iconst 1, 1) := by decide +kernel
theorem dX0_readBehind_79 : decode cX0_readBehind 79 = .ok (.isub, 1) := by decide +kernel
theorem dX0_readBehind_80 : decode cX0_readBehind 80 = .ok (.putfield 45, 3) := by decide +kernel
theorem dX0_readBehind_83 : decode cX0_readBehind 83 = .ok (.aload_n 0, 1) := by decide +kernel
theorem dX0_readBehind_84 : decode cX0_readBehind 84 = .ok (.dup, 1) := by decide +kernel
theorem dX0_readBehind_85 : decode cX0_readBehind 85 = .ok (.getfield 52, 3) := by decide +kernel
theorem dX0_readBehind_88 : decode cX0_readBehind 88 = .ok (.iconst 1, 1) := by decide +kernel
theorem dX0_readBehind_89 : decode cX0_readBehind 89 = .ok (.isub, 1) := by decide +kernel
theorem dX0_readBehind_90 : decode cX0_readBehind 90 = .ok (.putfield 52, 3) := by decide +kernel
theorem dX0_readBehind_93 : decode cX0_readBehind 93 = .ok (.aload_n 0, 1) := by decide +kernel
theorem dX0_readBehind_94 : decode cX0_readBehind 94 = .ok (.getfield 9, 3) := by decide +kernel
theorem dX0_readBehind_97 : decode cX0_readBehind 97 = .ok (.invokevirtual 120, 3) := by decide +kernel
theorem dX0_readBehind_100 : decode cX0_readBehind 100 = .ok (.goto 99, 3) := by decide +kernel
theorem dX0_readBehind_103 : decode cX0_readBehind 103 = .ok (.aload_n 0, 1) := by decide +kernel
theorem dX0_readBehind_104 : decode cX0_readBehind 104 = .ok (.getfield 19, 3) := by decide +kernel
theorem dX0_readBehind_107 : decode cX0_readBehind 107 = .ok (.aload_n 0, 1) := by decide +kernel
theorem dX0_readBehind_108 : decode cX0_readBehind 108 = .ok (.getfield 45, 3) := by decide +kernel
theorem dX0_readBehind_111 : decode cX0_readBehind 111 = .ok (.iconst 1, 1) := by decide +kernel
theorem dX0_readBehind_112 : decode cX0_readBehind 112 = .ok (.isub, 1) := by decide +kernel
theorem dX0_readBehind_113 : decode cX0_readBehind 113 = .ok (.iaload, 1) := by decide +kernel
theorem dX0_readBehind_114 : decode cX0_readBehind 114 = .ok (.iconst 4, 1) := by decide +kernel
theorem dX0_readBehind_115 : decode cX0_readBehind 115 = .ok (.if_icmp .eq 18, 3) := by decide +kernel
theorem dX0_readBehind_118 : decode cX0_readBehind 118 = .ok (.aload_n 0, 1) := by decide +kernel
theorem dX0_readBehind_119 : decode cX0_readBehind 119 = .ok (.getfield 19, 3) := by decide +kernel
theorem dX0_readBehind_122 : decode cX0_readBehind 122 = .ok (.aload_n 0, 1) := by decide +kernel
theorem dX0_readBehind_123 : decode cX0_readBehind 123 = .ok (.getfield 45, 3) := by decide +kernel
theorem dX0_readBehind_126 : decode cX0_readBehind 126 = .ok (.iconst 1, 1) := by decide +kernel
theorem dX0_readBehind_127 : decode cX0_readBehind 127 = .ok (.isub, 1) := by decide +kernel
theorem dX0_readBehind_128 : decode cX0_readBehind 128 = .ok (.iaload, 1) := by decide +kernel
theorem dX0_readBehind_129 : decode cX0_readBehind 129 = .ok (.iconst 5, 1) := by decide +kernel
theorem dX0_readBehind_130 : decode cX0_readBehind 130 = .ok (.if_icmp .ne 16, 3) := by decide +kernel
theorem dX0_readBehind_133 : decode cX0_readBehind 133 = .ok (.iload_n 1, 1) := by decide +kernel
theorem dX0_readBehind_134 : decode cX0_readBehind 134 = .ok (.bipush 93, 2) := by decide +kernel
theorem dX0_readBehind_136 : decode cX0_readBehind 136 = .ok (.if_icmp .ne 10, 3) := by decide +kernel
theorem dX0_readBehind_139 : decode cX0_readBehind 139 = .ok (.aload_n 0, 1) := by decide +kernel
theorem dX0_readBehind_140 : decode cX0_readBehind 140 = .ok (.invokevirtual 215, 3) := by decide +kernel
theorem dX0_readBehind_143 : decode cX0_readBehind 143 = .ok (.goto 56, 3) := by decide +kernel
theorem dX0_readBehind_146 : decode cX0_readBehind 146 = .ok (.aload_n 0, 1) := by decide +kernel
theorem dX0_readBehind_147 : decode cX0_readBehind 147 = .ok (.getfield 19, 3) := by decide +kernel
theorem dX0_readBehind_150 : decode cX0_readBehind 150 = .ok (.aload_n 0, 1) := by decide +kernel
theorem dX0_readBehind_151 : decode cX0_readBehind 151 = .ok (.getfield 45, 3) := by decide +kernel
theorem dX0_readBehind_154 : decode cX0_readBehind 154 = .ok (.iconst 1, 1) := by decide +kernel
theorem dX0_readBehind_155 : decode cX0_readBehind 155 = .ok (.isub, 1) := by decide +kernel
theorem dX0_readBehind_156 : decode cX0_readBehind 156 = .ok (.iaload, 1) := by decide +kernel
theorem dX0_readBehind_157 : decode cX0_readBehind 157 = .ok (.iconst 2, 1) := by decide +kernel
theorem dX0_readBehind_158 : decode cX0_readBehind 158 = .ok (.if_icmp .eq 18, 3) := by decide +kernel
theorem dX0_readBehind_161 : decode cX0_readBehind 161 = .ok (.aload_n 0, 1) := by decide +kernel
theorem dX0_readBehind_162 : decode cX0_readBehind 162 = .ok (.getfield 19, 3) := by decide +kernel
theorem dX0_readBehind_165 : decode cX0_readBehind 165 = .ok (.aload_n 0, 1) := by decide +kernel
theorem dX0_readBehind_166 : decode cX0_readBehind 166 = .ok (.getfield 45, 3) := by decide +kernel
theorem dX0_readBehind_169 : decode cX0_readBehind 169 = .ok (.iconst 1, 1) := by decide +kernel
theorem dX0_readBehind_170 : decode cX0_readBehind 170 = .ok (.isub, 1) := by decide +kernel
theorem dX0_readBehind_171 : decode cX0_readBehind 171 = .ok (.iaload, 1) := by decide +kernel
theorem dX0_readBehind_172 : decode cX0_readBehind 172 = .ok (.iconst 3, 1) := by decide +kernel
theorem dX0_readBehind_173 : decode cX0_readBehind 173 = .ok (.if_icmp .ne 11, 3) := by decide +kernel
theorem dX0_readBehind_176 : decode cX0_readBehind 176 = .ok (.aload_n 0, 1) := by decide +kernel
theorem dX0_readBehind_177 : decode cX0_readBehind 177 = .ok (.iload_n 1, 1) := by decide +kernel
theorem dX0_readBehind_178 : decode cX0_readBehind 178 = .ok (.invokevirtual 218, 3) := by decide +kernel
theorem dX0_readBehind_181 : decode cX0_readBehind 181 = .ok (.goto 18, 3) := by decide +kernel
theorem dX0_readBehind_184 : decode cX0_readBehind 184 = .ok (.aload_n 0, 1) := by decide +kernel
theorem dX0_readBehind_185 : decode cX0_readBehind 185 = .ok (.getfield 9, 3) := by decide +kernel
theorem dX0_readBehind_188 : decode cX0_readBehind 188 = .ok (.iconst 1, 1) := by decide +kernel
theorem dX0_readBehind_189 : decode cX0_readBehind 189 = .ok (.aload_n 0, 1) := by decide +kernel
theorem dX0_readBehind_190 : decode cX0_readBehind 190 = .ok (.getfield 9, 3) := by decide +kernel
theorem dX0_readBehind_193 : decode cX0_readBehind 193 = .ok (.invokevirtual 99, 3) := by decide +kernel
theorem dX0_readBehind_196 : decode cX0_readBehind 196 = .ok (.invokevirtual 102, 3) := by decide +kernel
theorem dX0_readBehind_199 : decode cX0_readBehind 199 = .ok (.return_, 1) := by decide +kernel
theorem dX0_levelOf_0 : decode cX0_levelOf 0 = .ok (.iload_n 0, 1) := by decide +kernel
theorem dX0_levelOf_1 : decode cX0_levelOf 1 = .ok (.lookupswitch 127 #[(37, 125), (42, 125), (43, 123), (45, 123), (47, 125), (60, 121), (62, 121), (201, 119), (202, 119), (203, 121), (204, 121), (205, 117), (206, 115)], 115) := by decide +kernel
theorem dX0_levelOf_116 : decode cX0_levelOf 116 = .ok (.iconst 1, 1) := by decide +kernel
theorem dX0_levelOf_117 : decode cX0_levelOf 117 = .ok (.ireturn, 1) := by decide +kernel
theorem dX0_levelOf_118 : decode cX0_levelOf 118 = .ok (.iconst 2, 1) := by decide +kernel
theorem dX0_levelOf_119 : decode cX0_levelOf 119 = .ok (.ireturn, 1) := by decide +kernel
theorem dX0_levelOf_120 : decode cX0_levelOf 120 = .ok (.iconst 3, 1) := by decide +kernel
theorem dX0_levelOf_121 : decode cX0_levelOf 121 = .ok (.ireturn, 1) := by decide +kernel
theorem dX0_levelOf_122 : decode cX0_levelOf 122 = .ok (.iconst 3, 1) := by decide +kernel
theorem dX0_levelOf_123 : decode cX0_levelOf 123 = .ok (.ireturn, 1) := by decide +kernel
theorem dX0_levelOf_124 : decode cX0_levelOf 124 = .ok (.iconst 4, 1) := by decide +kernel
theorem dX0_levelOf_125 : decode cX0_levelOf 125 = .ok (.ireturn, 1) := by decide +kernel
theorem dX0_levelOf_126 : decode cX0_levelOf 126 = .ok (.iconst 5, 1) := by decide +kernel
theorem dX0_levelOf_127 : decode cX0_levelOf 127 = .ok (.ireturn, 1) := by decide +kernel
theorem dX0_levelOf_128 : decode cX0_levelOf 128 = .ok (.iconst 0, 1) := by decide +kernel
theorem dX0_levelOf_129 : decode cX0_levelOf 129 = .ok (.ireturn, 1) := by decide +kernel
theorem dX0_openOperator_0 : decode cX0_openOperator 0 = .ok (.aload_n 0, 1) := by decide +kernel
theorem dX0_openOperator_1 : decode cX0_openOperator 1 = .ok (.getfield 44, 3) := by decide +kernel
theorem dX0_openOperator_4 : decode cX0_openOperator 4 = .ok (.getfield 221, 3) := by decide +kernel
theorem dX0_openOperator_7 : decode cX0_openOperator 7 = .ok (.istore_n 2, 1) := by decide +kernel
theorem dX0_openOperator_8 : decode cX0_openOperator 8 = .ok (.iload_n 1, 1) := by decide +kernel
theorem dX0_openOperator_9 : decode cX0_openOperator 9 = .ok (.sipush 205, 3) := by decide +kernel
theorem dX0_openOperator_12 : decode cX0_openOperator 12 = .ok (.if_icmp .ne 16, 3) := by decide +kernel
theorem dX0_openOperator_15 : decode cX0_openOperator 15 = .ok (.aload_n 0, 1) := by decide +kernel
theorem dX0_openOperator_16 : decode cX0_openOperator 16 = .ok (.getfield 44, 3) := by decide +kernel
theorem dX0_openOperator_19 : decode cX0_openOperator 19 = .ok (.bipush 24, 2) := by decide +kernel
theorem dX0_openOperator_21 : decode cX0_openOperator 21 = .ok (.iconst 0, 1) := by decide +kernel
theorem dX0_openOperator_22 : decode cX0_openOperator 22 = .ok (.invokevirtual 112, 3) := by decide +kernel
theorem dX0_openOperator_25 : decode cX0_openOperator 25 = .ok (.goto 20, 3) := by decide +kernel
theorem dX0_openOperator_28 : decode cX0_openOperator 28 = .ok (.iload_n 1, 1) := by decide +kernel
theorem dX0_openOperator_29 : decode cX0_openOperator 29 = .ok (.sipush 206, 3) := by decide +kernel
theorem dX0_openOperator_32 : decode cX0_openOperator 32 = .ok (.if_icmp .ne 13, 3) := by decide +kernel
theorem dX0_openOperator_35 : decode cX0_openOperator 35 = .ok (.aload_n 0, 1) := by decide +kernel
theorem dX0_openOperator_36 : decode cX0_openOperator 36 = .ok (.getfield 44, 3) := by decide +kernel
theorem dX0_openOperator_39 : decode cX0_openOperator 39 = .ok (.bipush 25, 2) := by decide +kernel
theorem dX0_openOperator_41 : decode cX0_openOperator 41 = .ok (.iconst 0, 1) := by decide +kernel
theorem dX0_openOperator_42 : decode cX0_openOperator 42 = .ok (.invokevirtual 112, 3) := by decide +kernel
theorem dX0_openOperator_45 : decode cX0_openOperator 45 = .ok (.aload_n 0, 1) := by decide +kernel
theorem dX0_openOperator_46 : decode cX0_openOperator 46 = .ok (.iload_n 1, 1) := by decide +kernel
theorem dX0_openOperator_47 : decode cX0_openOperator 47 = .ok (.aload_n 0, 1) := by decide +kernel
theorem dX0_openOperator_48 : decode cX0_openOperator 48 = .ok (.getfield 9, 3) := by decide +kernel
theorem dX0_openOperator_51 : decode cX0_openOperator 51 = .ok (.invokevirtual 99, 3) := by decide +kernel
theorem dX0_openOperator_54 : decode cX0_openOperator 54 = .ok (.iload_n 2, 1) := by decide +kernel
theorem dX0_openOperator_55 : decode cX0_openOperator 55 = .ok (.invokevirtual 126, 3) := by decide +kernel
theorem dX0_openOperator_58 : decode cX0_openOperator 58 = .ok (.aload_n 0, 1) := by decide +kernel
theorem dX0_openOperator_59 : decode cX0_openOperator 59 = .ok (.getfield 44, 3) := by decide +kernel
theorem dX0_openOperator_62 : decode cX0_openOperator 62 = .ok (.dup, 1) := by decide +kernel
theorem dX0_openOperator_63 : decode cX0_openOperator 63 = .ok (.getfield 117, 3) := by decide +kernel
theorem dX0_openOperator_66 : decode cX0_openOperator 66 = .ok (.iconst 1, 1) := by decide +kernel
theorem dX0_openOperator_67 : decode cX0_openOperator 67 = .ok (.iadd, 1) := by decide +kernel
theorem dX0_openOperator_68 : decode cX0_openOperator 68 = .ok (.putfield 117, 3) := by decide +kernel
theorem dX0_openOperator_71 : decode cX0_openOperator 71 = .ok (.aload_n 0, 1) := by decide +kernel
theorem dX0_openOperator_72 : decode cX0_openOperator 72 = .ok (.getfield 9, 3) := by decide +kernel
theorem dX0_openOperator_75 : decode cX0_openOperator 75 = .ok (.invokevirtual 120, 3) := by decide +kernel
theorem dX0_openOperator_78 : decode cX0_openOperator 78 = .ok (.aload_n 0, 1) := by decide +kernel
theorem dX0_openOperator_79 : decode cX0_openOperator 79 = .ok (.iconst 1, 1) := by decide +kernel
theorem dX0_openOperator_80 : decode cX0_openOperator 80 = .ok (.putfield 55, 3) := by decide +kernel
theorem dX0_openOperator_83 : decode cX0_openOperator 83 = .ok (.return_, 1) := by decide +kernel
theorem dX0_closeParts_0 : decode cX0_closeParts 0 = .ok (.iconst 1, 1) := by decide +kernel
theorem dX0_closeParts_1 : decode cX0_closeParts 1 = .ok (.istore_n 2, 1) := by decide +kernel
theorem dX0_closeParts_2 : decode cX0_closeParts 2 = .ok (.iconst 0, 1) := by decide +kernel
theorem dX0_closeParts_3 : decode cX0_closeParts 3 = .ok (.istore_n 3, 1) := by decide +kernel
theorem dX0_closeParts_4 : decode cX0_closeParts 4 = .ok (.iload_n 3, 1) := by decide +kernel
theorem dX0_closeParts_5 : decode cX0_closeParts 5 = .ok (.sipush 300, 3) := by decide +kernel
theorem dX0_closeParts_8 : decode cX0_closeParts 8 = .ok (.if_icmp .ge 243, 3) := by decide +kernel
theorem dX0_closeParts_11 : decode cX0_closeParts 11 = .ok (.iload_n 2, 1) := by decide +kernel
theorem dX0_closeParts_12 : decode cX0_closeParts 12 = .ok (.ifCond .eq 239, 3) := by decide +kernel
theorem dX0_closeParts_15 : decode cX0_closeParts 15 = .ok (.aload_n 0, 1) := by decide +kernel
theorem dX0_closeParts_16 : decode cX0_closeParts 16 = .ok (.getfield 45, 3) := by decide +kernel
theorem dX0_closeParts_19 : decode cX0_closeParts 19 = .ok (.ifCond .le 232, 3) := by decide +kernel
theorem dX0_closeParts_22 : decode cX0_closeParts 22 = .ok (.aload_n 0, 1) := by decide +kernel
theorem dX0_closeParts_23 : decode cX0_closeParts 23 = .ok (.getfield 19, 3) := by decide +kernel
theorem dX0_closeParts_26 : decode cX0_closeParts 26 = .ok (.aload_n 0, 1) := by decide +kernel
theorem dX0_closeParts_27 : decode cX0_closeParts 27 = .ok (.getfield 45, 3) := by decide +kernel
theorem dX0_closeParts_30 : decode cX0_closeParts 30 = .ok (.iconst 1, 1) := by decide +kernel
theorem dX0_closeParts_31 : decode cX0_closeParts 31 = .ok (.isub, 1) := by decide +kernel
theorem dX0_closeParts_32 : decode cX0_closeParts 32 = .ok (.iaload, 1) := by decide +kernel
theorem dX0_closeParts_33 : decode cX0_closeParts 33 = .ok (.istore 4, 2) := by decide +kernel
theorem dX0_closeParts_35 : decode cX0_closeParts 35 = .ok (.iload 4, 2) := by decide +kernel
theorem dX0_closeParts_37 : decode cX0_closeParts 37 = .ok (.bipush 6, 2) := by decide +kernel
theorem dX0_closeParts_39 : decode cX0_closeParts 39 = .ok (.if_icmp .eq 10, 3) := by decide +kernel
theorem dX0_closeParts_42 : decode cX0_closeParts 42 = .ok (.iload 4, 2) := by decide +kernel
theorem dX0_closeParts_44 : decode cX0_closeParts 44 = .ok (.bipush 7, 2) := by decide +kernel
theorem dX0_closeParts_46 : decode cX0_closeParts 46 = .ok (.if_icmp .ne 7, 3) := by decide +kernel
theorem dX0_closeParts_49 : decode cX0_closeParts 49 = .ok (.iconst 1, 1) := by decide +kernel
theorem dX0_closeParts_50 : decode cX0_closeParts 50 = .ok (.goto 4, 3) := by decide +kernel
theorem dX0_closeParts_53 : decode cX0_closeParts 53 = .ok (.iconst 0, 1) := by decide +kernel
theorem dX0_closeParts_54 : decode cX0_closeParts 54 = .ok (.istore 5, 2) := by decide +kernel
theorem dX0_closeParts_56 : decode cX0_closeParts 56 = .ok (.iload 5, 2) := by decide +kernel
theorem dX0_closeParts_58 : decode cX0_closeParts 58 = .ok (.ifCond .ne 12, 3) := by decide +kernel
theorem dX0_closeParts_61 : decode cX0_closeParts 61 = .ok (.iload 4, 2) := by decide +kernel
theorem dX0_closeParts_63 : decode cX0_closeParts 63 = .ok (.invokestatic 206, 3) := by decide +kernel
theorem dX0_closeParts_66 : decode cX0_closeParts 66 = .ok (.iload_n 1, 1) := by decide +kernel
theorem dX0_closeParts_67 : decode cX0_closeParts 67 = .ok (.if_icmp .lt 7, 3) := by decide +kernel
theorem dX0_closeParts_70 : decode cX0_closeParts 70 = .ok (.iconst 1, 1) := by decide +kernel
theorem dX0_closeParts_71 : decode cX0_closeParts 71 = .ok (.goto 4, 3) := by decide +kernel
theorem dX0_closeParts_74 : decode cX0_closeParts 74 = .ok (.iconst 0, 1) := by decide +kernel
theorem dX0_closeParts_75 : decode cX0_closeParts 75 = .ok (.istore_n 2, 1) := by decide +kernel
theorem dX0_closeParts_76 : decode cX0_closeParts 76 = .ok (.iload_n 2, 1) := by decide +kernel
theorem dX0_closeParts_77 : decode cX0_closeParts 77 = .ok (.ifCond .eq 168, 3) := by decide +kernel
theorem dX0_closeParts_80 : decode cX0_closeParts 80 = .ok (.aload_n 0, 1) := by decide +kernel
theorem dX0_closeParts_81 : decode cX0_closeParts 81 = .ok (.dup, 1) := by decide +kernel
theorem dX0_closeParts_82 : decode cX0_closeParts 82 = .ok (.getfield 45, 3) := by decide +kernel
theorem dX0_closeParts_85 : decode cX0_closeParts 85 = .ok (.iconst 1, 1) := by decide +kernel
theorem dX0_closeParts_86 : decode cX0_closeParts 86 = .ok (.isub, 1) := by decide +kernel
theorem dX0_closeParts_87 : decode cX0_closeParts 87 = .ok (.putfield 45, 3) := by decide +kernel
theorem dX0_closeParts_90 : decode cX0_closeParts 90 = .ok (.aload_n 0, 1) := by decide +kernel
theorem dX0_closeParts_91 : decode cX0_closeParts 91 = .ok (.invokevirtual 224, 3) := by decide +kernel
theorem dX0_closeParts_94 : decode cX0_closeParts 94 = .ok (.istore 6, 2) := by decide +kernel
theorem dX0_closeParts_96 : decode cX0_closeParts 96 = .ok (.iload 5, 2) := by decide +kernel
theorem dX0_closeParts_98 : decode cX0_closeParts 98 = .ok (.ifCond .eq 38, 3) := by decide +kernel
theorem dX0_closeParts_101 : decode cX0_closeParts 101 = .ok (.aload_n 0, 1) := by decide +kernel
theorem dX0_closeParts_102 : decode cX0_closeParts 102 = .ok (.dup, 1) := by decide +kernel
theorem dX0_closeParts_103 : decode cX0_closeParts 103 = .ok (.getfield 52, 3) := by decide +kernel
theorem dX0_closeParts_106 : decode cX0_closeParts 106 = .ok (.iconst 1, 1) := by decide +kernel
theorem dX0_closeParts_107 : decode cX0_closeParts 107 = .ok (.isub, 1) := by decide +kernel
theorem dX0_closeParts_108 : decode cX0_closeParts 108 = .ok (.putfield 52, 3) := by decide +kernel
theorem dX0_closeParts_111 : decode cX0_closeParts 111 = .ok (.aload_n 0, 1) := by decide +kernel
theorem dX0_closeParts_112 : decode cX0_closeParts 112 = .ok (.getfield 44, 3) := by decide +kernel
theorem dX0_closeParts_115 : decode cX0_closeParts 115 = .ok (.iload 4, 2) := by decide +kernel
theorem dX0_closeParts_117 : decode cX0_closeParts 117 = .ok (.bipush 6, 2) := by decide +kernel
theorem dX0_closeParts_119 : decode cX0_closeParts 119 = .ok (.if_icmp .ne 8, 3) := by decide +kernel
theorem dX0_closeParts_122 : decode cX0_closeParts 122 = .ok (.bipush 6, 2) := by decide +kernel
theorem dX0_closeParts_124 : decode cX0_closeParts 124 = .ok (.goto 5, 3) := by decide +kernel
theorem dX0_closeParts_127 : decode cX0_closeParts 127 = .ok (.bipush 7, 2) := by decide +kernel
theorem dX0_closeParts_129 : decode cX0_closeParts 129 = .ok (.iconst 0, 1) := by decide +kernel
theorem dX0_closeParts_130 : decode cX0_closeParts 130 = .ok (.invokevirtual 112, 3) := by decide +kernel
theorem dX0_closeParts_133 : decode cX0_closeParts 133 = .ok (.goto 58, 3) := by decide +kernel
theorem dX0_closeParts_136 : decode cX0_closeParts 136 = .ok (.iload 4, 2) := by decide +kernel
theorem dX0_closeParts_138 : decode cX0_closeParts 138 = .ok (.sipush 205, 3) := by decide +kernel
theorem dX0_closeParts_141 : decode cX0_closeParts 141 = .ok (.if_icmp .eq 11, 3) := by decide +kernel
theorem dX0_closeParts_144 : decode cX0_closeParts 144 = .ok (.iload 4, 2) := by decide +kernel
theorem dX0_closeParts_146 : decode cX0_closeParts 146 = .ok (.sipush 206, 3) := by decide +kernel
theorem dX0_closeParts_149 : decode cX0_closeParts 149 = .ok (.if_icmp .ne 32, 3) := by decide +kernel
theorem dX0_closeParts_152 : decode cX0_closeParts 152 = .ok (.aload_n 0, 1) := by decide +kernel
theorem dX0_closeParts_153 : decode cX0_closeParts 153 = .ok (.getfield 44, 3) := by decide +kernel
theorem dX0_closeParts_156 : decode cX0_closeParts 156 = .ok (.bipush 8, 2) := by decide +kernel
theorem dX0_closeParts_158 : decode cX0_closeParts 158 = .ok (.iconst 0, 1) := by decide +kernel
theorem dX0_closeParts_159 : decode cX0_closeParts 159 = .ok (.invokevirtual 112, 3) := by decide +kernel
theorem dX0_closeParts_162 : decode cX0_closeParts 162 = .ok (.aload_n 0, 1) := by decide +kernel
theorem dX0_closeParts_163 : decode cX0_closeParts 163 = .ok (.getfield 44, 3) := by decide +kernel
theorem dX0_closeParts_166 : decode cX0_closeParts 166 = .ok (.aload_n 0, 1) := by decide +kernel
theorem dX0_closeParts_167 : decode cX0_closeParts 167 = .ok (.getfield 26, 3) := by decide +kernel
theorem dX0_closeParts_170 : decode cX0_closeParts 170 = .ok (.aload_n 0, 1) := by decide +kernel
theorem dX0_closeParts_171 : decode cX0_closeParts 171 = .ok (.getfield 45, 3) := by decide +kernel
theorem dX0_closeParts_174 : decode cX0_closeParts 174 = .ok (.iaload, 1) := by decide +kernel
theorem dX0_closeParts_175 : decode cX0_closeParts 175 = .ok (.invokevirtual 227, 3) := by decide +kernel
theorem dX0_closeParts_178 : decode cX0_closeParts 178 = .ok (.goto 13, 3) := by decide +kernel
theorem dX0_closeParts_181 : decode cX0_closeParts 181 = .ok (.aload_n 0, 1) := by decide +kernel
theorem dX0_closeParts_182 : decode cX0_closeParts 182 = .ok (.getfield 44, 3) := by decide +kernel
theorem dX0_closeParts_185 : decode cX0_closeParts 185 = .ok (.iload 4, 2) := by decide +kernel
theorem dX0_closeParts_187 : decode cX0_closeParts 187 = .ok (.iconst 0, 1) := by decide +kernel
theorem dX0_closeParts_188 : decode cX0_closeParts 188 = .ok (.invokevirtual 112, 3) := by decide +kernel
theorem dX0_closeParts_191 : decode cX0_closeParts 191 = .ok (.iconst 1, 1) := by decide +kernel
theorem dX0_closeParts_192 : decode cX0_closeParts 192 = .ok (.iload 5, 2) := by decide +kernel
theorem dX0_closeParts_194 : decode cX0_closeParts 194 = .ok (.ifCond .eq 8, 3) := by decide +kernel
theorem dX0_closeParts_197 : decode cX0_closeParts 197 = .ok (.iload 6, 2) := by decide +kernel
theorem dX0_closeParts_199 : decode cX0_closeParts 199 = .ok (.goto 12, 3) := by decide +kernel
theorem dX0_closeParts_202 : decode cX0_closeParts 202 = .ok (.iload 6, 2) := by decide +kernel
theorem dX0_closeParts_204 : decode cX0_closeParts 204 = .ok (.aload_n 0, 1) := by decide +kernel
theorem dX0_closeParts_205 : decode cX0_closeParts 205 = .ok (.invokevirtual 224, 3) := by decide +kernel
theorem dX0_closeParts_208 : decode cX0_closeParts 208 = .ok (.invokestatic 200, 3) := by decide +kernel
theorem dX0_closeParts_211 : decode cX0_closeParts 211 = .ok (.iadd, 1) := by decide +kernel
theorem dX0_closeParts_212 : decode cX0_closeParts 212 = .ok (.istore 6, 2) := by decide +kernel
theorem dX0_closeParts_214 : decode cX0_closeParts 214 = .ok (.aload_n 0, 1) := by decide +kernel
theorem dX0_closeParts_215 : decode cX0_closeParts 215 = .ok (.iload 6, 2) := by decide +kernel
theorem dX0_closeParts_217 : decode cX0_closeParts 217 = .ok (.invokevirtual 123, 3) := by decide +kernel
theorem dX0_closeParts_220 : decode cX0_closeParts 220 = .ok (.iload 6, 2) := by decide +kernel
theorem dX0_closeParts_222 : decode cX0_closeParts 222 = .ok (.bipush 12, 2) := by decide +kernel
theorem dX0_closeParts_224 : decode cX0_closeParts 224 = .ok (.if_icmp .le 21, 3) := by decide +kernel
theorem dX0_closeParts_227 : decode cX0_closeParts 227 = .ok (.aload_n 0, 1) := by decide +kernel
theorem dX0_closeParts_228 : decode cX0_closeParts 228 = .ok (.getfield 9, 3) := by decide +kernel
theorem dX0_closeParts_231 : decode cX0_closeParts 231 = .ok (.bipush 7, 2) := by decide +kernel
theorem dX0_closeParts_233 : decode cX0_closeParts 233 = .ok (.aload_n 0, 1) := by decide +kernel
theorem dX0_closeParts_234 : decode cX0_closeParts 234 = .ok (.getfield 23, 3) := by decide +kernel
theorem dX0_closeParts_237 : decode cX0_closeParts 237 = .ok (.aload_n 0, 1) := by decide +kernel
theorem dX0_closeParts_238 : decode cX0_closeParts 238 = .ok (.getfield 45, 3) := by decide +kernel
theorem dX0_closeParts_241 : decode cX0_closeParts 241 = .ok (.iaload, 1) := by decide +kernel
theorem dX0_closeParts_242 : decode cX0_closeParts 242 = .ok (.invokevirtual 102, 3) := by decide +kernel
theorem dX0_closeParts_245 : decode cX0_closeParts 245 = .ok (.iinc 3 1, 3) := by decide +kernel
theorem dX0_closeParts_248 : decode cX0_closeParts 248 = .ok (.goto (-244), 3) := by decide +kernel
theorem dX0_closeParts_251 : decode cX0_closeParts 251 = .ok (.return_, 1) := by decide +kernel
theorem dX0_closeIndex_0 : decode cX0_closeIndex 0 = .ok (.aload_n 0, 1) := by decide +kernel
theorem dX0_closeIndex_1 : decode cX0_closeIndex 1 = .ok (.getfield 9, 3) := by decide +kernel
theorem dX0_closeIndex_4 : decode cX0_closeIndex 4 = .ok (.invokevirtual 120, 3) := by decide +kernel
theorem dX0_closeIndex_7 : decode cX0_closeIndex 7 = .ok (.aload_n 0, 1) := by decide +kernel
theorem dX0_closeIndex_8 : decode cX0_closeIndex 8 = .ok (.dup, 1) := by decide +kernel
theorem dX0_closeIndex_9 : decode cX0_closeIndex 9 = .ok (.getfield 45, 3) := by decide +kernel
theorem dX0_closeIndex_12 : decode cX0_closeIndex 12 = .ok (.iconst 1, 1) := by decide +kernel
theorem dX0_closeIndex_13 : decode cX0_closeIndex 13 = .ok (.isub, 1) := by decide +kernel
theorem dX0_closeIndex_14 : decode cX0_closeIndex 14 = .ok (.putfield 45, 3) := by decide +kernel
theorem dX0_closeIndex_17 : decode cX0_closeIndex 17 = .ok (.aload_n 0, 1) := by decide +kernel
theorem dX0_closeIndex_18 : decode cX0_closeIndex 18 = .ok (.dup, 1) := by decide +kernel
theorem dX0_closeIndex_19 : decode cX0_closeIndex 19 = .ok (.getfield 52, 3) := by decide +kernel
theorem dX0_closeIndex_22 : decode cX0_closeIndex 22 = .ok (.iconst 1, 1) := by decide +kernel
theorem dX0_closeIndex_23 : decode cX0_closeIndex 23 = .ok (.isub, 1) := by decide +kernel
theorem dX0_closeIndex_24 : decode cX0_closeIndex 24 = .ok (.putfield 52, 3) := by decide +kernel
theorem dX0_closeIndex_27 : decode cX0_closeIndex 27 = .ok (.aload_n 0, 1) := by decide +kernel
theorem dX0_closeIndex_28 : decode cX0_closeIndex 28 = .ok (.getfield 19, 3) := by decide +kernel
theorem dX0_closeIndex_31 : decode cX0_closeIndex 31 = .ok (.aload_n 0, 1) := by decide +kernel
theorem dX0_closeIndex_32 : decode cX0_closeIndex 32 = .ok (.getfield 45, 3) := by decide +kernel
theorem dX0_closeIndex_35 : decode cX0_closeIndex 35 = .ok (.iaload, 1) := by decide +kernel
theorem dX0_closeIndex_36 : decode cX0_closeIndex 36 = .ok (.iconst 5, 1) := by decide +kernel
theorem dX0_closeIndex_37 : decode cX0_closeIndex 37 = .ok (.if_icmp .ne 7, 3) := by decide +kernel
theorem dX0_closeIndex_40 : decode cX0_closeIndex 40 = .ok (.iconst 1, 1) := by decide +kernel
theorem dX0_closeIndex_41 : decode cX0_closeIndex 41 = .ok (.goto 4, 3) := by decide +kernel
theorem dX0_closeIndex_44 : decode cX0_closeIndex 44 = .ok (.iconst 0, 1) := by decide +kernel
theorem dX0_closeIndex_45 : decode cX0_closeIndex 45 = .ok (.istore_n 1, 1) := by decide +kernel
theorem dX0_closeIndex_46 : decode cX0_closeIndex 46 = .ok (.aload_n 0, 1) := by decide +kernel
theorem dX0_closeIndex_47 : decode cX0_closeIndex 47 = .ok (.invokevirtual 224, 3) := by decide +kernel
theorem dX0_closeIndex_50 : decode cX0_closeIndex 50 = .ok (.iconst 1, 1) := by decide +kernel
theorem dX0_closeIndex_51 : decode cX0_closeIndex 51 = .ok (.iadd, 1) := by decide +kernel
theorem dX0_closeIndex_52 : decode cX0_closeIndex 52 = .ok (.istore_n 2, 1) := by decide +kernel
theorem dX0_closeIndex_53 : decode cX0_closeIndex 53 = .ok (.iload_n 2, 1) := by decide +kernel
theorem dX0_closeIndex_54 : decode cX0_closeIndex 54 = .ok (.bipush 12, 2) := by decide +kernel
theorem dX0_closeIndex_56 : decode cX0_closeIndex 56 = .ok (.if_icmp .le 21, 3) := by decide +kernel
theorem dX0_closeIndex_59 : decode cX0_closeIndex 59 = .ok (.aload_n 0, 1) := by decide +kernel
theorem dX0_closeIndex_60 : decode cX0_closeIndex 60 = .ok (.getfield 9, 3) := by decide +kernel
theorem dX0_closeIndex_63 : decode cX0_closeIndex 63 = .ok (.bipush 7, 2) := by decide +kernel
theorem dX0_closeIndex_65 : decode cX0_closeIndex 65 = .ok (.aload_n 0, 1) := by decide +kernel
theorem dX0_closeIndex_66 : decode cX0_closeIndex 66 = .ok (.getfield 23, 3) := by decide +kernel
theorem dX0_closeIndex_69 : decode cX0_closeIndex 69 = .ok (.aload_n 0, 1) := by decide +kernel
theorem dX0_closeIndex_70 : decode cX0_closeIndex 70 = .ok (.getfield 45, 3) := by decide +kernel
theorem dX0_closeIndex_73 : decode cX0_closeIndex 73 = .ok (.iaload, 1) := by decide +kernel
theorem dX0_closeIndex_74 : decode cX0_closeIndex 74 = .ok (.invokevirtual 102, 3) := by decide +kernel
theorem dX0_closeIndex_77 : decode cX0_closeIndex 77 = .ok (.aload_n 0, 1) := by decide +kernel
theorem dX0_closeIndex_78 : decode cX0_closeIndex 78 = .ok (.getfield 44, 3) := by decide +kernel
theorem dX0_closeIndex_81 : decode cX0_closeIndex 81 = .ok (.iload_n 1, 1) := by decide +kernel
theorem dX0_closeIndex_82 : decode cX0_closeIndex 82 = .ok (.ifCond .eq 8, 3) := by decide +kernel
theorem dX0_closeIndex_85 : decode cX0_closeIndex 85 = .ok (.bipush 10, 2) := by decide +kernel
theorem dX0_closeIndex_87 : decode cX0_closeIndex 87 = .ok (.goto 5, 3) := by decide +kernel
theorem dX0_closeIndex_90 : decode cX0_closeIndex 90 = .ok (.bipush 9, 2) := by decide +kernel
theorem dX0_closeIndex_92 : decode cX0_closeIndex 92 = .ok (.aload_n 0, 1) := by decide +kernel
theorem dX0_closeIndex_93 : decode cX0_closeIndex 93 = .ok (.getfield 26, 3) := by decide +kernel
theorem dX0_closeIndex_96 : decode cX0_closeIndex 96 = .ok (.aload_n 0, 1) := by decide +kernel
theorem dX0_closeIndex_97 : decode cX0_closeIndex 97 = .ok (.getfield 45, 3) := by decide +kernel
theorem dX0_closeIndex_100 : decode cX0_closeIndex 100 = .ok (.iaload, 1) := by decide +kernel
theorem dX0_closeIndex_101 : decode cX0_closeIndex 101 = .ok (.invokevirtual 112, 3) := by decide +kernel
theorem dX0_closeIndex_104 : decode cX0_closeIndex 104 = .ok (.iload_n 1, 1) := by decide +kernel
theorem dX0_closeIndex_105 : decode cX0_closeIndex 105 = .ok (.ifCond .eq 50, 3) := by decide +kernel
theorem dX0_closeIndex_108 : decode cX0_closeIndex 108 = .ok (.aload_n 0, 1) := by decide +kernel
theorem dX0_closeIndex_109 : decode cX0_closeIndex 109 = .ok (.getfield 9, 3) := by decide +kernel
theorem dX0_closeIndex_112 : decode cX0_closeIndex 112 = .ok (.invokevirtual 67, 3) := by decide +kernel
theorem dX0_closeIndex_115 : decode cX0_closeIndex 115 = .ok (.bipush 41, 2) := by decide +kernel
theorem dX0_closeIndex_117 : decode cX0_closeIndex 117 = .ok (.if_icmp .eq 18, 3) := by decide +kernel
theorem dX0_closeIndex_120 : decode cX0_closeIndex 120 = .ok (.aload_n 0, 1) := by decide +kernel
theorem dX0_closeIndex_121 : decode cX0_closeIndex 121 = .ok (.getfield 9, 3) := by decide +kernel
theorem dX0_closeIndex_124 : decode cX0_closeIndex 124 = .ok (.iconst 1, 1) := by decide +kernel
theorem dX0_closeIndex_125 : decode cX0_closeIndex 125 = .ok (.aload_n 0, 1) := by decide +kernel
theorem dX0_closeIndex_126 : decode cX0_closeIndex 126 = .ok (.getfield 9, 3) := by decide +kernel
theorem dX0_closeIndex_129 : decode cX0_closeIndex 129 = .ok (.invokevirtual 99, 3) := by decide +kernel
theorem dX0_closeIndex_132 : decode cX0_closeIndex 132 = .ok (.invokevirtual 102, 3) := by decide +kernel
theorem dX0_closeIndex_135 : decode cX0_closeIndex 135 = .ok (.aload_n 0, 1) := by decide +kernel
theorem dX0_closeIndex_136 : decode cX0_closeIndex 136 = .ok (.getfield 9, 3) := by decide +kernel
theorem dX0_closeIndex_139 : decode cX0_closeIndex 139 = .ok (.invokevirtual 120, 3) := by decide +kernel
theorem dX0_closeIndex_142 : decode cX0_closeIndex 142 = .ok (.aload_n 0, 1) := by decide +kernel
theorem dX0_closeIndex_143 : decode cX0_closeIndex 143 = .ok (.dup, 1) := by decide +kernel
theorem dX0_closeIndex_144 : decode cX0_closeIndex 144 = .ok (.getfield 52, 3) := by decide +kernel
theorem dX0_closeIndex_147 : decode cX0_closeIndex 147 = .ok (.iconst 1, 1) := by decide +kernel
theorem dX0_closeIndex_148 : decode cX0_closeIndex 148 = .ok (.isub, 1) := by decide +kernel
theorem dX0_closeIndex_149 : decode cX0_closeIndex 149 = .ok (.putfield 52, 3) := by decide +kernel
theorem dX0_closeIndex_152 : decode cX0_closeIndex 152 = .ok (.iinc 2 1, 3) := by decide +kernel
theorem dX0_closeIndex_155 : decode cX0_closeIndex 155 = .ok (.iload_n 2, 1) := by decide +kernel
theorem dX0_closeIndex_156 : decode cX0_closeIndex 156 = .ok (.bipush 12, 2) := by decide +kernel
theorem dX0_closeIndex_158 : decode cX0_closeIndex 158 = .ok (.if_icmp .le 21, 3) := by decide +kernel
theorem dX0_closeIndex_161 : decode cX0_closeIndex 161 = .ok (.aload_n 0, 1) := by decide +kernel
theorem dX0_closeIndex_162 : decode cX0_closeIndex 162 = .ok (.getfield 9, 3) := by decide +kernel
theorem dX0_closeIndex_165 : decode cX0_closeIndex 165 = .ok (.bipush 7, 2) := by decide +kernel
theorem dX0_closeIndex_167 : decode cX0_closeIndex 167 = .ok (.aload_n 0, 1) := by decide +kernel
theorem dX0_closeIndex_168 : decode cX0_closeIndex 168 = .ok (.getfield 32, 3) := by decide +kernel
theorem dX0_closeIndex_171 : decode cX0_closeIndex 171 = .ok (.aload_n 0, 1) := by decide +kernel
theorem dX0_closeIndex_172 : decode cX0_closeIndex 172 = .ok (.getfield 45, 3) := by decide +kernel
theorem dX0_closeIndex_175 : decode cX0_closeIndex 175 = .ok (.iaload, 1) := by decide +kernel
theorem dX0_closeIndex_176 : decode cX0_closeIndex 176 = .ok (.invokevirtual 102, 3) := by decide +kernel
theorem dX0_closeIndex_179 : decode cX0_closeIndex 179 = .ok (.aload_n 0, 1) := by decide +kernel
theorem dX0_closeIndex_180 : decode cX0_closeIndex 180 = .ok (.iload_n 2, 1) := by decide +kernel
theorem dX0_closeIndex_181 : decode cX0_closeIndex 181 = .ok (.invokevirtual 123, 3) := by decide +kernel
theorem dX0_closeIndex_184 : decode cX0_closeIndex 184 = .ok (.return_, 1) := by decide +kernel
theorem dX0_closeArgument_0 : decode cX0_closeArgument 0 = .ok (.aload_n 0, 1) := by decide +kernel
theorem dX0_closeArgument_1 : decode cX0_closeArgument 1 = .ok (.getfield 45, 3) := by decide +kernel
theorem dX0_closeArgument_4 : decode cX0_closeArgument 4 = .ok (.iconst 1, 1) := by decide +kernel
theorem dX0_closeArgument_5 : decode cX0_closeArgument 5 = .ok (.isub, 1) := by decide +kernel
theorem dX0_closeArgument_6 : decode cX0_closeArgument 6 = .ok (.istore_n 2, 1) := by decide +kernel
theorem dX0_closeArgument_7 : decode cX0_closeArgument 7 = .ok (.aload_n 0, 1) := by decide +kernel
theorem dX0_closeArgument_8 : decode cX0_closeArgument 8 = .ok (.getfield 26, 3) := by decide +kernel
theorem dX0_closeArgument_11 : decode cX0_closeArgument 11 = .ok (.iload_n 2, 1) := by decide +kernel
theorem dX0_closeArgument_12 : decode cX0_closeArgument 12 = .ok (.iaload, 1) := by decide +kernel
theorem dX0_closeArgument_13 : decode cX0_closeArgument 13 = .ok (.istore_n 3, 1) := by decide +kernel
theorem dX0_closeArgument_14 : decode cX0_closeArgument 14 = .ok (.aload_n 0, 1) := by decide +kernel
theorem dX0_closeArgument_15 : decode cX0_closeArgument 15 = .ok (.getfield 19, 3) := by decide +kernel
theorem dX0_closeArgument_18 : decode cX0_closeArgument 18 = .ok (.iload_n 2, 1) := by decide +kernel
theorem dX0_closeArgument_19 : decode cX0_closeArgument 19 = .ok (.iaload, 1) := by decide +kernel
theorem dX0_closeArgument_20 : decode cX0_closeArgument 20 = .ok (.iconst 2, 1) := by decide +kernel
theorem dX0_closeArgument_21 : decode cX0_closeArgument 21 = .ok (.if_icmp .ne 18, 3) := by decide +kernel
theorem dX0_closeArgument_24 : decode cX0_closeArgument 24 = .ok (.aload_n 0, 1) := by decide +kernel
theorem dX0_closeArgument_25 : decode cX0_closeArgument 25 = .ok (.getfield 15, 3) := by decide +kernel
theorem dX0_closeArgument_28 : decode cX0_closeArgument 28 = .ok (.getfield 134, 3) := by decide +kernel
theorem dX0_closeArgument_31 : decode cX0_closeArgument 31 = .ok (.getfield 146, 3) := by decide +kernel
theorem dX0_closeArgument_34 : decode cX0_closeArgument 34 = .ok (.iload_n 3, 1) := by decide +kernel
theorem dX0_closeArgument_35 : decode cX0_closeArgument 35 = .ok (.iaload, 1) := by decide +kernel
theorem dX0_closeArgument_36 : decode cX0_closeArgument 36 = .ok (.goto 4, 3) := by decide +kernel
theorem dX0_closeArgument_39 : decode cX0_closeArgument 39 = .ok (.iload_n 3, 1) := by decide +kernel
theorem dX0_closeArgument_40 : decode cX0_closeArgument 40 = .ok (.istore 4, 2) := by decide +kernel
theorem dX0_closeArgument_42 : decode cX0_closeArgument 42 = .ok (.aload_n 0, 1) := by decide +kernel
theorem dX0_closeArgument_43 : decode cX0_closeArgument 43 = .ok (.getfield 9, 3) := by decide +kernel
theorem dX0_closeArgument_46 : decode cX0_closeArgument 46 = .ok (.invokevirtual 99, 3) := by decide +kernel
theorem dX0_closeArgument_49 : decode cX0_closeArgument 49 = .ok (.istore 5, 2) := by decide +kernel
theorem dX0_closeArgument_51 : decode cX0_closeArgument 51 = .ok (.iload_n 1, 1) := by decide +kernel
theorem dX0_closeArgument_52 : decode cX0_closeArgument 52 = .ok (.bipush 44, 2) := by decide +kernel
theorem dX0_closeArgument_54 : decode cX0_closeArgument 54 = .ok (.if_icmp .eq 20, 3) := by decide +kernel
theorem dX0_closeArgument_57 : decode cX0_closeArgument 57 = .ok (.iload_n 1, 1) := by decide +kernel
theorem dX0_closeArgument_58 : decode cX0_closeArgument 58 = .ok (.bipush 41, 2) := by decide +kernel
theorem dX0_closeArgument_60 : decode cX0_closeArgument 60 = .ok (.if_icmp .eq 14, 3) := by decide +kernel
theorem dX0_closeArgument_63 : decode cX0_closeArgument 63 = .ok (.aload_n 0, 1) := by decide +kernel
theorem dX0_closeArgument_64 : decode cX0_closeArgument 64 = .ok (.getfield 9, 3) := by decide +kernel
theorem dX0_closeArgument_67 : decode cX0_closeArgument 67 = .ok (.iconst 1, 1) := by decide +kernel
theorem dX0_closeArgument_68 : decode cX0_closeArgument 68 = .ok (.iload 5, 2) := by decide +kernel
theorem dX0_closeArgument_70 : decode cX0_closeArgument 70 = .ok (.invokevirtual 102, 3) := by decide +kernel
theorem dX0_closeArgument_73 : decode cX0_closeArgument 73 = .ok (.return_, 1) := by decide +kernel
theorem dX0_closeArgument_74 : decode cX0_closeArgument 74 = .ok (.aload_n 0, 1) := by decide +kernel
theorem dX0_closeArgument_75 : decode cX0_closeArgument 75 = .ok (.getfield 9, 3) := by decide +kernel
theorem dX0_closeArgument_78 : decode cX0_closeArgument 78 = .ok (.invokevirtual 120, 3) := by decide +kernel
theorem dX0_closeArgument_81 : decode cX0_closeArgument 81 = .ok (.aload_n 0, 1) := by decide +kernel
theorem dX0_closeArgument_82 : decode cX0_closeArgument 82 = .ok (.getfield 29, 3) := by decide +kernel
theorem dX0_closeArgument_85 : decode cX0_closeArgument 85 = .ok (.iload_n 2, 1) := by decide +kernel
theorem dX0_closeArgument_86 : decode cX0_closeArgument 86 = .ok (.dup2, 1) := by decide +kernel
theorem dX0_closeArgument_87 : decode cX0_closeArgument 87 = .ok (.iaload, 1) := by decide +kernel
theorem dX0_closeArgument_88 : decode cX0_closeArgument 88 = .ok (.iconst 1, 1) := by decide +kernel
theorem dX0_closeArgument_89 : decode cX0_closeArgument 89 = .ok (.iadd, 1) := by decide +kernel
theorem dX0_closeArgument_90 : decode cX0_closeArgument 90 = .ok (.iastore, 1) := by decide +kernel
theorem dX0_closeArgument_91 : decode cX0_closeArgument 91 = .ok (.aload_n 0, 1) := by decide +kernel
theorem dX0_closeArgument_92 : decode cX0_closeArgument 92 = .ok (.getfield 32, 3) := by decide +kernel
theorem dX0_closeArgument_95 : decode cX0_closeArgument 95 = .ok (.iload_n 2, 1) := by decide +kernel
theorem dX0_closeArgument_96 : decode cX0_closeArgument 96 = .ok (.aload_n 0, 1) := by decide +kernel
theorem dX0_closeArgument_97 : decode cX0_closeArgument 97 = .ok (.getfield 32, 3) := by decide +kernel
theorem dX0_closeArgument_100 : decode cX0_closeArgument 100 = .ok (.iload_n 2, 1) := by decide +kernel
theorem dX0_closeArgument_101 : decode cX0_closeArgument 101 = .ok (.iaload, 1) := by decide +kernel
theorem dX0_closeArgument_102 : decode cX0_closeArgument 102 = .ok (.aload_n 0, 1) := by decide +kernel
theorem dX0_closeArgument_103 : decode cX0_closeArgument 103 = .ok (.invokevirtual 224, 3) := by decide +kernel
theorem dX0_closeArgument_106 : decode cX0_closeArgument 106 = .ok (.invokestatic 200, 3) := by decide +kernel
theorem dX0_closeArgument_109 : decode cX0_closeArgument 109 = .ok (.iastore, 1) := by decide +kernel
theorem dX0_closeArgument_110 : decode cX0_closeArgument 110 = .ok (.aload_n 0, 1) := by decide +kernel
theorem dX0_closeArgument_111 : decode cX0_closeArgument 111 = .ok (.getfield 44, 3) := by decide +kernel
theorem dX0_closeArgument_114 : decode cX0_closeArgument 114 = .ok (.getfield 142, 3) := by decide +kernel
theorem dX0_closeArgument_117 : decode cX0_closeArgument 117 = .ok (.iload 4, 2) := by decide +kernel
theorem dX0_closeArgument_119 : decode cX0_closeArgument 119 = .ok (.aaload, 1) := by decide +kernel
theorem dX0_closeArgument_120 : decode cX0_closeArgument 120 = .ok (.getfield 159, 3) := by decide +kernel
theorem dX0_closeArgument_123 : decode cX0_closeArgument 123 = .ok (.istore 6, 2) := by decide +kernel
theorem dX0_closeArgument_125 : decode cX0_closeArgument 125 = .ok (.iload_n 1, 1) := by decide +kernel
theorem dX0_closeArgument_126 : decode cX0_closeArgument 126 = .ok (.bipush 44, 2) := by decide +kernel
theorem dX0_closeArgument_128 : decode cX0_closeArgument 128 = .ok (.if_icmp .ne 31, 3) := by decide +kernel
theorem dX0_closeArgument_131 : decode cX0_closeArgument 131 = .ok (.aload_n 0, 1) := by decide +kernel
theorem dX0_closeArgument_132 : decode cX0_closeArgument 132 = .ok (.iconst 1, 1) := by decide +kernel
theorem dX0_closeArgument_133 : decode cX0_closeArgument 133 = .ok (.putfield 55, 3) := by decide +kernel
theorem dX0_closeArgument_136 : decode cX0_closeArgument 136 = .ok (.aload_n 0, 1) := by decide +kernel
theorem dX0_closeArgument_137 : decode cX0_closeArgument 137 = .ok (.getfield 29, 3) := by decide +kernel
theorem dX0_closeArgument_140 : decode cX0_closeArgument 140 = .ok (.iload_n 2, 1) := by decide +kernel
theorem dX0_closeArgument_141 : decode cX0_closeArgument 141 = .ok (.iaload, 1) := by decide +kernel
theorem dX0_closeArgument_142 : decode cX0_closeArgument 142 = .ok (.iload 6, 2) := by decide +kernel
theorem dX0_closeArgument_144 : decode cX0_closeArgument 144 = .ok (.if_icmp .lt 14, 3) := by decide +kernel
theorem dX0_closeArgument_147 : decode cX0_closeArgument 147 = .ok (.aload_n 0, 1) := by decide +kernel
theorem dX0_closeArgument_148 : decode cX0_closeArgument 148 = .ok (.getfield 9, 3) := by decide +kernel
theorem dX0_closeArgument_151 : decode cX0_closeArgument 151 = .ok (.bipush 6, 2) := by decide +kernel
theorem dX0_closeArgument_153 : decode cX0_closeArgument 153 = .ok (.iload 5, 2) := by decide +kernel
theorem dX0_closeArgument_155 : decode cX0_closeArgument 155 = .ok (.invokevirtual 102, 3) := by decide +kernel
theorem dX0_closeArgument_158 : decode cX0_closeArgument 158 = .ok (.return_, 1) := by decide +kernel
theorem dX0_closeArgument_159 : decode cX0_closeArgument 159 = .ok (.aload_n 0, 1) := by decide +kernel
theorem dX0_closeArgument_160 : decode cX0_closeArgument 160 = .ok (.getfield 29, 3) := by decide +kernel
theorem dX0_closeArgument_163 : decode cX0_closeArgument 163 = .ok (.iload_n 2, 1) := by decide +kernel
theorem dX0_closeArgument_164 : decode cX0_closeArgument 164 = .ok (.iaload, 1) := by decide +kernel
theorem dX0_closeArgument_165 : decode cX0_closeArgument 165 = .ok (.iload 6, 2) := by decide +kernel
theorem dX0_closeArgument_167 : decode cX0_closeArgument 167 = .ok (.if_icmp .ge 14, 3) := by decide +kernel
theorem dX0_closeArgument_170 : decode cX0_closeArgument 170 = .ok (.aload_n 0, 1) := by decide +kernel
theorem dX0_closeArgument_171 : decode cX0_closeArgument 171 = .ok (.getfield 9, 3) := by decide +kernel
theorem dX0_closeArgument_174 : decode cX0_closeArgument 174 = .ok (.bipush 6, 2) := by decide +kernel
theorem dX0_closeArgument_176 : decode cX0_closeArgument 176 = .ok (.iload 5, 2) := by decide +kernel
theorem dX0_closeArgument_178 : decode cX0_closeArgument 178 = .ok (.invokevirtual 102, 3) := by decide +kernel
theorem dX0_closeArgument_181 : decode cX0_closeArgument 181 = .ok (.aload_n 0, 1) := by decide +kernel
theorem dX0_closeArgument_182 : decode cX0_closeArgument 182 = .ok (.dup, 1) := by decide +kernel
theorem dX0_closeArgument_183 : decode cX0_closeArgument 183 = .ok (.getfield 45, 3) := by decide +kernel
theorem dX0_closeArgument_186 : decode cX0_closeArgument 186 = .ok (.iconst 1, 1) := by decide +kernel
theorem dX0_closeArgument_187 : decode cX0_closeArgument 187 = .ok (.isub, 1) := by decide +kernel
theorem dX0_closeArgument_188 : decode cX0_closeArgument 188 = .ok (.putfield 45, 3) := by decide +kernel
theorem dX0_closeArgument_191 : decode cX0_closeArgument 191 = .ok (.aload_n 0, 1) := by decide +kernel
theorem dX0_closeArgument_192 : decode cX0_closeArgument 192 = .ok (.dup, 1) := by decide +kernel
theorem dX0_closeArgument_193 : decode cX0_closeArgument 193 = .ok (.getfield 52, 3) := by decide +kernel
theorem dX0_closeArgument_196 : decode cX0_closeArgument 196 = .ok (.iconst 1, 1) := by decide +kernel
theorem dX0_closeArgument_197 : decode cX0_closeArgument 197 = .ok (.isub, 1) := by decide +kernel
theorem dX0_closeArgument_198 : decode cX0_closeArgument 198 = .ok (.putfield 52, 3) := by decide +kernel
theorem dX0_closeArgument_201 : decode cX0_closeArgument 201 = .ok (.aload_n 0, 1) := by decide +kernel
theorem dX0_closeArgument_202 : decode cX0_closeArgument 202 = .ok (.getfield 32, 3) := by decide +kernel
theorem dX0_closeArgument_205 : decode cX0_closeArgument 205 = .ok (.iload_n 2, 1) := by decide +kernel
theorem dX0_closeArgument_206 : decode cX0_closeArgument 206 = .ok (.iaload, 1) := by decide +kernel
theorem dX0_closeArgument_207 : decode cX0_closeArgument 207 = .ok (.iconst 1, 1) := by decide +kernel
theorem dX0_closeArgument_208 : decode cX0_closeArgument 208 = .ok (.iadd, 1) := by decide +kernel
theorem dX0_closeArgument_209 : decode cX0_closeArgument 209 = .ok (.bipush 12, 2) := by decide +kernel
theorem dX0_closeArgument_211 : decode cX0_closeArgument 211 = .ok (.if_icmp .le 18, 3) := by decide +kernel
theorem dX0_closeArgument_214 : decode cX0_closeArgument 214 = .ok (.aload_n 0, 1) := by decide +kernel
theorem dX0_closeArgument_215 : decode cX0_closeArgument 215 = .ok (.getfield 9, 3) := by decide +kernel
theorem dX0_closeArgument_218 : decode cX0_closeArgument 218 = .ok (.bipush 7, 2) := by decide +kernel
theorem dX0_closeArgument_220 : decode cX0_closeArgument 220 = .ok (.aload_n 0, 1) := by decide +kernel
theorem dX0_closeArgument_221 : decode cX0_closeArgument 221 = .ok (.getfield 23, 3) := by decide +kernel
theorem dX0_closeArgument_224 : decode cX0_closeArgument 224 = .ok (.iload_n 2, 1) := by decide +kernel
theorem dX0_closeArgument_225 : decode cX0_closeArgument 225 = .ok (.iaload, 1) := by decide +kernel
theorem dX0_closeArgument_226 : decode cX0_closeArgument 226 = .ok (.invokevirtual 102, 3) := by decide +kernel
theorem dX0_closeArgument_229 : decode cX0_closeArgument 229 = .ok (.aload_n 0, 1) := by decide +kernel
theorem dX0_closeArgument_230 : decode cX0_closeArgument 230 = .ok (.getfield 44, 3) := by decide +kernel
theorem dX0_closeArgument_233 : decode cX0_closeArgument 233 = .ok (.bipush 13, 2) := by decide +kernel
theorem dX0_closeArgument_235 : decode cX0_closeArgument 235 = .ok (.iconst 0, 1) := by decide +kernel
theorem dX0_closeArgument_236 : decode cX0_closeArgument 236 = .ok (.invokevirtual 112, 3) := by decide +kernel
theorem dX0_closeArgument_239 : decode cX0_closeArgument 239 = .ok (.aload_n 0, 1) := by decide +kernel
theorem dX0_closeArgument_240 : decode cX0_closeArgument 240 = .ok (.getfield 44, 3) := by decide +kernel
theorem dX0_closeArgument_243 : decode cX0_closeArgument 243 = .ok (.aload_n 0, 1) := by decide +kernel
theorem dX0_closeArgument_244 : decode cX0_closeArgument 244 = .ok (.getfield 19, 3) := by decide +kernel
theorem dX0_closeArgument_247 : decode cX0_closeArgument 247 = .ok (.iload_n 2, 1) := by decide +kernel
theorem dX0_closeArgument_248 : decode cX0_closeArgument 248 = .ok (.iaload, 1) := by decide +kernel
theorem dX0_closeArgument_249 : decode cX0_closeArgument 249 = .ok (.iconst 2, 1) := by decide +kernel
theorem dX0_closeArgument_250 : decode cX0_closeArgument 250 = .ok (.if_icmp .ne 8, 3) := by decide +kernel
theorem dX0_closeArgument_253 : decode cX0_closeArgument 253 = .ok (.bipush 17, 2) := by decide +kernel
theorem dX0_closeArgument_255 : decode cX0_closeArgument 255 = .ok (.goto 5, 3) := by decide +kernel
theorem dX0_closeArgument_258 : decode cX0_closeArgument 258 = .ok (.bipush 18, 2) := by decide +kernel
theorem dX0_closeArgument_260 : decode cX0_closeArgument 260 = .ok (.iload_n 3, 1) := by decide +kernel
theorem dX0_closeArgument_261 : decode cX0_closeArgument 261 = .ok (.invokevirtual 112, 3) := by decide +kernel
theorem dX0_closeArgument_264 : decode cX0_closeArgument 264 = .ok (.aload_n 0, 1) := by decide +kernel
theorem dX0_closeArgument_265 : decode cX0_closeArgument 265 = .ok (.aload_n 0, 1) := by decide +kernel
theorem dX0_closeArgument_266 : decode cX0_closeArgument 266 = .ok (.getfield 32, 3) := by decide +kernel
theorem dX0_closeArgument_269 : decode cX0_closeArgument 269 = .ok (.iload_n 2, 1) := by decide +kernel
theorem dX0_closeArgument_270 : decode cX0_closeArgument 270 = .ok (.iaload, 1) := by decide +kernel
theorem dX0_closeArgument_271 : decode cX0_closeArgument 271 = .ok (.iconst 1, 1) := by decide +kernel
theorem dX0_closeArgument_272 : decode cX0_closeArgument 272 = .ok (.iadd, 1) := by decide +kernel
theorem dX0_closeArgument_273 : decode cX0_closeArgument 273 = .ok (.invokevirtual 123, 3) := by decide +kernel
theorem dX0_closeArgument_276 : decode cX0_closeArgument 276 = .ok (.return_, 1) := by decide +kernel
theorem dX2_begin_0 : decode cX2_begin 0 = .ok (.aload_n 0, 1) := by decide +kernel
theorem dX2_begin_1 : decode cX2_begin 1 = .ok (.getfield 12, 3) := by decide +kernel
theorem dX2_begin_4 : decode cX2_begin 4 = .ok (.aload_n 1, 1) := by decide +kernel
theorem dX2_begin_5 : decode cX2_begin 5 = .ok (.iload_n 2, 1) := by decide +kernel
theorem dX2_begin_6 : decode cX2_begin 6 = .ok (.invokevirtual 47, 3) := by decide +kernel
theorem dX2_begin_9 : decode cX2_begin 9 = .ok (.aload_n 0, 1) := by decide +kernel
theorem dX2_begin_10 : decode cX2_begin 10 = .ok (.aload_n 3, 1) := by decide +kernel
theorem dX2_begin_11 : decode cX2_begin 11 = .ok (.putfield 51, 3) := by decide +kernel
theorem dX2_begin_14 : decode cX2_begin 14 = .ok (.aload_n 0, 1) := by decide +kernel
theorem dX2_begin_15 : decode cX2_begin 15 = .ok (.getfield 51, 3) := by decide +kernel
theorem dX2_begin_18 : decode cX2_begin 18 = .ok (.invokevirtual 55, 3) := by decide +kernel
theorem dX2_begin_21 : decode cX2_begin 21 = .ok (.aload_n 0, 1) := by decide +kernel
theorem dX2_begin_22 : decode cX2_begin 22 = .ok (.aload_n 0, 1) := by decide +kernel
theorem dX2_begin_23 : decode cX2_begin 23 = .ok (.getfield 51, 3) := by decide +kernel
theorem dX2_begin_26 : decode cX2_begin 26 = .ok (.getfield 60, 3) := by decide +kernel
theorem dX2_begin_29 : decode cX2_begin 29 = .ok (.iconst 0, 1) := by decide +kernel
theorem dX2_begin_30 : decode cX2_begin 30 = .ok (.aaload, 1) := by decide +kernel
theorem dX2_begin_31 : decode cX2_begin 31 = .ok (.putfield 64, 3) := by decide +kernel
theorem dX2_begin_34 : decode cX2_begin 34 = .ok (.aload_n 0, 1) := by decide +kernel
theorem dX2_begin_35 : decode cX2_begin 35 = .ok (.aload_n 0, 1) := by decide +kernel
theorem dX2_begin_36 : decode cX2_begin 36 = .ok (.getfield 51, 3) := by decide +kernel
theorem dX2_begin_39 : decode cX2_begin 39 = .ok (.getfield 68, 3) := by decide +kernel
theorem dX2_begin_42 : decode cX2_begin 42 = .ok (.iconst 0, 1) := by decide +kernel
theorem dX2_begin_43 : decode cX2_begin 43 = .ok (.aaload, 1) := by decide +kernel
theorem dX2_begin_44 : decode cX2_begin 44 = .ok (.putfield 72, 3) := by decide +kernel
theorem dX2_begin_47 : decode cX2_begin 47 = .ok (.aload_n 0, 1) := by decide +kernel
theorem dX2_begin_48 : decode cX2_begin 48 = .ok (.getfield 21, 3) := by decide +kernel
theorem dX2_begin_51 : decode cX2_begin 51 = .ok (.aload_n 3, 1) := by decide +kernel
theorem dX2_begin_52 : decode cX2_begin 52 = .ok (.putfield 76, 3) := by decide +kernel
theorem dX2_begin_55 : decode cX2_begin 55 = .ok (.aload_n 0, 1) := by decide +kernel
theorem dX2_begin_56 : decode cX2_begin 56 = .ok (.getfield 21, 3) := by decide +kernel
theorem dX2_begin_59 : decode cX2_begin 59 = .ok (.aload_n 0, 1) := by decide +kernel
theorem dX2_begin_60 : decode cX2_begin 60 = .ok (.getfield 64, 3) := by decide +kernel
theorem dX2_begin_63 : decode cX2_begin 63 = .ok (.putfield 77, 3) := by decide +kernel
theorem dX2_begin_66 : decode cX2_begin 66 = .ok (.aload_n 0, 1) := by decide +kernel
theorem dX2_begin_67 : decode cX2_begin 67 = .ok (.getfield 21, 3) := by decide +kernel
theorem dX2_begin_70 : decode cX2_begin 70 = .ok (.invokevirtual 78, 3) := by decide +kernel
theorem dX2_begin_73 : decode cX2_begin 73 = .ok (.aload_n 0, 1) := by decide +kernel
theorem dX2_begin_74 : decode cX2_begin 74 = .ok (.iconst 0, 1) := by decide +kernel
theorem dX2_begin_75 : decode cX2_begin 75 = .ok (.putfield 81, 3) := by decide +kernel
theorem dX2_begin_78 : decode cX2_begin 78 = .ok (.return_, 1) := by decide +kernel
theorem dX2_atClass_0 : decode cX2_atClass 0 = .ok (.aload_n 0, 1) := by decide +kernel
theorem dX2_atClass_1 : decode cX2_atClass 1 = .ok (.getfield 12, 3) := by decide +kernel
theorem dX2_atClass_4 : decode cX2_atClass 4 = .ok (.invokevirtual 85, 3) := by decide +kernel
theorem dX2_atClass_7 : decode cX2_atClass 7 = .ok (.bipush 10, 2) := by decide +kernel
theorem dX2_atClass_9 : decode cX2_atClass 9 = .ok (.if_icmp .ne 7, 3) := by decide +kernel
theorem dX2_atClass_12 : decode cX2_atClass 12 = .ok (.iconst 1, 1) := by decide +kernel
theorem dX2_atClass_13 : decode cX2_atClass 13 = .ok (.goto 4, 3) := by decide +kernel
theorem dX2_atClass_16 : decode cX2_atClass 16 = .ok (.iconst 0, 1) := by decide +kernel
theorem dX2_atClass_17 : decode cX2_atClass 17 = .ok (.ireturn, 1) := by decide +kernel
theorem dX2_finish_0 : decode cX2_finish 0 = .ok (.aload_n 0, 1) := by decide +kernel
theorem dX2_finish_1 : decode cX2_finish 1 = .ok (.getfield 12, 3) := by decide +kernel
theorem dX2_finish_4 : decode cX2_finish 4 = .ok (.iconst 1, 1) := by decide +kernel
theorem dX2_finish_5 : decode cX2_finish 5 = .ok (.invokevirtual 89, 3) := by decide +kernel
theorem dX2_finish_8 : decode cX2_finish 8 = .ok (.return_, 1) := by decide +kernel
theorem dX2_faultKind_0 : decode cX2_faultKind 0 = .ok (.aload_n 0, 1) := by decide +kernel
theorem dX2_faultKind_1 : decode cX2_faultKind 1 = .ok (.getfield 12, 3) := by decide +kernel
theorem dX2_faultKind_4 : decode cX2_faultKind 4 = .ok (.getfield 93, 3) := by decide +kernel
theorem dX2_faultKind_7 : decode cX2_faultKind 7 = .ok (.ireturn, 1) := by decide +kernel
theorem dX2_faultPlace_0 : decode cX2_faultPlace 0 = .ok (.aload_n 0, 1) := by decide +kernel
theorem dX2_faultPlace_1 : decode cX2_faultPlace 1 = .ok (.getfield 12, 3) := by decide +kernel
theorem dX2_faultPlace_4 : decode cX2_faultPlace 4 = .ok (.getfield 96, 3) := by decide +kernel
theorem dX2_faultPlace_7 : decode cX2_faultPlace 7 = .ok (.ireturn, 1) := by decide +kernel
theorem dX2_readClass_0 : decode cX2_readClass 0 = .ok (.aload_n 0, 1) := by decide +kernel
theorem dX2_readClass_1 : decode cX2_readClass 1 = .ok (.invokevirtual 99, 3) := by decide +kernel
theorem dX2_readClass_4 : decode cX2_readClass 4 = .ok (.iconst 0, 1) := by decide +kernel
theorem dX2_readClass_5 : decode cX2_readClass 5 = .ok (.istore_n 1, 1) := by decide +kernel
theorem dX2_readClass_6 : decode cX2_readClass 6 = .ok (.iload_n 1, 1) := by decide +kernel
theorem dX2_readClass_7 : decode cX2_readClass 7 = .ok (.bipush 10, 2) := by decide +kernel
theorem dX2_readClass_9 : decode cX2_readClass 9 = .ok (.if_icmp .gt 25, 3) := by decide +kernel
theorem dX2_readClass_12 : decode cX2_readClass 12 = .ok (.aload_n 0, 1) := by decide +kernel
theorem dX2_readClass_13 : decode cX2_readClass 13 = .ok (.getfield 12, 3) := by decide +kernel
theorem dX2_readClass_16 : decode cX2_readClass 16 = .ok (.invokevirtual 85, 3) := by decide +kernel
theorem dX2_readClass_19 : decode cX2_readClass 19 = .ok (.bipush 12, 2) := by decide +kernel
theorem dX2_readClass_21 : decode cX2_readClass 21 = .ok (.if_icmp .ne 13, 3) := by decide +kernel
theorem dX2_readClass_24 : decode cX2_readClass 24 = .ok (.aload_n 0, 1) := by decide +kernel
theorem dX2_readClass_25 : decode cX2_readClass 25 = .ok (.invokevirtual 104, 3) := by decide +kernel
theorem dX2_readClass_28 : decode cX2_readClass 28 = .ok (.iinc 1 1, 3) := by decide +kernel
theorem dX2_readClass_31 : decode cX2_readClass 31 = .ok (.goto (-25), 3) := by decide +kernel
theorem dX2_readClass_34 : decode cX2_readClass 34 = .ok (.iconst 0, 1) := by decide +kernel
theorem dX2_readClass_35 : decode cX2_readClass 35 = .ok (.istore_n 1, 1) := by decide +kernel
theorem dX2_readClass_36 : decode cX2_readClass 36 = .ok (.iload_n 1, 1) := by decide +kernel
theorem dX2_readClass_37 : decode cX2_readClass 37 = .ok (.bipush 8, 2) := by decide +kernel
theorem dX2_readClass_39 : decode cX2_readClass 39 = .ok (.if_icmp .gt 25, 3) := by decide +kernel
theorem dX2_readClass_42 : decode cX2_readClass 42 = .ok (.aload_n 0, 1) := by decide +kernel
theorem dX2_readClass_43 : decode cX2_readClass 43 = .ok (.getfield 12, 3) := by decide +kernel
theorem dX2_readClass_46 : decode cX2_readClass 46 = .ok (.invokevirtual 85, 3) := by decide +kernel
theorem dX2_readClass_49 : decode cX2_readClass 49 = .ok (.bipush 13, 2) := by decide +kernel
theorem dX2_readClass_51 : decode cX2_readClass 51 = .ok (.if_icmp .ne 13, 3) := by decide +kernel
theorem dX2_readClass_54 : decode cX2_readClass 54 = .ok (.aload_n 0, 1) := by decide +kernel
theorem dX2_readClass_55 : decode cX2_readClass 55 = .ok (.invokevirtual 107, 3) := by decide +kernel
theorem dX2_readClass_58 : decode cX2_readClass 58 = .ok (.iinc 1 1, 3) := by decide +kernel
theorem dX2_readClass_61 : decode cX2_readClass 61 = .ok (.goto (-25), 3) := by decide +kernel
theorem dX2_readClass_64 : decode cX2_readClass 64 = .ok (.iconst 0, 1) := by decide +kernel
theorem dX2_readClass_65 : decode cX2_readClass 65 = .ok (.istore_n 1, 1) := by decide +kernel
theorem dX2_readClass_66 : decode cX2_readClass 66 = .ok (.iload_n 1, 1) := by decide +kernel
theorem dX2_readClass_67 : decode cX2_readClass 67 = .ok (.bipush 12, 2) := by decide +kernel
theorem dX2_readClass_69 : decode cX2_readClass 69 = .ok (.if_icmp .gt 97, 3) := by decide +kernel
theorem dX2_readClass_72 : decode cX2_readClass 72 = .ok (.aload_n 0, 1) := by decide +kernel
theorem dX2_readClass_73 : decode cX2_readClass 73 = .ok (.getfield 12, 3) := by decide +kernel
theorem dX2_readClass_76 : decode cX2_readClass 76 = .ok (.invokevirtual 85, 3) := by decide +kernel
theorem dX2_readClass_79 : decode cX2_readClass 79 = .ok (.bipush 14, 2) := by decide +kernel
theorem dX2_readClass_81 : decode cX2_readClass 81 = .ok (.if_icmp .ne 85, 3) := by decide +kernel
theorem dX2_readClass_84 : decode cX2_readClass 84 = .ok (.aload_n 0, 1) := by decide +kernel
theorem dX2_readClass_85 : decode cX2_readClass 85 = .ok (.invokevirtual 110, 3) := by decide +kernel
theorem dX2_readClass_88 : decode cX2_readClass 88 = .ok (.iconst 0, 1) := by decide +kernel
theorem dX2_readClass_89 : decode cX2_readClass 89 = .ok (.istore_n 2, 1) := by decide +kernel
theorem dX2_readClass_90 : decode cX2_readClass 90 = .ok (.iload_n 2, 1) := by decide +kernel
theorem dX2_readClass_91 : decode cX2_readClass 91 = .ok (.bipush 8, 2) := by decide +kernel
theorem dX2_readClass_93 : decode cX2_readClass 93 = .ok (.if_icmp .gt 20, 3) := by decide +kernel
theorem dX2_readClass_96 : decode cX2_readClass 96 = .ok (.aload_n 0, 1) := by decide +kernel
theorem dX2_readClass_97 : decode cX2_readClass 97 = .ok (.invokevirtual 113, 3) := by decide +kernel
theorem dX2_readClass_100 : decode cX2_readClass 100 = .ok (.ifCond .eq 13, 3) := by decide +kernel
theorem dX2_readClass_103 : decode cX2_readClass 103 = .ok (.aload_n 0, 1) := by decide +kernel
theorem dX2_readClass_104 : decode cX2_readClass 104 = .ok (.invokevirtual 117, 3) := by decide +kernel
theorem dX2_readClass_107 : decode cX2_readClass 107 = .ok (.iinc 2 1, 3) := by decide +kernel
theorem dX2_readClass_110 : decode cX2_readClass 110 = .ok (.goto (-20), 3) := by decide +kernel
theorem dX2_readClass_113 : decode cX2_readClass 113 = .ok (.aload_n 0, 1) := by decide +kernel
theorem dX2_readClass_114 : decode cX2_readClass 114 = .ok (.invokevirtual 120, 3) := by decide +kernel
theorem dX2_readClass_117 : decode cX2_readClass 117 = .ok (.iconst 0, 1) := by decide +kernel
theorem dX2_readClass_118 : decode cX2_readClass 118 = .ok (.istore_n 2, 1) := by decide +kernel
theorem dX2_readClass_119 : decode cX2_readClass 119 = .ok (.iload_n 2, 1) := by decide +kernel
theorem dX2_readClass_120 : decode cX2_readClass 120 = .ok (.sipush 1200, 3) := by decide +kernel
theorem dX2_readClass_123 : decode cX2_readClass 123 = .ok (.if_icmp .gt 30, 3) := by decide +kernel
theorem dX2_readClass_126 : decode cX2_readClass 126 = .ok (.aload_n 0, 1) := by decide +kernel
theorem dX2_readClass_127 : decode cX2_readClass 127 = .ok (.getfield 81, 3) := by decide +kernel
theorem dX2_readClass_130 : decode cX2_readClass 130 = .ok (.ifCond .le 23, 3) := by decide +kernel
theorem dX2_readClass_133 : decode cX2_readClass 133 = .ok (.aload_n 0, 1) := by decide +kernel
theorem dX2_readClass_134 : decode cX2_readClass 134 = .ok (.getfield 12, 3) := by decide +kernel
theorem dX2_readClass_137 : decode cX2_readClass 137 = .ok (.getfield 93, 3) := by decide +kernel
theorem dX2_readClass_140 : decode cX2_readClass 140 = .ok (.ifCond .ne 13, 3) := by decide +kernel
theorem dX2_readClass_143 : decode cX2_readClass 143 = .ok (.aload_n 0, 1) := by decide +kernel
theorem dX2_readClass_144 : decode cX2_readClass 144 = .ok (.invokevirtual 123, 3) := by decide +kernel
theorem dX2_readClass_147 : decode cX2_readClass 147 = .ok (.iinc 2 1, 3) := by decide +kernel
theorem dX2_readClass_150 : decode cX2_readClass 150 = .ok (.goto (-31), 3) := by decide +kernel
theorem dX2_readClass_153 : decode cX2_readClass 153 = .ok (.aload_n 0, 1) := by decide +kernel
theorem dX2_readClass_154 : decode cX2_readClass 154 = .ok (.getfield 21, 3) := by decide +kernel
theorem dX2_readClass_157 : decode cX2_readClass 157 = .ok (.invokevirtual 78, 3) := by decide +kernel
theorem dX2_readClass_160 : decode cX2_readClass 160 = .ok (.iinc 1 1, 3) := by decide +kernel
theorem dX2_readClass_163 : decode cX2_readClass 163 = .ok (.goto (-97), 3) := by decide +kernel
theorem dX2_readClass_166 : decode cX2_readClass 166 = .ok (.aload_n 0, 1) := by decide +kernel
theorem dX2_readClass_167 : decode cX2_readClass 167 = .ok (.getfield 12, 3) := by decide +kernel
theorem dX2_readClass_170 : decode cX2_readClass 170 = .ok (.bipush 125, 2) := by decide +kernel
theorem dX2_readClass_172 : decode cX2_readClass 172 = .ok (.invokevirtual 89, 3) := by decide +kernel
theorem dX2_readClass_175 : decode cX2_readClass 175 = .ok (.aload_n 0, 1) := by decide +kernel
theorem dX2_readClass_176 : decode cX2_readClass 176 = .ok (.getfield 12, 3) := by decide +kernel
theorem dX2_readClass_179 : decode cX2_readClass 179 = .ok (.getfield 93, 3) := by decide +kernel
theorem dX2_readClass_182 : decode cX2_readClass 182 = .ok (.ifCond .ne 16, 3) := by decide +kernel
theorem dX2_readClass_185 : decode cX2_readClass 185 = .ok (.aload_n 0, 1) := by decide +kernel
theorem dX2_readClass_186 : decode cX2_readClass 186 = .ok (.getfield 51, 3) := by decide +kernel
theorem dX2_readClass_189 : decode cX2_readClass 189 = .ok (.dup, 1) := by decide +kernel
theorem dX2_readClass_190 : decode cX2_readClass 190 = .ok (.getfield 126, 3) := by decide +kernel
theorem dX2_readClass_193 : decode cX2_readClass 193 = .ok (.iconst 1, 1) := by decide +kernel
theorem dX2_readClass_194 : decode cX2_readClass 194 = .ok (.iadd, 1) := by decide +kernel
theorem dX2_readClass_195 : decode cX2_readClass 195 = .ok (.putfield 126, 3) := by decide +kernel
theorem dX2_readClass_198 : decode cX2_readClass 198 = .ok (.return_, 1) := by decide +kernel
theorem dX2_readClassHead_0 : decode cX2_readClassHead 0 = .ok (.aload_n 0, 1) := by decide +kernel
theorem dX2_readClassHead_1 : decode cX2_readClassHead 1 = .ok (.getfield 12, 3) := by decide +kernel
theorem dX2_readClassHead_4 : decode cX2_readClassHead 4 = .ok (.bipush 10, 2) := by decide +kernel
theorem dX2_readClassHead_6 : decode cX2_readClassHead 6 = .ok (.invokevirtual 89, 3) := by decide +kernel
theorem dX2_readClassHead_9 : decode cX2_readClassHead 9 = .ok (.aload_n 0, 1) := by decide +kernel
theorem dX2_readClassHead_10 : decode cX2_readClassHead 10 = .ok (.getfield 12, 3) := by decide +kernel
theorem dX2_readClassHead_13 : decode cX2_readClassHead 13 = .ok (.invokevirtual 129, 3) := by decide +kernel
theorem dX2_readClassHead_16 : decode cX2_readClassHead 16 = .ok (.istore_n 1, 1) := by decide +kernel
theorem dX2_readClassHead_17 : decode cX2_readClassHead 17 = .ok (.aload_n 0, 1) := by decide +kernel
theorem dX2_readClassHead_18 : decode cX2_readClassHead 18 = .ok (.getfield 12, 3) := by decide +kernel
theorem dX2_readClassHead_21 : decode cX2_readClassHead 21 = .ok (.invokevirtual 132, 3) := by decide +kernel
theorem dX2_readClassHead_24 : decode cX2_readClassHead 24 = .ok (.lstore_n 2, 1) := by decide +kernel
theorem dX2_readClassHead_25 : decode cX2_readClassHead 25 = .ok (.aload_n 0, 1) := by decide +kernel
theorem dX2_readClassHead_26 : decode cX2_readClassHead 26 = .ok (.getfield 12, 3) := by decide +kernel
theorem dX2_readClassHead_29 : decode cX2_readClassHead 29 = .ok (.invokevirtual 85, 3) := by decide +kernel
theorem dX2_readClassHead_32 : decode cX2_readClassHead 32 = .ok (.iconst 3, 1) := by decide +kernel
theorem dX2_readClassHead_33 : decode cX2_readClassHead 33 = .ok (.if_icmp .eq 15, 3) := by decide +kernel
theorem dX2_readClassHead_36 : decode cX2_readClassHead 36 = .ok (.aload_n 0, 1) := by decide +kernel
theorem dX2_readClassHead_37 : decode cX2_readClassHead 37 = .ok (.getfield 12, 3) := by decide +kernel
theorem dX2_readClassHead_40 : decode cX2_readClassHead 40 = .ok (.iconst 1, 1) := by decide +kernel
theorem dX2_readClassHead_41 : decode cX2_readClassHead 41 = .ok (.iload_n 1, 1) := by decide +kernel
theorem dX2_readClassHead_42 : decode cX2_readClassHead 42 = .ok (.invokevirtual 136, 3) := by decide +kernel
theorem dX2_readClassHead_45 : decode cX2_readClassHead 45 = .ok (.goto 117, 3) := by decide +kernel
theorem dX2_readClassHead_48 : decode cX2_readClassHead 48 = .ok (.aload_n 0, 1) := by decide +kernel
theorem dX2_readClassHead_49 : decode cX2_readClassHead 49 = .ok (.getfield 51, 3) := by decide +kernel
theorem dX2_readClassHead_52 : decode cX2_readClassHead 52 = .ok (.lload_n 2, 1) := by decide +kernel
theorem dX2_readClassHead_53 : decode cX2_readClassHead 53 = .ok (.invokevirtual 140, 3) := by decide +kernel
theorem dX2_readClassHead_56 : decode cX2_readClassHead 56 = .ok (.iconst (-1), 1) := by decide +kernel
theorem dX2_readClassHead_57 : decode cX2_readClassHead 57 = .ok (.if_icmp .eq 15, 3) := by decide +kernel
theorem dX2_readClassHead_60 : decode cX2_readClassHead 60 = .ok (.aload_n 0, 1) := by decide +kernel
theorem dX2_readClassHead_61 : decode cX2_readClassHead 61 = .ok (.getfield 12, 3) := by decide +kernel
theorem dX2_readClassHead_64 : decode cX2_readClassHead 64 = .ok (.iconst 2, 1) := by decide +kernel
theorem dX2_readClassHead_65 : decode cX2_readClassHead 65 = .ok (.iload_n 1, 1) := by decide +kernel
theorem dX2_readClassHead_66 : decode cX2_readClassHead 66 = .ok (.invokevirtual 136, 3) := by decide +kernel
theorem dX2_readClassHead_69 : decode cX2_readClassHead 69 = .ok (.goto 93, 3) := by decide +kernel
theorem dX2_readClassHead_72 : decode cX2_readClassHead 72 = .ok (.aload_n 0, 1) := by decide +kernel
theorem dX2_readClassHead_73 : decode cX2_readClassHead 73 = .ok (.getfield 51, 3) := by decide +kernel
theorem dX2_readClassHead_76 : decode cX2_readClassHead 76 = .ok (.getfield 126, 3) := by decide +kernel
theorem dX2_readClassHead_79 : decode cX2_readClassHead 79 = .ok (.bipush 8, 2) := by decide +kernel
theorem dX2_readClassHead_81 : decode cX2_readClassHead 81 = .ok (.if_icmp .lt 15, 3) := by decide +kernel
theorem dX2_readClassHead_84 : decode cX2_readClassHead 84 = .ok (.aload_n 0, 1) := by decide +kernel
theorem dX2_readClassHead_85 : decode cX2_readClassHead 85 = .ok (.getfield 12, 3) := by decide +kernel
theorem dX2_readClassHead_88 : decode cX2_readClassHead 88 = .ok (.iconst 4, 1) := by decide +kernel
theorem dX2_readClassHead_89 : decode cX2_readClassHead 89 = .ok (.iload_n 1, 1) := by decide +kernel
theorem dX2_readClassHead_90 : decode cX2_readClassHead 90 = .ok (.invokevirtual 136, 3) := by decide +kernel
theorem dX2_readClassHead_93 : decode cX2_readClassHead 93 = .ok (.goto 69, 3) := by decide +kernel
theorem dX2_readClassHead_96 : decode cX2_readClassHead 96 = .ok (.aload_n 0, 1) := by decide +kernel
theorem dX2_readClassHead_97 : decode cX2_readClassHead 97 = .ok (.aload_n 0, 1) := by decide +kernel
theorem dX2_readClassHead_98 : decode cX2_readClassHead 98 = .ok (.getfield 51, 3) := by decide +kernel
theorem dX2_readClassHead_101 : decode cX2_readClassHead 101 = .ok (.getfield 60, 3) := by decide +kernel
theorem dX2_readClassHead_104 : decode cX2_readClassHead 104 = .ok (.aload_n 0, 1) := by decide +kernel
theorem dX2_readClassHead_105 : decode cX2_readClassHead 105 = .ok (.getfield 51, 3) := by decide +kernel
theorem dX2_readClassHead_108 : decode cX2_readClassHead 108 = .ok (.getfield 126, 3) := by decide +kernel
theorem dX2_readClassHead_111 : decode cX2_readClassHead 111 = .ok (.aaload, 1) := by decide +kernel
theorem dX2_readClassHead_112 : decode cX2_readClassHead 112 = .ok (.putfield 64, 3) := by decide +kernel
theorem dX2_readClassHead_115 : decode cX2_readClassHead 115 = .ok (.aload_n 0, 1) := by decide +kernel
theorem dX2_readClassHead_116 : decode cX2_readClassHead 116 = .ok (.getfield 64, 3) := by decide +kernel
theorem dX2_readClassHead_119 : decode cX2_readClassHead 119 = .ok (.lload_n 2, 1) := by decide +kernel
theorem dX2_readClassHead_120 : decode cX2_readClassHead 120 = .ok (.invokevirtual 144, 3) := by decide +kernel
theorem dX2_readClassHead_123 : decode cX2_readClassHead 123 = .ok (.aload_n 0, 1) := by decide +kernel
theorem dX2_readClassHead_124 : decode cX2_readClassHead 124 = .ok (.getfield 64, 3) := by decide +kernel
theorem dX2_readClassHead_127 : decode cX2_readClassHead 127 = .ok (.aload_n 0, 1) := by decide +kernel
theorem dX2_readClassHead_128 : decode cX2_readClassHead 128 = .ok (.getfield 51, 3) := by decide +kernel
theorem dX2_readClassHead_131 : decode cX2_readClassHead 131 = .ok (.getfield 148, 3) := by decide +kernel
theorem dX2_readClassHead_134 : decode cX2_readClassHead 134 = .ok (.putfield 151, 3) := by decide +kernel
theorem dX2_readClassHead_137 : decode cX2_readClassHead 137 = .ok (.aload_n 0, 1) := by decide +kernel
theorem dX2_readClassHead_138 : decode cX2_readClassHead 138 = .ok (.getfield 21, 3) := by decide +kernel
theorem dX2_readClassHead_141 : decode cX2_readClassHead 141 = .ok (.aload_n 0, 1) := by decide +kernel
theorem dX2_readClassHead_142 : decode cX2_readClassHead 142 = .ok (.getfield 64, 3) := by decide +kernel
theorem dX2_readClassHead_145 : decode cX2_readClassHead 145 = .ok (.putfield 77, 3) := by decide +kernel
theorem dX2_readClassHead_148 : decode cX2_readClassHead 148 = .ok (.aload_n 0, 1) := by decide +kernel
theorem dX2_readClassHead_149 : decode cX2_readClassHead 149 = .ok (.getfield 21, 3) := by decide +kernel
theorem dX2_readClassHead_152 : decode cX2_readClassHead 152 = .ok (.aload_n 0, 1) := by decide +kernel
theorem dX2_readClassHead_153 : decode cX2_readClassHead 153 = .ok (.getfield 51, 3) := by decide +kernel
theorem dX2_readClassHead_156 : decode cX2_readClassHead 156 = .ok (.getfield 126, 3) := by decide +kernel
theorem dX2_readClassHead_159 : decode cX2_readClassHead 159 = .ok (.putfield 154, 3) := by decide +kernel
theorem dX2_readClassHead_162 : decode cX2_readClassHead 162 = .ok (.aload_n 0, 1) := by decide +kernel
theorem dX2_readClassHead_163 : decode cX2_readClassHead 163 = .ok (.getfield 12, 3) := by decide +kernel
theorem dX2_readClassHead_166 : decode cX2_readClassHead 166 = .ok (.invokevirtual 157, 3) := by decide +kernel
theorem dX2_readClassHead_169 : decode cX2_readClassHead 169 = .ok (.aload_n 0, 1) := by decide +kernel
theorem dX2_readClassHead_170 : decode cX2_readClassHead 170 = .ok (.getfield 12, 3) := by decide +kernel
theorem dX2_readClassHead_173 : decode cX2_readClassHead 173 = .ok (.invokevirtual 85, 3) := by decide +kernel
theorem dX2_readClassHead_176 : decode cX2_readClassHead 176 = .ok (.bipush 11, 2) := by decide +kernel
theorem dX2_readClassHead_178 : decode cX2_readClassHead 178 = .ok (.if_icmp .ne 7, 3) := by decide +kernel
theorem dX2_readClassHead_181 : decode cX2_readClassHead 181 = .ok (.aload_n 0, 1) := by decide +kernel
theorem dX2_readClassHead_182 : decode cX2_readClassHead 182 = .ok (.invokevirtual 160, 3) := by decide +kernel
theorem dX2_readClassHead_185 : decode cX2_readClassHead 185 = .ok (.aload_n 0, 1) := by decide +kernel
theorem dX2_readClassHead_186 : decode cX2_readClassHead 186 = .ok (.getfield 12, 3) := by decide +kernel
theorem dX2_readClassHead_189 : decode cX2_readClassHead 189 = .ok (.bipush 123, 2) := by decide +kernel
theorem dX2_readClassHead_191 : decode cX2_readClassHead 191 = .ok (.invokevirtual 89, 3) := by decide +kernel
theorem dX2_readClassHead_194 : decode cX2_readClassHead 194 = .ok (.return_, 1) := by decide +kernel
theorem dX2_readClassAbove_0 : decode cX2_readClassAbove 0 = .ok (.aload_n 0, 1) := by decide +kernel
theorem dX2_readClassAbove_1 : decode cX2_readClassAbove 1 = .ok (.getfield 12, 3) := by decide +kernel
theorem dX2_readClassAbove_4 : decode cX2_readClassAbove 4 = .ok (.invokevirtual 157, 3) := by decide +kernel
theorem dX2_readClassAbove_7 : decode cX2_readClassAbove 7 = .ok (.aload_n 0, 1) := by decide +kernel
theorem dX2_readClassAbove_8 : decode cX2_readClassAbove 8 = .ok (.getfield 12, 3) := by decide +kernel
theorem dX2_readClassAbove_11 : decode cX2_readClassAbove 11 = .ok (.invokevirtual 129, 3) := by decide +kernel
theorem dX2_readClassAbove_14 : decode cX2_readClassAbove 14 = .ok (.istore_n 1, 1) := by decide +kernel
theorem dX2_readClassAbove_15 : decode cX2_readClassAbove 15 = .ok (.aload_n 0, 1) := by decide +kernel
theorem dX2_readClassAbove_16 : decode cX2_readClassAbove 16 = .ok (.getfield 51, 3) := by decide +kernel
theorem dX2_readClassAbove_19 : decode cX2_readClassAbove 19 = .ok (.aload_n 0, 1) := by decide +kernel
theorem dX2_readClassAbove_20 : decode cX2_readClassAbove 20 = .ok (.getfield 12, 3) := by decide +kernel
theorem dX2_readClassAbove_23 : decode cX2_readClassAbove 23 = .ok (.invokevirtual 132, 3) := by decide +kernel
theorem dX2_readClassAbove_26 : decode cX2_readClassAbove 26 = .ok (.invokevirtual 140, 3) := by decide +kernel
theorem dX2_readClassAbove_29 : decode cX2_readClassAbove 29 = .ok (.istore_n 2, 1) := by decide +kernel
theorem dX2_readClassAbove_30 : decode cX2_readClassAbove 30 = .ok (.aload_n 0, 1) := by decide +kernel
theorem dX2_readClassAbove_31 : decode cX2_readClassAbove 31 = .ok (.getfield 12, 3) := by decide +kernel
theorem dX2_readClassAbove_34 : decode cX2_readClassAbove 34 = .ok (.invokevirtual 85, 3) := by decide +kernel
theorem dX2_readClassAbove_37 : decode cX2_readClassAbove 37 = .ok (.iconst 3, 1) := by decide +kernel
theorem dX2_readClassAbove_38 : decode cX2_readClassAbove 38 = .ok (.if_icmp .eq 15, 3) := by decide +kernel
theorem dX2_readClassAbove_41 : decode cX2_readClassAbove 41 = .ok (.aload_n 0, 1) := by decide +kernel
theorem dX2_readClassAbove_42 : decode cX2_readClassAbove 42 = .ok (.getfield 12, 3) := by decide +kernel
theorem dX2_readClassAbove_45 : decode cX2_readClassAbove 45 = .ok (.iconst 1, 1) := by decide +kernel
theorem dX2_readClassAbove_46 : decode cX2_readClassAbove 46 = .ok (.iload_n 1, 1) := by decide +kernel
theorem dX2_readClassAbove_47 : decode cX2_readClassAbove 47 = .ok (.invokevirtual 136, 3) := by decide +kernel
theorem dX2_readClassAbove_50 : decode cX2_readClassAbove 50 = .ok (.goto 37, 3) := by decide +kernel
theorem dX2_readClassAbove_53 : decode cX2_readClassAbove 53 = .ok (.iload_n 2, 1) := by decide +kernel
theorem dX2_readClassAbove_54 : decode cX2_readClassAbove 54 = .ok (.iconst (-1), 1) := by decide +kernel
theorem dX2_readClassAbove_55 : decode cX2_readClassAbove 55 = .ok (.if_icmp .ne 15, 3) := by decide +kernel
theorem dX2_readClassAbove_58 : decode cX2_readClassAbove 58 = .ok (.aload_n 0, 1) := by decide +kernel
theorem dX2_readClassAbove_59 : decode cX2_readClassAbove 59 = .ok (.getfield 12, 3) := by decide +kernel
theorem dX2_readClassAbove_62 : decode cX2_readClassAbove 62 = .ok (.iconst 2, 1) := by decide +kernel
theorem dX2_readClassAbove_63 : decode cX2_readClassAbove 63 = .ok (.iload_n 1, 1) := by decide +kernel
theorem dX2_readClassAbove_64 : decode cX2_readClassAbove 64 = .ok (.invokevirtual 136, 3) := by decide +kernel
theorem dX2_readClassAbove_67 : decode cX2_readClassAbove 67 = .ok (.goto 20, 3) := by decide +kernel
theorem dX2_readClassAbove_70 : decode cX2_readClassAbove 70 = .ok (.aload_n 0, 1) := by decide +kernel
theorem dX2_readClassAbove_71 : decode cX2_readClassAbove 71 = .ok (.getfield 64, 3) := by decide +kernel
theorem dX2_readClassAbove_74 : decode cX2_readClassAbove 74 = .ok (.iload_n 2, 1) := by decide +kernel
theorem dX2_readClassAbove_75 : decode cX2_readClassAbove 75 = .ok (.aload_n 0, 1) := by decide +kernel
theorem dX2_readClassAbove_76 : decode cX2_readClassAbove 76 = .ok (.getfield 51, 3) := by decide +kernel
theorem dX2_readClassAbove_79 : decode cX2_readClassAbove 79 = .ok (.getfield 60, 3) := by decide +kernel
theorem dX2_readClassAbove_82 : decode cX2_readClassAbove 82 = .ok (.iload_n 2, 1) := by decide +kernel
theorem dX2_readClassAbove_83 : decode cX2_readClassAbove 83 = .ok (.aaload, 1) := by decide +kernel
theorem dX2_readClassAbove_84 : decode cX2_readClassAbove 84 = .ok (.invokevirtual 163, 3) := by decide +kernel
theorem dX2_readClassAbove_87 : decode cX2_readClassAbove 87 = .ok (.aload_n 0, 1) := by decide +kernel
theorem dX2_readClassAbove_88 : decode cX2_readClassAbove 88 = .ok (.getfield 12, 3) := by decide +kernel
theorem dX2_readClassAbove_91 : decode cX2_readClassAbove 91 = .ok (.invokevirtual 157, 3) := by decide +kernel
theorem dX2_readClassAbove_94 : decode cX2_readClassAbove 94 = .ok (.return_, 1) := by decide +kernel
theorem dX2_readField_0 : decode cX2_readField 0 = .ok (.aload_n 0, 1) := by decide +kernel
theorem dX2_readField_1 : decode cX2_readField 1 = .ok (.getfield 12, 3) := by decide +kernel
theorem dX2_readField_4 : decode cX2_readField 4 = .ok (.invokevirtual 157, 3) := by decide +kernel
theorem dX2_readField_7 : decode cX2_readField 7 = .ok (.aload_n 0, 1) := by decide +kernel
theorem dX2_readField_8 : decode cX2_readField 8 = .ok (.getfield 12, 3) := by decide +kernel
theorem dX2_readField_11 : decode cX2_readField 11 = .ok (.invokevirtual 129, 3) := by decide +kernel
theorem dX2_readField_14 : decode cX2_readField 14 = .ok (.istore_n 1, 1) := by decide +kernel
theorem dX2_readField_15 : decode cX2_readField 15 = .ok (.aload_n 0, 1) := by decide +kernel
theorem dX2_readField_16 : decode cX2_readField 16 = .ok (.getfield 12, 3) := by decide +kernel
theorem dX2_readField_19 : decode cX2_readField 19 = .ok (.invokevirtual 132, 3) := by decide +kernel
theorem dX2_readField_22 : decode cX2_readField 22 = .ok (.lstore_n 2, 1) := by decide +kernel
theorem dX2_readField_23 : decode cX2_readField 23 = .ok (.aload_n 0, 1) := by decide +kernel
theorem dX2_readField_24 : decode cX2_readField 24 = .ok (.getfield 12, 3) := by decide +kernel
theorem dX2_readField_27 : decode cX2_readField 27 = .ok (.invokevirtual 85, 3) := by decide +kernel
theorem dX2_readField_30 : decode cX2_readField 30 = .ok (.iconst 3, 1) := by decide +kernel
theorem dX2_readField_31 : decode cX2_readField 31 = .ok (.if_icmp .eq 15, 3) := by decide +kernel
theorem dX2_readField_34 : decode cX2_readField 34 = .ok (.aload_n 0, 1) := by decide +kernel
theorem dX2_readField_35 : decode cX2_readField 35 = .ok (.getfield 12, 3) := by decide +kernel
theorem dX2_readField_38 : decode cX2_readField 38 = .ok (.iconst 1, 1) := by decide +kernel
theorem dX2_readField_39 : decode cX2_readField 39 = .ok (.iload_n 1, 1) := by decide +kernel
theorem dX2_readField_40 : decode cX2_readField 40 = .ok (.invokevirtual 136, 3) := by decide +kernel
theorem dX2_readField_43 : decode cX2_readField 43 = .ok (.goto 48, 3) := by decide +kernel
theorem dX2_readField_46 : decode cX2_readField 46 = .ok (.aload_n 0, 1) := by decide +kernel
theorem dX2_readField_47 : decode cX2_readField 47 = .ok (.getfield 64, 3) := by decide +kernel
theorem dX2_readField_50 : decode cX2_readField 50 = .ok (.lload_n 2, 1) := by decide +kernel
theorem dX2_readField_51 : decode cX2_readField 51 = .ok (.invokevirtual 167, 3) := by decide +kernel
theorem dX2_readField_54 : decode cX2_readField 54 = .ok (.iconst (-1), 1) := by decide +kernel
theorem dX2_readField_55 : decode cX2_readField 55 = .ok (.if_icmp .eq 15, 3) := by decide +kernel
theorem dX2_readField_58 : decode cX2_readField 58 = .ok (.aload_n 0, 1) := by decide +kernel
theorem dX2_readField_59 : decode cX2_readField 59 = .ok (.getfield 12, 3) := by decide +kernel
theorem dX2_readField_62 : decode cX2_readField 62 = .ok (.iconst 2, 1) := by decide +kernel
theorem dX2_readField_63 : decode cX2_readField 63 = .ok (.iload_n 1, 1) := by decide +kernel
theorem dX2_readField_64 : decode cX2_readField 64 = .ok (.invokevirtual 136, 3) := by decide +kernel
theorem dX2_readField_67 : decode cX2_readField 67 = .ok (.goto 24, 3) := by decide +kernel
theorem dX2_readField_70 : decode cX2_readField 70 = .ok (.aload_n 0, 1) := by decide +kernel
theorem dX2_readField_71 : decode cX2_readField 71 = .ok (.getfield 64, 3) := by decide +kernel
theorem dX2_readField_74 : decode cX2_readField 74 = .ok (.getfield 170, 3) := by decide +kernel
theorem dX2_readField_77 : decode cX2_readField 77 = .ok (.bipush 10, 2) := by decide +kernel
theorem dX2_readField_79 : decode cX2_readField 79 = .ok (.if_icmp .lt 12, 3) := by decide +kernel
theorem dX2_readField_82 : decode cX2_readField 82 = .ok (.aload_n 0, 1) := by decide +kernel
theorem dX2_readField_83 : decode cX2_readField 83 = .ok (.getfield 12, 3) := by decide +kernel
theorem dX2_readField_86 : decode cX2_readField 86 = .ok (.iconst 4, 1) := by decide +kernel
theorem dX2_readField_87 : decode cX2_readField 87 = .ok (.iload_n 1, 1) := by decide +kernel
theorem dX2_readField_88 : decode cX2_readField 88 = .ok (.invokevirtual 136, 3) := by decide +kernel
theorem dX2_readField_91 : decode cX2_readField 91 = .ok (.aload_n 0, 1) := by decide +kernel
theorem dX2_readField_92 : decode cX2_readField 92 = .ok (.getfield 12, 3) := by decide +kernel
theorem dX2_readField_95 : decode cX2_readField 95 = .ok (.invokevirtual 157, 3) := by decide +kernel
theorem dX2_readField_98 : decode cX2_readField 98 = .ok (.iconst 0, 1) := by decide +kernel
theorem dX2_readField_99 : decode cX2_readField 99 = .ok (.istore 4, 2) := by decide +kernel
theorem dX2_readField_101 : decode cX2_readField 101 = .ok (.aload_n 0, 1) := by decide +kernel
theorem dX2_readField_102 : decode cX2_readField 102 = .ok (.getfield 12, 3) := by decide +kernel
theorem dX2_readField_105 : decode cX2_readField 105 = .ok (.invokevirtual 85, 3) := by decide +kernel
theorem dX2_readField_108 : decode cX2_readField 108 = .ok (.bipush 91, 2) := by decide +kernel
theorem dX2_readField_110 : decode cX2_readField 110 = .ok (.if_icmp .ne 12, 3) := by decide +kernel
theorem dX2_readField_113 : decode cX2_readField 113 = .ok (.aload_n 0, 1) := by decide +kernel
theorem dX2_readField_114 : decode cX2_readField 114 = .ok (.invokevirtual 173, 3) := by decide +kernel
theorem dX2_readField_117 : decode cX2_readField 117 = .ok (.istore 4, 2) := by decide +kernel
theorem dX2_readField_119 : decode cX2_readField 119 = .ok (.goto 24, 3) := by decide +kernel
theorem dX2_readField_122 : decode cX2_readField 122 = .ok (.aload_n 0, 1) := by decide +kernel
theorem dX2_readField_123 : decode cX2_readField 123 = .ok (.getfield 64, 3) := by decide +kernel
theorem dX2_readField_126 : decode cX2_readField 126 = .ok (.getfield 176, 3) := by decide +kernel
theorem dX2_readField_129 : decode cX2_readField 129 = .ok (.bipush 24, 2) := by decide +kernel
theorem dX2_readField_131 : decode cX2_readField 131 = .ok (.if_icmp .lt 12, 3) := by decide +kernel
theorem dX2_readField_134 : decode cX2_readField 134 = .ok (.aload_n 0, 1) := by decide +kernel
theorem dX2_readField_135 : decode cX2_readField 135 = .ok (.getfield 12, 3) := by decide +kernel
theorem dX2_readField_138 : decode cX2_readField 138 = .ok (.iconst 4, 1) := by decide +kernel
theorem dX2_readField_139 : decode cX2_readField 139 = .ok (.iload_n 1, 1) := by decide +kernel
theorem dX2_readField_140 : decode cX2_readField 140 = .ok (.invokevirtual 136, 3) := by decide +kernel
theorem dX2_readField_143 : decode cX2_readField 143 = .ok (.iconst 0, 1) := by decide +kernel
theorem dX2_readField_144 : decode cX2_readField 144 = .ok (.istore 5, 2) := by decide +kernel
theorem dX2_readField_146 : decode cX2_readField 146 = .ok (.aload_n 0, 1) := by decide +kernel
theorem dX2_readField_147 : decode cX2_readField 147 = .ok (.getfield 12, 3) := by decide +kernel
theorem dX2_readField_150 : decode cX2_readField 150 = .ok (.invokevirtual 85, 3) := by decide +kernel
theorem dX2_readField_153 : decode cX2_readField 153 = .ok (.bipush 61, 2) := by decide +kernel
theorem dX2_readField_155 : decode cX2_readField 155 = .ok (.if_icmp .ne 18, 3) := by decide +kernel
theorem dX2_readField_158 : decode cX2_readField 158 = .ok (.aload_n 0, 1) := by decide +kernel
theorem dX2_readField_159 : decode cX2_readField 159 = .ok (.getfield 12, 3) := by decide +kernel
theorem dX2_readField_162 : decode cX2_readField 162 = .ok (.invokevirtual 157, 3) := by decide +kernel
theorem dX2_readField_165 : decode cX2_readField 165 = .ok (.aload_n 0, 1) := by decide +kernel
theorem dX2_readField_166 : decode cX2_readField 166 = .ok (.ldc 181, 2) := by decide +kernel
theorem dX2_readField_168 : decode cX2_readField 168 = .ok (.invokevirtual 182, 3) := by decide +kernel
theorem dX2_readField_171 : decode cX2_readField 171 = .ok (.istore 5, 2) := by decide +kernel
theorem dX2_readField_173 : decode cX2_readField 173 = .ok (.aload_n 0, 1) := by decide +kernel
theorem dX2_readField_174 : decode cX2_readField 174 = .ok (.getfield 12, 3) := by decide +kernel
theorem dX2_readField_177 : decode cX2_readField 177 = .ok (.bipush 59, 2) := by decide +kernel
theorem dX2_readField_179 : decode cX2_readField 179 = .ok (.invokevirtual 89, 3) := by decide +kernel
theorem dX2_readField_182 : decode cX2_readField 182 = .ok (.aload_n 0, 1) := by decide +kernel
theorem dX2_readField_183 : decode cX2_readField 183 = .ok (.getfield 12, 3) := by decide +kernel
theorem dX2_readField_186 : decode cX2_readField 186 = .ok (.getfield 93, 3) := by decide +kernel
theorem dX2_readField_189 : decode cX2_readField 189 = .ok (.ifCond .ne 15, 3) := by decide +kernel
theorem dX2_readField_192 : decode cX2_readField 192 = .ok (.aload_n 0, 1) := by decide +kernel
theorem dX2_readField_193 : decode cX2_readField 193 = .ok (.getfield 64, 3) := by decide +kernel
theorem dX2_readField_196 : decode cX2_readField 196 = .ok (.lload_n 2, 1) := by decide +kernel
theorem dX2_readField_197 : decode cX2_readField 197 = .ok (.iload 4, 2) := by decide +kernel
theorem dX2_readField_199 : decode cX2_readField 199 = .ok (.iload 5, 2) := by decide +kernel
theorem dX2_readField_201 : decode cX2_readField 201 = .ok (.invokevirtual 186, 3) := by decide +kernel
theorem dX2_readField_204 : decode cX2_readField 204 = .ok (.return_, 1) := by decide +kernel
theorem dX2_readRowSize_0 : decode cX2_readRowSize 0 = .ok (.aload_n 0, 1) := by decide +kernel
theorem dX2_readRowSize_1 : decode cX2_readRowSize 1 = .ok (.getfield 12, 3) := by decide +kernel
theorem dX2_readRowSize_4 : decode cX2_readRowSize 4 = .ok (.invokevirtual 157, 3) := by decide +kernel
theorem dX2_readRowSize_7 : decode cX2_readRowSize 7 = .ok (.aload_n 0, 1) := by decide +kernel
theorem dX2_readRowSize_8 : decode cX2_readRowSize 8 = .ok (.getfield 12, 3) := by decide +kernel
theorem dX2_readRowSize_11 : decode cX2_readRowSize 11 = .ok (.invokevirtual 129, 3) := by decide +kernel
theorem dX2_readRowSize_14 : decode cX2_readRowSize 14 = .ok (.istore_n 1, 1) := by decide +kernel
theorem dX2_readRowSize_15 : decode cX2_readRowSize 15 = .ok (.aload_n 0, 1) := by decide +kernel
theorem dX2_readRowSize_16 : decode cX2_readRowSize 16 = .ok (.getfield 12, 3) := by decide +kernel
theorem dX2_readRowSize_19 : decode cX2_readRowSize 19 = .ok (.invokevirtual 132, 3) := by decide +kernel
theorem dX2_readRowSize_22 : decode cX2_readRowSize 22 = .ok (.ldc2_w 190, 3) := by decide +kernel
theorem dX2_readRowSize_25 : decode cX2_readRowSize 25 = .ok (.invokestatic 192, 3) := by decide +kernel
theorem dX2_readRowSize_28 : decode cX2_readRowSize 28 = .ok (.l2i, 1) := by decide +kernel
theorem dX2_readRowSize_29 : decode cX2_readRowSize 29 = .ok (.istore_n 2, 1) := by decide +kernel
theorem dX2_readRowSize_30 : decode cX2_readRowSize 30 = .ok (.aload_n 0, 1) := by decide +kernel
theorem dX2_readRowSize_31 : decode cX2_readRowSize 31 = .ok (.getfield 12, 3) := by decide +kernel
theorem dX2_readRowSize_34 : decode cX2_readRowSize 34 = .ok (.invokevirtual 85, 3) := by decide +kernel
theorem dX2_readRowSize_37 : decode cX2_readRowSize 37 = .ok (.iconst 4, 1) := by decide +kernel
theorem dX2_readRowSize_38 : decode cX2_readRowSize 38 = .ok (.if_icmp .eq 15, 3) := by decide +kernel
theorem dX2_readRowSize_41 : decode cX2_readRowSize 41 = .ok (.aload_n 0, 1) := by decide +kernel
theorem dX2_readRowSize_42 : decode cX2_readRowSize 42 = .ok (.getfield 12, 3) := by decide +kernel
theorem dX2_readRowSize_45 : decode cX2_readRowSize 45 = .ok (.iconst 1, 1) := by decide +kernel
theorem dX2_readRowSize_46 : decode cX2_readRowSize 46 = .ok (.iload_n 1, 1) := by decide +kernel
theorem dX2_readRowSize_47 : decode cX2_readRowSize 47 = .ok (.invokevirtual 136, 3) := by decide +kernel
theorem dX2_readRowSize_50 : decode cX2_readRowSize 50 = .ok (.goto 49, 3) := by decide +kernel
theorem dX2_readRowSize_53 : decode cX2_readRowSize 53 = .ok (.iload_n 2, 1) := by decide +kernel
theorem dX2_readRowSize_54 : decode cX2_readRowSize 54 = .ok (.iconst 1, 1) := by decide +kernel
theorem dX2_readRowSize_55 : decode cX2_readRowSize 55 = .ok (.if_icmp .lt 9, 3) := by decide +kernel
theorem dX2_readRowSize_58 : decode cX2_readRowSize 58 = .ok (.iload_n 2, 1) := by decide +kernel
theorem dX2_readRowSize_59 : decode cX2_readRowSize 59 = .ok (.bipush 8, 2) := by decide +kernel
theorem dX2_readRowSize_61 : decode cX2_readRowSize 61 = .ok (.if_icmp .le 15, 3) := by decide +kernel
theorem dX2_readRowSize_64 : decode cX2_readRowSize 64 = .ok (.aload_n 0, 1) := by decide +kernel
theorem dX2_readRowSize_65 : decode cX2_readRowSize 65 = .ok (.getfield 12, 3) := by decide +kernel
theorem dX2_readRowSize_68 : decode cX2_readRowSize 68 = .ok (.iconst 3, 1) := by decide +kernel
theorem dX2_readRowSize_69 : decode cX2_readRowSize 69 = .ok (.iload_n 1, 1) := by decide +kernel
theorem dX2_readRowSize_70 : decode cX2_readRowSize 70 = .ok (.invokevirtual 136, 3) := by decide +kernel
theorem dX2_readRowSize_73 : decode cX2_readRowSize 73 = .ok (.goto 26, 3) := by decide +kernel
theorem dX2_readRowSize_76 : decode cX2_readRowSize 76 = .ok (.aload_n 0, 1) := by decide +kernel
theorem dX2_readRowSize_77 : decode cX2_readRowSize 77 = .ok (.getfield 64, 3) := by decide +kernel
theorem dX2_readRowSize_80 : decode cX2_readRowSize 80 = .ok (.getfield 176, 3) := by decide +kernel
theorem dX2_readRowSize_83 : decode cX2_readRowSize 83 = .ok (.iload_n 2, 1) := by decide +kernel
theorem dX2_readRowSize_84 : decode cX2_readRowSize 84 = .ok (.iadd, 1) := by decide +kernel
theorem dX2_readRowSize_85 : decode cX2_readRowSize 85 = .ok (.bipush 24, 2) := by decide +kernel
theorem dX2_readRowSize_87 : decode cX2_readRowSize 87 = .ok (.if_icmp .le 12, 3) := by decide +kernel
theorem dX2_readRowSize_90 : decode cX2_readRowSize 90 = .ok (.aload_n 0, 1) := by decide +kernel
theorem dX2_readRowSize_91 : decode cX2_readRowSize 91 = .ok (.getfield 12, 3) := by decide +kernel
theorem dX2_readRowSize_94 : decode cX2_readRowSize 94 = .ok (.iconst 4, 1) := by decide +kernel
theorem dX2_readRowSize_95 : decode cX2_readRowSize 95 = .ok (.iload_n 1, 1) := by decide +kernel
theorem dX2_readRowSize_96 : decode cX2_readRowSize 96 = .ok (.invokevirtual 136, 3) := by decide +kernel
theorem dX2_readRowSize_99 : decode cX2_readRowSize 99 = .ok (.aload_n 0, 1) := by decide +kernel
theorem dX2_readRowSize_100 : decode cX2_readRowSize 100 = .ok (.getfield 12, 3) := by decide +kernel
theorem dX2_readRowSize_103 : decode cX2_readRowSize 103 = .ok (.invokevirtual 157, 3) := by decide +kernel
theorem dX2_readRowSize_106 : decode cX2_readRowSize 106 = .ok (.aload_n 0, 1) := by decide +kernel
theorem dX2_readRowSize_107 : decode cX2_readRowSize 107 = .ok (.getfield 12, 3) := by decide +kernel
theorem dX2_readRowSize_110 : decode cX2_readRowSize 110 = .ok (.bipush 93, 2) := by decide +kernel
theorem dX2_readRowSize_112 : decode cX2_readRowSize 112 = .ok (.invokevirtual 89, 3) := by decide +kernel
theorem dX2_readRowSize_115 : decode cX2_readRowSize 115 = .ok (.iload_n 2, 1) := by decide +kernel
theorem dX2_readRowSize_116 : decode cX2_readRowSize 116 = .ok (.ireturn, 1) := by decide +kernel
theorem dX2_readNumber_0 : decode cX2_readNumber 0 = .ok (.aload_n 0, 1) := by decide +kernel
theorem dX2_readNumber_1 : decode cX2_readNumber 1 = .ok (.getfield 12, 3) := by decide +kernel
theorem dX2_readNumber_4 : decode cX2_readNumber 4 = .ok (.invokevirtual 85, 3) := by decide +kernel
theorem dX2_readNumber_7 : decode cX2_readNumber 7 = .ok (.bipush 45, 2) := by decide +kernel
theorem dX2_readNumber_9 : decode cX2_readNumber 9 = .ok (.if_icmp .ne 7, 3) := by decide +kernel
theorem dX2_readNumber_12 : decode cX2_readNumber 12 = .ok (.iconst 1, 1) := by decide +kernel
theorem dX2_readNumber_13 : decode cX2_readNumber 13 = .ok (.goto 4, 3) := by decide +kernel
theorem dX2_readNumber_16 : decode cX2_readNumber 16 = .ok (.iconst 0, 1) := by decide +kernel
theorem dX2_readNumber_17 : decode cX2_readNumber 17 = .ok (.istore_n 2, 1) := by decide +kernel
theorem dX2_readNumber_18 : decode cX2_readNumber 18 = .ok (.iload_n 2, 1) := by decide +kernel
theorem dX2_readNumber_19 : decode cX2_readNumber 19 = .ok (.ifCond .eq 10, 3) := by decide +kernel
theorem dX2_readNumber_22 : decode cX2_readNumber 22 = .ok (.aload_n 0, 1) := by decide +kernel
theorem dX2_readNumber_23 : decode cX2_readNumber 23 = .ok (.getfield 12, 3) := by decide +kernel
theorem dX2_readNumber_26 : decode cX2_readNumber 26 = .ok (.invokevirtual 157, 3) := by decide +kernel
theorem dX2_readNumber_29 : decode cX2_readNumber 29 = .ok (.iload_n 2, 1) := by decide +kernel
theorem dX2_readNumber_30 : decode cX2_readNumber 30 = .ok (.ifCond .eq 15, 3) := by decide +kernel
theorem dX2_readNumber_33 : decode cX2_readNumber 33 = .ok (.aload_n 0, 1) := by decide +kernel
theorem dX2_readNumber_34 : decode cX2_readNumber 34 = .ok (.getfield 12, 3) := by decide +kernel
theorem dX2_readNumber_37 : decode cX2_readNumber 37 = .ok (.invokevirtual 132, 3) := by decide +kernel
theorem dX2_readNumber_40 : decode cX2_readNumber 40 = .ok (.lneg, 1) := by decide +kernel
theorem dX2_readNumber_41 : decode cX2_readNumber 41 = .ok (.l2i, 1) := by decide +kernel
theorem dX2_readNumber_42 : decode cX2_readNumber 42 = .ok (.goto 11, 3) := by decide +kernel
theorem dX2_readNumber_45 : decode cX2_readNumber 45 = .ok (.aload_n 0, 1) := by decide +kernel
theorem dX2_readNumber_46 : decode cX2_readNumber 46 = .ok (.getfield 12, 3) := by decide +kernel
theorem dX2_readNumber_49 : decode cX2_readNumber 49 = .ok (.invokevirtual 132, 3) := by decide +kernel
theorem dX2_readNumber_52 : decode cX2_readNumber 52 = .ok (.l2i, 1) := by decide +kernel
theorem dX2_readNumber_53 : decode cX2_readNumber 53 = .ok (.istore_n 3, 1) := by decide +kernel
theorem dX2_readNumber_54 : decode cX2_readNumber 54 = .ok (.aload_n 0, 1) := by decide +kernel
theorem dX2_readNumber_55 : decode cX2_readNumber 55 = .ok (.getfield 12, 3) := by decide +kernel
theorem dX2_readNumber_58 : decode cX2_readNumber 58 = .ok (.invokevirtual 85, 3) := by decide +kernel
theorem dX2_readNumber_61 : decode cX2_readNumber 61 = .ok (.iconst 4, 1) := by decide +kernel
theorem dX2_readNumber_62 : decode cX2_readNumber 62 = .ok (.if_icmp .eq 21, 3) := by decide +kernel
theorem dX2_readNumber_65 : decode cX2_readNumber 65 = .ok (.aload_n 0, 1) := by decide +kernel
theorem dX2_readNumber_66 : decode cX2_readNumber 66 = .ok (.getfield 12, 3) := by decide +kernel
theorem dX2_readNumber_69 : decode cX2_readNumber 69 = .ok (.iconst 1, 1) := by decide +kernel
theorem dX2_readNumber_70 : decode cX2_readNumber 70 = .ok (.aload_n 0, 1) := by decide +kernel
theorem dX2_readNumber_71 : decode cX2_readNumber 71 = .ok (.getfield 12, 3) := by decide +kernel
theorem dX2_readNumber_74 : decode cX2_readNumber 74 = .ok (.invokevirtual 129, 3) := by decide +kernel
theorem dX2_readNumber_77 : decode cX2_readNumber 77 = .ok (.invokevirtual 136, 3) := by decide +kernel
theorem dX2_readNumber_80 : decode cX2_readNumber 80 = .ok (.goto 23, 3) := by decide +kernel
theorem dX2_readNumber_83 : decode cX2_readNumber 83 = .ok (.iload_n 3, 1) := by decide +kernel
theorem dX2_readNumber_84 : decode cX2_readNumber 84 = .ok (.iload_n 1, 1) := by decide +kernel
theorem dX2_readNumber_85 : decode cX2_readNumber 85 = .ok (.if_icmp .ge 18, 3) := by decide +kernel
theorem dX2_readNumber_88 : decode cX2_readNumber 88 = .ok (.aload_n 0, 1) := by decide +kernel
theorem dX2_readNumber_89 : decode cX2_readNumber 89 = .ok (.getfield 12, 3) := by decide +kernel
theorem dX2_readNumber_92 : decode cX2_readNumber 92 = .ok (.iconst 3, 1) := by decide +kernel
theorem dX2_readNumber_93 : decode cX2_readNumber 93 = .ok (.aload_n 0, 1) := by decide +kernel
theorem dX2_readNumber_94 : decode cX2_readNumber 94 = .ok (.getfield 12, 3) := by decide +kernel
theorem dX2_readNumber_97 : decode cX2_readNumber 97 = .ok (.invokevirtual 129, 3) := by decide +kernel
theorem dX2_readNumber_100 : decode cX2_readNumber 100 = .ok (.invokevirtual 136, 3) := by decide +kernel
theorem dX2_readNumber_103 : decode cX2_readNumber 103 = .ok (.aload_n 0, 1) := by decide +kernel
theorem dX2_readNumber_104 : decode cX2_readNumber 104 = .ok (.getfield 12, 3) := by decide +kernel
theorem dX2_readNumber_107 : decode cX2_readNumber 107 = .ok (.invokevirtual 157, 3) := by decide +kernel
theorem dX2_readNumber_110 : decode cX2_readNumber 110 = .ok (.iload_n 3, 1) := by decide +kernel
theorem dX2_readNumber_111 : decode cX2_readNumber 111 = .ok (.ireturn, 1) := by decide +kernel
theorem dX2_readKept_0 : decode cX2_readKept 0 = .ok (.aload_n 0, 1) := by decide +kernel
theorem dX2_readKept_1 : decode cX2_readKept 1 = .ok (.getfield 64, 3) := by decide +kernel
theorem dX2_readKept_4 : decode cX2_readKept 4 = .ok (.getfield 198, 3) := by decide +kernel
theorem dX2_readKept_7 : decode cX2_readKept 7 = .ok (.bipush 8, 2) := by decide +kernel
theorem dX2_readKept_9 : decode cX2_readKept 9 = .ok (.if_icmp .lt 18, 3) := by decide +kernel
theorem dX2_readKept_12 : decode cX2_readKept 12 = .ok (.aload_n 0, 1) := by decide +kernel
theorem dX2_readKept_13 : decode cX2_readKept 13 = .ok (.getfield 12, 3) := by decide +kernel
theorem dX2_readKept_16 : decode cX2_readKept 16 = .ok (.iconst 4, 1) := by decide +kernel
theorem dX2_readKept_17 : decode cX2_readKept 17 = .ok (.aload_n 0, 1) := by decide +kernel
theorem dX2_readKept_18 : decode cX2_readKept 18 = .ok (.getfield 12, 3) := by decide +kernel
theorem dX2_readKept_21 : decode cX2_readKept 21 = .ok (.invokevirtual 129, 3) := by decide +kernel
theorem dX2_readKept_24 : decode cX2_readKept 24 = .ok (.invokevirtual 136, 3) := by decide +kernel
theorem dX2_readKept_27 : decode cX2_readKept 27 = .ok (.aload_n 0, 1) := by decide +kernel
theorem dX2_readKept_28 : decode cX2_readKept 28 = .ok (.getfield 12, 3) := by decide +kernel
theorem dX2_readKept_31 : decode cX2_readKept 31 = .ok (.invokevirtual 157, 3) := by decide +kernel
theorem dX2_readKept_34 : decode cX2_readKept 34 = .ok (.aload_n 0, 1) := by decide +kernel
theorem dX2_readKept_35 : decode cX2_readKept 35 = .ok (.getfield 64, 3) := by decide +kernel
theorem dX2_readKept_38 : decode cX2_readKept 38 = .ok (.dup, 1) := by decide +kernel
theorem dX2_readKept_39 : decode cX2_readKept 39 = .ok (.getfield 198, 3) := by decide +kernel
theorem dX2_readKept_42 : decode cX2_readKept 42 = .ok (.iconst 1, 1) := by decide +kernel
theorem dX2_readKept_43 : decode cX2_readKept 43 = .ok (.iadd, 1) := by decide +kernel
theorem dX2_readKept_44 : decode cX2_readKept 44 = .ok (.putfield 198, 3) := by decide +kernel
theorem dX2_readKept_47 : decode cX2_readKept 47 = .ok (.aload_n 0, 1) := by decide +kernel
theorem dX2_readKept_48 : decode cX2_readKept 48 = .ok (.getfield 51, 3) := by decide +kernel
theorem dX2_readKept_51 : decode cX2_readKept 51 = .ok (.iconst 3, 1) := by decide +kernel
theorem dX2_readKept_52 : decode cX2_readKept 52 = .ok (.aload_n 0, 1) := by decide +kernel
theorem dX2_readKept_53 : decode cX2_readKept 53 = .ok (.getfield 21, 3) := by decide +kernel
theorem dX2_readKept_56 : decode cX2_readKept 56 = .ok (.getfield 154, 3) := by decide +kernel
theorem dX2_readKept_59 : decode cX2_readKept 59 = .ok (.aload_n 0, 1) := by decide +kernel
theorem dX2_readKept_60 : decode cX2_readKept 60 = .ok (.getfield 12, 3) := by decide +kernel
theorem dX2_readKept_63 : decode cX2_readKept 63 = .ok (.invokevirtual 129, 3) := by decide +kernel
theorem dX2_readKept_66 : decode cX2_readKept 66 = .ok (.invokevirtual 201, 3) := by decide +kernel
theorem dX2_readKept_69 : decode cX2_readKept 69 = .ok (.pop, 1) := by decide +kernel
theorem dX2_readKept_70 : decode cX2_readKept 70 = .ok (.aload_n 0, 1) := by decide +kernel
theorem dX2_readKept_71 : decode cX2_readKept 71 = .ok (.iconst 0, 1) := by decide +kernel
theorem dX2_readKept_72 : decode cX2_readKept 72 = .ok (.invokevirtual 205, 3) := by decide +kernel
theorem dX2_readKept_75 : decode cX2_readKept 75 = .ok (.aload_n 0, 1) := by decide +kernel
theorem dX2_readKept_76 : decode cX2_readKept 76 = .ok (.getfield 12, 3) := by decide +kernel
theorem dX2_readKept_79 : decode cX2_readKept 79 = .ok (.bipush 59, 2) := by decide +kernel
theorem dX2_readKept_81 : decode cX2_readKept 81 = .ok (.invokevirtual 89, 3) := by decide +kernel
theorem dX2_readKept_84 : decode cX2_readKept 84 = .ok (.return_, 1) := by decide +kernel
theorem dX2_readAsked_0 : decode cX2_readAsked 0 = .ok (.aload_n 0, 1) := by decide +kernel
theorem dX2_readAsked_1 : decode cX2_readAsked 1 = .ok (.getfield 21, 3) := by decide +kernel
theorem dX2_readAsked_4 : decode cX2_readAsked 4 = .ok (.iconst 1, 1) := by decide +kernel
theorem dX2_readAsked_5 : decode cX2_readAsked 5 = .ok (.putfield 209, 3) := by decide +kernel
theorem dX2_readAsked_8 : decode cX2_readAsked 8 = .ok (.aload_n 0, 1) := by decide +kernel
theorem dX2_readAsked_9 : decode cX2_readAsked 9 = .ok (.getfield 21, 3) := by decide +kernel
theorem dX2_readAsked_12 : decode cX2_readAsked 12 = .ok (.iload_n 1, 1) := by decide +kernel
theorem dX2_readAsked_13 : decode cX2_readAsked 13 = .ok (.putfield 213, 3) := by decide +kernel
theorem dX2_readAsked_16 : decode cX2_readAsked 16 = .ok (.aload_n 0, 1) := by decide +kernel
theorem dX2_readAsked_17 : decode cX2_readAsked 17 = .ok (.getfield 30, 3) := by decide +kernel
theorem dX2_readAsked_20 : decode cX2_readAsked 20 = .ok (.invokevirtual 216, 3) := by decide +kernel
theorem dX2_readAsked_23 : decode cX2_readAsked 23 = .ok (.aload_n 0, 1) := by decide +kernel
theorem dX2_readAsked_24 : decode cX2_readAsked 24 = .ok (.getfield 21, 3) := by decide +kernel
theorem dX2_readAsked_27 : decode cX2_readAsked 27 = .ok (.iconst 0, 1) := by decide +kernel
theorem dX2_readAsked_28 : decode cX2_readAsked 28 = .ok (.putfield 209, 3) := by decide +kernel
theorem dX2_readAsked_31 : decode cX2_readAsked 31 = .ok (.aload_n 0, 1) := by decide +kernel
theorem dX2_readAsked_32 : decode cX2_readAsked 32 = .ok (.getfield 21, 3) := by decide +kernel
theorem dX2_readAsked_35 : decode cX2_readAsked 35 = .ok (.iconst 0, 1) := by decide +kernel
theorem dX2_readAsked_36 : decode cX2_readAsked 36 = .ok (.putfield 213, 3) := by decide +kernel
theorem dX2_readAsked_39 : decode cX2_readAsked 39 = .ok (.aload_n 0, 1) := by decide +kernel
theorem dX2_readAsked_40 : decode cX2_readAsked 40 = .ok (.getfield 51, 3) := by decide +kernel
theorem dX2_readAsked_43 : decode cX2_readAsked 43 = .ok (.bipush 26, 2) := by decide +kernel
theorem dX2_readAsked_45 : decode cX2_readAsked 45 = .ok (.iconst 0, 1) := by decide +kernel
theorem dX2_readAsked_46 : decode cX2_readAsked 46 = .ok (.invokevirtual 221, 3) := by decide +kernel
theorem dX2_readAsked_49 : decode cX2_readAsked 49 = .ok (.return_, 1) := by decide +kernel
theorem dX2_readMemberHead_0 : decode cX2_readMemberHead 0 = .ok (.aload_n 0, 1) := by decide +kernel
theorem dX2_readMemberHead_1 : decode cX2_readMemberHead 1 = .ok (.getfield 12, 3) := by decide +kernel
theorem dX2_readMemberHead_4 : decode cX2_readMemberHead 4 = .ok (.invokevirtual 157, 3) := by decide +kernel
theorem dX2_readMemberHead_7 : decode cX2_readMemberHead 7 = .ok (.aload_n 0, 1) := by decide +kernel
theorem dX2_readMemberHead_8 : decode cX2_readMemberHead 8 = .ok (.getfield 12, 3) := by decide +kernel
theorem dX2_readMemberHead_11 : decode cX2_readMemberHead 11 = .ok (.invokevirtual 129, 3) := by decide +kernel
theorem dX2_readMemberHead_14 : decode cX2_readMemberHead 14 = .ok (.istore_n 1, 1) := by decide +kernel
theorem dX2_readMemberHead_15 : decode cX2_readMemberHead 15 = .ok (.aload_n 0, 1) := by decide +kernel
theorem dX2_readMemberHead_16 : decode cX2_readMemberHead 16 = .ok (.getfield 12, 3) := by decide +kernel
theorem dX2_readMemberHead_19 : decode cX2_readMemberHead 19 = .ok (.invokevirtual 132, 3) := by decide +kernel
theorem dX2_readMemberHead_22 : decode cX2_readMemberHead 22 = .ok (.lstore_n 2, 1) := by decide +kernel
theorem dX2_readMemberHead_23 : decode cX2_readMemberHead 23 = .ok (.aload_n 0, 1) := by decide +kernel
theorem dX2_readMemberHead_24 : decode cX2_readMemberHead 24 = .ok (.getfield 51, 3) := by decide +kernel
theorem dX2_readMemberHead_27 : decode cX2_readMemberHead 27 = .ok (.aload_n 0, 1) := by decide +kernel
theorem dX2_readMemberHead_28 : decode cX2_readMemberHead 28 = .ok (.getfield 64, 3) := by decide +kernel
theorem dX2_readMemberHead_31 : decode cX2_readMemberHead 31 = .ok (.lload_n 2, 1) := by decide +kernel
theorem dX2_readMemberHead_32 : decode cX2_readMemberHead 32 = .ok (.invokevirtual 224, 3) := by decide +kernel
theorem dX2_readMemberHead_35 : decode cX2_readMemberHead 35 = .ok (.istore 4, 2) := by decide +kernel
theorem dX2_readMemberHead_37 : decode cX2_readMemberHead 37 = .ok (.iload 4, 2) := by decide +kernel
theorem dX2_readMemberHead_39 : decode cX2_readMemberHead 39 = .ok (.iconst (-1), 1) := by decide +kernel
theorem dX2_readMemberHead_40 : decode cX2_readMemberHead 40 = .ok (.if_icmp .ne 7, 3) := by decide +kernel
theorem dX2_readMemberHead_43 : decode cX2_readMemberHead 43 = .ok (.iconst (-1), 1) := by decide +kernel
theorem dX2_readMemberHead_44 : decode cX2_readMemberHead 44 = .ok (.goto 13, 3) := by decide +kernel
theorem dX2_readMemberHead_47 : decode cX2_readMemberHead 47 = .ok (.aload_n 0, 1) := by decide +kernel
theorem dX2_readMemberHead_48 : decode cX2_readMemberHead 48 = .ok (.getfield 64, 3) := by decide +kernel
theorem dX2_readMemberHead_51 : decode cX2_readMemberHead 51 = .ok (.getfield 228, 3) := by decide +kernel
theorem dX2_readMemberHead_54 : decode cX2_readMemberHead 54 = .ok (.iload 4, 2) := by decide +kernel
theorem dX2_readMemberHead_56 : decode cX2_readMemberHead 56 = .ok (.iaload, 1) := by decide +kernel
theorem dX2_readMemberHead_57 : decode cX2_readMemberHead 57 = .ok (.istore 5, 2) := by decide +kernel
theorem dX2_readMemberHead_59 : decode cX2_readMemberHead 59 = .ok (.aload_n 0, 1) := by decide +kernel
theorem dX2_readMemberHead_60 : decode cX2_readMemberHead 60 = .ok (.getfield 12, 3) := by decide +kernel
theorem dX2_readMemberHead_63 : decode cX2_readMemberHead 63 = .ok (.invokevirtual 85, 3) := by decide +kernel
theorem dX2_readMemberHead_66 : decode cX2_readMemberHead 66 = .ok (.iconst 3, 1) := by decide +kernel
theorem dX2_readMemberHead_67 : decode cX2_readMemberHead 67 = .ok (.if_icmp .eq 15, 3) := by decide +kernel
theorem dX2_readMemberHead_70 : decode cX2_readMemberHead 70 = .ok (.aload_n 0, 1) := by decide +kernel
theorem dX2_readMemberHead_71 : decode cX2_readMemberHead 71 = .ok (.getfield 12, 3) := by decide +kernel
theorem dX2_readMemberHead_74 : decode cX2_readMemberHead 74 = .ok (.iconst 1, 1) := by decide +kernel
theorem dX2_readMemberHead_75 : decode cX2_readMemberHead 75 = .ok (.iload_n 1, 1) := by decide +kernel
theorem dX2_readMemberHead_76 : decode cX2_readMemberHead 76 = .ok (.invokevirtual 136, 3) := by decide +kernel
theorem dX2_readMemberHead_79 : decode cX2_readMemberHead 79 = .ok (.goto 82, 3) := by decide +kernel
theorem dX2_readMemberHead_82 : decode cX2_readMemberHead 82 = .ok (.iload 5, 2) := by decide +kernel
theorem dX2_readMemberHead_84 : decode cX2_readMemberHead 84 = .ok (.iconst (-1), 1) := by decide +kernel
theorem dX2_readMemberHead_85 : decode cX2_readMemberHead 85 = .ok (.if_icmp .eq 38, 3) := by decide +kernel
theorem dX2_readMemberHead_88 : decode cX2_readMemberHead 88 = .ok (.aload_n 0, 1) := by decide +kernel
theorem dX2_readMemberHead_89 : decode cX2_readMemberHead 89 = .ok (.getfield 51, 3) := by decide +kernel
theorem dX2_readMemberHead_92 : decode cX2_readMemberHead 92 = .ok (.getfield 68, 3) := by decide +kernel
theorem dX2_readMemberHead_95 : decode cX2_readMemberHead 95 = .ok (.iload 5, 2) := by decide +kernel
theorem dX2_readMemberHead_97 : decode cX2_readMemberHead 97 = .ok (.aaload, 1) := by decide +kernel
theorem dX2_readMemberHead_98 : decode cX2_readMemberHead 98 = .ok (.getfield 231, 3) := by decide +kernel
theorem dX2_readMemberHead_101 : decode cX2_readMemberHead 101 = .ok (.aload_n 0, 1) := by decide +kernel
theorem dX2_readMemberHead_102 : decode cX2_readMemberHead 102 = .ok (.getfield 21, 3) := by decide +kernel
theorem dX2_readMemberHead_105 : decode cX2_readMemberHead 105 = .ok (.getfield 154, 3) := by decide +kernel
theorem dX2_readMemberHead_108 : decode cX2_readMemberHead 108 = .ok (.if_icmp .ne 15, 3) := by decide +kernel
theorem dX2_readMemberHead_111 : decode cX2_readMemberHead 111 = .ok (.aload_n 0, 1) := by decide +kernel
theorem dX2_readMemberHead_112 : decode cX2_readMemberHead 112 = .ok (.getfield 12, 3) := by decide +kernel
theorem dX2_readMemberHead_115 : decode cX2_readMemberHead 115 = .ok (.iconst 2, 1) := by decide +kernel
theorem dX2_readMemberHead_116 : decode cX2_readMemberHead 116 = .ok (.iload_n 1, 1) := by decide +kernel
theorem dX2_readMemberHead_117 : decode cX2_readMemberHead 117 = .ok (.invokevirtual 136, 3) := by decide +kernel
theorem dX2_readMemberHead_120 : decode cX2_readMemberHead 120 = .ok (.goto 41, 3) := by decide +kernel
theorem dX2_readMemberHead_123 : decode cX2_readMemberHead 123 = .ok (.iload 5, 2) := by decide +kernel
theorem dX2_readMemberHead_125 : decode cX2_readMemberHead 125 = .ok (.iconst (-1), 1) := by decide +kernel
theorem dX2_readMemberHead_126 : decode cX2_readMemberHead 126 = .ok (.if_icmp .ne 27, 3) := by decide +kernel
theorem dX2_readMemberHead_129 : decode cX2_readMemberHead 129 = .ok (.aload_n 0, 1) := by decide +kernel
theorem dX2_readMemberHead_130 : decode cX2_readMemberHead 130 = .ok (.getfield 64, 3) := by decide +kernel
theorem dX2_readMemberHead_133 : decode cX2_readMemberHead 133 = .ok (.getfield 235, 3) := by decide +kernel
theorem dX2_readMemberHead_136 : decode cX2_readMemberHead 136 = .ok (.bipush 12, 2) := by decide +kernel
theorem dX2_readMemberHead_138 : decode cX2_readMemberHead 138 = .ok (.if_icmp .lt 15, 3) := by decide +kernel
theorem dX2_readMemberHead_141 : decode cX2_readMemberHead 141 = .ok (.aload_n 0, 1) := by decide +kernel
theorem dX2_readMemberHead_142 : decode cX2_readMemberHead 142 = .ok (.getfield 12, 3) := by decide +kernel
theorem dX2_readMemberHead_145 : decode cX2_readMemberHead 145 = .ok (.iconst 4, 1) := by decide +kernel
theorem dX2_readMemberHead_146 : decode cX2_readMemberHead 146 = .ok (.iload_n 1, 1) := by decide +kernel
theorem dX2_readMemberHead_147 : decode cX2_readMemberHead 147 = .ok (.invokevirtual 136, 3) := by decide +kernel
theorem dX2_readMemberHead_150 : decode cX2_readMemberHead 150 = .ok (.goto 11, 3) := by decide +kernel
theorem dX2_readMemberHead_153 : decode cX2_readMemberHead 153 = .ok (.aload_n 0, 1) := by decide +kernel
theorem dX2_readMemberHead_154 : decode cX2_readMemberHead 154 = .ok (.lload_n 2, 1) := by decide +kernel
theorem dX2_readMemberHead_155 : decode cX2_readMemberHead 155 = .ok (.iload_n 1, 1) := by decide +kernel
theorem dX2_readMemberHead_156 : decode cX2_readMemberHead 156 = .ok (.iload 4, 2) := by decide +kernel
theorem dX2_readMemberHead_158 : decode cX2_readMemberHead 158 = .ok (.invokevirtual 238, 3) := by decide +kernel
theorem dX2_readMemberHead_161 : decode cX2_readMemberHead 161 = .ok (.aload_n 0, 1) := by decide +kernel
theorem dX2_readMemberHead_162 : decode cX2_readMemberHead 162 = .ok (.getfield 12, 3) := by decide +kernel
theorem dX2_readMemberHead_165 : decode cX2_readMemberHead 165 = .ok (.invokevirtual 157, 3) := by decide +kernel
theorem dX2_readMemberHead_168 : decode cX2_readMemberHead 168 = .ok (.aload_n 0, 1) := by decide +kernel
theorem dX2_readMemberHead_169 : decode cX2_readMemberHead 169 = .ok (.getfield 12, 3) := by decide +kernel
theorem dX2_readMemberHead_172 : decode cX2_readMemberHead 172 = .ok (.bipush 40, 2) := by decide +kernel
theorem dX2_readMemberHead_174 : decode cX2_readMemberHead 174 = .ok (.invokevirtual 89, 3) := by decide +kernel
theorem dX2_readMemberHead_177 : decode cX2_readMemberHead 177 = .ok (.aload_n 0, 1) := by decide +kernel
theorem dX2_readMemberHead_178 : decode cX2_readMemberHead 178 = .ok (.getfield 12, 3) := by decide +kernel
theorem dX2_readMemberHead_181 : decode cX2_readMemberHead 181 = .ok (.invokevirtual 85, 3) := by decide +kernel
theorem dX2_readMemberHead_184 : decode cX2_readMemberHead 184 = .ok (.bipush 41, 2) := by decide +kernel
theorem dX2_readMemberHead_186 : decode cX2_readMemberHead 186 = .ok (.if_icmp .eq 7, 3) := by decide +kernel
theorem dX2_readMemberHead_189 : decode cX2_readMemberHead 189 = .ok (.iconst 1, 1) := by decide +kernel
theorem dX2_readMemberHead_190 : decode cX2_readMemberHead 190 = .ok (.goto 4, 3) := by decide +kernel
theorem dX2_readMemberHead_193 : decode cX2_readMemberHead 193 = .ok (.iconst 0, 1) := by decide +kernel
theorem dX2_readMemberHead_194 : decode cX2_readMemberHead 194 = .ok (.istore 6, 2) := by decide +kernel
theorem dX2_readMemberHead_196 : decode cX2_readMemberHead 196 = .ok (.iconst 0, 1) := by decide +kernel
theorem dX2_readMemberHead_197 : decode cX2_readMemberHead 197 = .ok (.istore 7, 2) := by decide +kernel
theorem dX2_readMemberHead_199 : decode cX2_readMemberHead 199 = .ok (.iload 7, 2) := by decide +kernel
theorem dX2_readMemberHead_201 : decode cX2_readMemberHead 201 = .ok (.iconst 3, 1) := by decide +kernel
theorem dX2_readMemberHead_202 : decode cX2_readMemberHead 202 = .ok (.if_icmp .gt 49, 3) := by decide +kernel
theorem dX2_readMemberHead_205 : decode cX2_readMemberHead 205 = .ok (.iload 6, 2) := by decide +kernel
theorem dX2_readMemberHead_207 : decode cX2_readMemberHead 207 = .ok (.ifCond .eq 44, 3) := by decide +kernel
theorem dX2_readMemberHead_210 : decode cX2_readMemberHead 210 = .ok (.aload_n 0, 1) := by decide +kernel
theorem dX2_readMemberHead_211 : decode cX2_readMemberHead 211 = .ok (.invokevirtual 241, 3) := by decide +kernel
theorem dX2_readMemberHead_214 : decode cX2_readMemberHead 214 = .ok (.aload_n 0, 1) := by decide +kernel
theorem dX2_readMemberHead_215 : decode cX2_readMemberHead 215 = .ok (.getfield 12, 3) := by decide +kernel
theorem dX2_readMemberHead_218 : decode cX2_readMemberHead 218 = .ok (.invokevirtual 85, 3) := by decide +kernel
theorem dX2_readMemberHead_221 : decode cX2_readMemberHead 221 = .ok (.bipush 44, 2) := by decide +kernel
theorem dX2_readMemberHead_223 : decode cX2_readMemberHead 223 = .ok (.if_icmp .ne 7, 3) := by decide +kernel
theorem dX2_readMemberHead_226 : decode cX2_readMemberHead 226 = .ok (.iconst 1, 1) := by decide +kernel
theorem dX2_readMemberHead_227 : decode cX2_readMemberHead 227 = .ok (.goto 4, 3) := by decide +kernel
theorem dX2_readMemberHead_230 : decode cX2_readMemberHead 230 = .ok (.iconst 0, 1) := by decide +kernel
theorem dX2_readMemberHead_231 : decode cX2_readMemberHead 231 = .ok (.istore 6, 2) := by decide +kernel
theorem dX2_readMemberHead_233 : decode cX2_readMemberHead 233 = .ok (.iload 6, 2) := by decide +kernel
theorem dX2_readMemberHead_235 : decode cX2_readMemberHead 235 = .ok (.ifCond .eq 10, 3) := by decide +kernel
theorem dX2_readMemberHead_238 : decode cX2_readMemberHead 238 = .ok (.aload_n 0, 1) := by decide +kernel
theorem dX2_readMemberHead_239 : decode cX2_readMemberHead 239 = .ok (.getfield 12, 3) := by decide +kernel
theorem dX2_readMemberHead_242 : decode cX2_readMemberHead 242 = .ok (.invokevirtual 157, 3) := by decide +kernel
theorem dX2_readMemberHead_245 : decode cX2_readMemberHead 245 = .ok (.iinc 7 1, 3) := by decide +kernel
theorem dX2_readMemberHead_248 : decode cX2_readMemberHead 248 = .ok (.goto (-49), 3) := by decide +kernel
theorem dX2_readMemberHead_251 : decode cX2_readMemberHead 251 = .ok (.aload_n 0, 1) := by decide +kernel
theorem dX2_readMemberHead_252 : decode cX2_readMemberHead 252 = .ok (.getfield 12, 3) := by decide +kernel
theorem dX2_readMemberHead_255 : decode cX2_readMemberHead 255 = .ok (.invokevirtual 129, 3) := by decide +kernel
theorem dX2_readMemberHead_258 : decode cX2_readMemberHead 258 = .ok (.istore 7, 2) := by decide +kernel
theorem dX2_readMemberHead_260 : decode cX2_readMemberHead 260 = .ok (.aload_n 0, 1) := by decide +kernel
theorem dX2_readMemberHead_261 : decode cX2_readMemberHead 261 = .ok (.getfield 12, 3) := by decide +kernel
theorem dX2_readMemberHead_264 : decode cX2_readMemberHead 264 = .ok (.bipush 41, 2) := by decide +kernel
theorem dX2_readMemberHead_266 : decode cX2_readMemberHead 266 = .ok (.invokevirtual 89, 3) := by decide +kernel
theorem dX2_readMemberHead_269 : decode cX2_readMemberHead 269 = .ok (.iload 5, 2) := by decide +kernel
theorem dX2_readMemberHead_271 : decode cX2_readMemberHead 271 = .ok (.iconst (-1), 1) := by decide +kernel
theorem dX2_readMemberHead_272 : decode cX2_readMemberHead 272 = .ok (.if_icmp .eq 36, 3) := by decide +kernel
theorem dX2_readMemberHead_275 : decode cX2_readMemberHead 275 = .ok (.aload_n 0, 1) := by decide +kernel
theorem dX2_readMemberHead_276 : decode cX2_readMemberHead 276 = .ok (.getfield 51, 3) := by decide +kernel
theorem dX2_readMemberHead_279 : decode cX2_readMemberHead 279 = .ok (.getfield 68, 3) := by decide +kernel
theorem dX2_readMemberHead_282 : decode cX2_readMemberHead 282 = .ok (.iload 5, 2) := by decide +kernel
theorem dX2_readMemberHead_284 : decode cX2_readMemberHead 284 = .ok (.aaload, 1) := by decide +kernel
theorem dX2_readMemberHead_285 : decode cX2_readMemberHead 285 = .ok (.getfield 244, 3) := by decide +kernel
theorem dX2_readMemberHead_288 : decode cX2_readMemberHead 288 = .ok (.aload_n 0, 1) := by decide +kernel
theorem dX2_readMemberHead_289 : decode cX2_readMemberHead 289 = .ok (.getfield 72, 3) := by decide +kernel
theorem dX2_readMemberHead_292 : decode cX2_readMemberHead 292 = .ok (.getfield 244, 3) := by decide +kernel
theorem dX2_readMemberHead_295 : decode cX2_readMemberHead 295 = .ok (.if_icmp .eq 13, 3) := by decide +kernel
theorem dX2_readMemberHead_298 : decode cX2_readMemberHead 298 = .ok (.aload_n 0, 1) := by decide +kernel
theorem dX2_readMemberHead_299 : decode cX2_readMemberHead 299 = .ok (.getfield 12, 3) := by decide +kernel
theorem dX2_readMemberHead_302 : decode cX2_readMemberHead 302 = .ok (.iconst 5, 1) := by decide +kernel
theorem dX2_readMemberHead_303 : decode cX2_readMemberHead 303 = .ok (.iload 7, 2) := by decide +kernel
theorem dX2_readMemberHead_305 : decode cX2_readMemberHead 305 = .ok (.invokevirtual 136, 3) := by decide +kernel
theorem dX2_readMemberHead_308 : decode cX2_readMemberHead 308 = .ok (.return_, 1) := by decide +kernel
theorem dX2_beginTelling_0 : decode cX2_beginTelling 0 = .ok (.aload_n 0, 1) := by decide +kernel
theorem dX2_beginTelling_1 : decode cX2_beginTelling 1 = .ok (.getfield 51, 3) := by decide +kernel
theorem dX2_beginTelling_4 : decode cX2_beginTelling 4 = .ok (.getfield 247, 3) := by decide +kernel
theorem dX2_beginTelling_7 : decode cX2_beginTelling 7 = .ok (.bipush 95, 2) := by decide +kernel
theorem dX2_beginTelling_9 : decode cX2_beginTelling 9 = .ok (.invokestatic 250, 3) := by decide +kernel
theorem dX2_beginTelling_12 : decode cX2_beginTelling 12 = .ok (.istore 5, 2) := by decide +kernel
theorem dX2_beginTelling_14 : decode cX2_beginTelling 14 = .ok (.aload_n 0, 1) := by decide +kernel
theorem dX2_beginTelling_15 : decode cX2_beginTelling 15 = .ok (.getfield 51, 3) := by decide +kernel
theorem dX2_beginTelling_18 : decode cX2_beginTelling 18 = .ok (.iload 5, 2) := by decide +kernel
theorem dX2_beginTelling_20 : decode cX2_beginTelling 20 = .ok (.iconst 1, 1) := by decide +kernel
theorem dX2_beginTelling_21 : decode cX2_beginTelling 21 = .ok (.iadd, 1) := by decide +kernel
theorem dX2_beginTelling_22 : decode cX2_beginTelling 22 = .ok (.putfield 247, 3) := by decide +kernel
theorem dX2_beginTelling_25 : decode cX2_beginTelling 25 = .ok (.iload 4, 2) := by decide +kernel
theorem dX2_beginTelling_27 : decode cX2_beginTelling 27 = .ok (.iconst (-1), 1) := by decide +kernel
theorem dX2_beginTelling_28 : decode cX2_beginTelling 28 = .ok (.if_icmp .ne 13, 3) := by decide +kernel
theorem dX2_beginTelling_31 : decode cX2_beginTelling 31 = .ok (.aload_n 0, 1) := by decide +kernel
theorem dX2_beginTelling_32 : decode cX2_beginTelling 32 = .ok (.getfield 64, 3) := by decide +kernel
theorem dX2_beginTelling_35 : decode cX2_beginTelling 35 = .ok (.getfield 235, 3) := by decide +kernel
theorem dX2_beginTelling_38 : decode cX2_beginTelling 38 = .ok (.goto 5, 3) := by decide +kernel
theorem dX2_beginTelling_41 : decode cX2_beginTelling 41 = .ok (.iload 4, 2) := by decide +kernel
theorem dX2_beginTelling_43 : decode cX2_beginTelling 43 = .ok (.istore 6, 2) := by decide +kernel
theorem dX2_beginTelling_45 : decode cX2_beginTelling 45 = .ok (.aload_n 0, 1) := by decide +kernel
theorem dX2_beginTelling_46 : decode cX2_beginTelling 46 = .ok (.aload_n 0, 1) := by decide +kernel
theorem dX2_beginTelling_47 : decode cX2_beginTelling 47 = .ok (.getfield 51, 3) := by decide +kernel
theorem dX2_beginTelling_50 : decode cX2_beginTelling 50 = .ok (.getfield 68, 3) := by decide +kernel
theorem dX2_beginTelling_53 : decode cX2_beginTelling 53 = .ok (.iload 5, 2) := by decide +kernel
theorem dX2_beginTelling_55 : decode cX2_beginTelling 55 = .ok (.aaload, 1) := by decide +kernel
theorem dX2_beginTelling_56 : decode cX2_beginTelling 56 = .ok (.putfield 72, 3) := by decide +kernel
theorem dX2_beginTelling_59 : decode cX2_beginTelling 59 = .ok (.aload_n 0, 1) := by decide +kernel
theorem dX2_beginTelling_60 : decode cX2_beginTelling 60 = .ok (.getfield 72, 3) := by decide +kernel
theorem dX2_beginTelling_63 : decode cX2_beginTelling 63 = .ok (.lload_n 1, 1) := by decide +kernel
theorem dX2_beginTelling_64 : decode cX2_beginTelling 64 = .ok (.putfield 253, 3) := by decide +kernel
theorem dX2_beginTelling_67 : decode cX2_beginTelling 67 = .ok (.aload_n 0, 1) := by decide +kernel
theorem dX2_beginTelling_68 : decode cX2_beginTelling 68 = .ok (.getfield 72, 3) := by decide +kernel
theorem dX2_beginTelling_71 : decode cX2_beginTelling 71 = .ok (.iload_n 3, 1) := by decide +kernel
theorem dX2_beginTelling_72 : decode cX2_beginTelling 72 = .ok (.putfield 257, 3) := by decide +kernel
theorem dX2_beginTelling_75 : decode cX2_beginTelling 75 = .ok (.aload_n 0, 1) := by decide +kernel
theorem dX2_beginTelling_76 : decode cX2_beginTelling 76 = .ok (.getfield 72, 3) := by decide +kernel
theorem dX2_beginTelling_79 : decode cX2_beginTelling 79 = .ok (.aload_n 0, 1) := by decide +kernel
theorem dX2_beginTelling_80 : decode cX2_beginTelling 80 = .ok (.getfield 21, 3) := by decide +kernel
theorem dX2_beginTelling_83 : decode cX2_beginTelling 83 = .ok (.getfield 154, 3) := by decide +kernel
theorem dX2_beginTelling_86 : decode cX2_beginTelling 86 = .ok (.putfield 231, 3) := by decide +kernel
theorem dX2_beginTelling_89 : decode cX2_beginTelling 89 = .ok (.aload_n 0, 1) := by decide +kernel
theorem dX2_beginTelling_90 : decode cX2_beginTelling 90 = .ok (.getfield 72, 3) := by decide +kernel
theorem dX2_beginTelling_93 : decode cX2_beginTelling 93 = .ok (.iconst 0, 1) := by decide +kernel
theorem dX2_beginTelling_94 : decode cX2_beginTelling 94 = .ok (.putfield 244, 3) := by decide +kernel
theorem dX2_beginTelling_97 : decode cX2_beginTelling 97 = .ok (.aload_n 0, 1) := by decide +kernel
theorem dX2_beginTelling_98 : decode cX2_beginTelling 98 = .ok (.getfield 72, 3) := by decide +kernel
theorem dX2_beginTelling_101 : decode cX2_beginTelling 101 = .ok (.iconst 0, 1) := by decide +kernel
theorem dX2_beginTelling_102 : decode cX2_beginTelling 102 = .ok (.putfield 259, 3) := by decide +kernel
theorem dX2_beginTelling_105 : decode cX2_beginTelling 105 = .ok (.aload_n 0, 1) := by decide +kernel
theorem dX2_beginTelling_106 : decode cX2_beginTelling 106 = .ok (.getfield 72, 3) := by decide +kernel
theorem dX2_beginTelling_109 : decode cX2_beginTelling 109 = .ok (.iload 4, 2) := by decide +kernel
theorem dX2_beginTelling_111 : decode cX2_beginTelling 111 = .ok (.iconst (-1), 1) := by decide +kernel
theorem dX2_beginTelling_112 : decode cX2_beginTelling 112 = .ok (.if_icmp .ne 7, 3) := by decide +kernel
theorem dX2_beginTelling_115 : decode cX2_beginTelling 115 = .ok (.iconst (-1), 1) := by decide +kernel
theorem dX2_beginTelling_116 : decode cX2_beginTelling 116 = .ok (.goto 13, 3) := by decide +kernel
theorem dX2_beginTelling_119 : decode cX2_beginTelling 119 = .ok (.aload_n 0, 1) := by decide +kernel
theorem dX2_beginTelling_120 : decode cX2_beginTelling 120 = .ok (.getfield 64, 3) := by decide +kernel
theorem dX2_beginTelling_123 : decode cX2_beginTelling 123 = .ok (.getfield 228, 3) := by decide +kernel
theorem dX2_beginTelling_126 : decode cX2_beginTelling 126 = .ok (.iload 6, 2) := by decide +kernel
theorem dX2_beginTelling_128 : decode cX2_beginTelling 128 = .ok (.iaload, 1) := by decide +kernel
theorem dX2_beginTelling_129 : decode cX2_beginTelling 129 = .ok (.putfield 262, 3) := by decide +kernel
theorem dX2_beginTelling_132 : decode cX2_beginTelling 132 = .ok (.aload_n 0, 1) := by decide +kernel
theorem dX2_beginTelling_133 : decode cX2_beginTelling 133 = .ok (.getfield 72, 3) := by decide +kernel
theorem dX2_beginTelling_136 : decode cX2_beginTelling 136 = .ok (.iconst 0, 1) := by decide +kernel
theorem dX2_beginTelling_137 : decode cX2_beginTelling 137 = .ok (.putfield 265, 3) := by decide +kernel
theorem dX2_beginTelling_140 : decode cX2_beginTelling 140 = .ok (.aload_n 0, 1) := by decide +kernel
theorem dX2_beginTelling_141 : decode cX2_beginTelling 141 = .ok (.getfield 72, 3) := by decide +kernel
theorem dX2_beginTelling_144 : decode cX2_beginTelling 144 = .ok (.aload_n 0, 1) := by decide +kernel
theorem dX2_beginTelling_145 : decode cX2_beginTelling 145 = .ok (.getfield 51, 3) := by decide +kernel
theorem dX2_beginTelling_148 : decode cX2_beginTelling 148 = .ok (.getfield 268, 3) := by decide +kernel
theorem dX2_beginTelling_151 : decode cX2_beginTelling 151 = .ok (.putfield 271, 3) := by decide +kernel
theorem dX2_beginTelling_154 : decode cX2_beginTelling 154 = .ok (.aload_n 0, 1) := by decide +kernel
theorem dX2_beginTelling_155 : decode cX2_beginTelling 155 = .ok (.getfield 72, 3) := by decide +kernel
theorem dX2_beginTelling_158 : decode cX2_beginTelling 158 = .ok (.iconst 0, 1) := by decide +kernel
theorem dX2_beginTelling_159 : decode cX2_beginTelling 159 = .ok (.putfield 274, 3) := by decide +kernel
theorem dX2_beginTelling_162 : decode cX2_beginTelling 162 = .ok (.aload_n 0, 1) := by decide +kernel
theorem dX2_beginTelling_163 : decode cX2_beginTelling 163 = .ok (.getfield 72, 3) := by decide +kernel
theorem dX2_beginTelling_166 : decode cX2_beginTelling 166 = .ok (.aload_n 0, 1) := by decide +kernel
theorem dX2_beginTelling_167 : decode cX2_beginTelling 167 = .ok (.getfield 51, 3) := by decide +kernel
theorem dX2_beginTelling_170 : decode cX2_beginTelling 170 = .ok (.getfield 148, 3) := by decide +kernel
theorem dX2_beginTelling_173 : decode cX2_beginTelling 173 = .ok (.putfield 275, 3) := by decide +kernel
theorem dX2_beginTelling_176 : decode cX2_beginTelling 176 = .ok (.aload_n 0, 1) := by decide +kernel
theorem dX2_beginTelling_177 : decode cX2_beginTelling 177 = .ok (.getfield 72, 3) := by decide +kernel
theorem dX2_beginTelling_180 : decode cX2_beginTelling 180 = .ok (.iconst 0, 1) := by decide +kernel
theorem dX2_beginTelling_181 : decode cX2_beginTelling 181 = .ok (.putfield 278, 3) := by decide +kernel
theorem dX2_beginTelling_184 : decode cX2_beginTelling 184 = .ok (.aload_n 0, 1) := by decide +kernel
theorem dX2_beginTelling_185 : decode cX2_beginTelling 185 = .ok (.getfield 64, 3) := by decide +kernel
theorem dX2_beginTelling_188 : decode cX2_beginTelling 188 = .ok (.getfield 228, 3) := by decide +kernel
theorem dX2_beginTelling_191 : decode cX2_beginTelling 191 = .ok (.iload 6, 2) := by decide +kernel
theorem dX2_beginTelling_193 : decode cX2_beginTelling 193 = .ok (.iload 5, 2) := by decide +kernel
theorem dX2_beginTelling_195 : decode cX2_beginTelling 195 = .ok (.iastore, 1) := by decide +kernel
theorem dX2_beginTelling_196 : decode cX2_beginTelling 196 = .ok (.aload_n 0, 1) := by decide +kernel
theorem dX2_beginTelling_197 : decode cX2_beginTelling 197 = .ok (.getfield 64, 3) := by decide +kernel
theorem dX2_beginTelling_200 : decode cX2_beginTelling 200 = .ok (.aload_n 0, 1) := by decide +kernel
theorem dX2_beginTelling_201 : decode cX2_beginTelling 201 = .ok (.getfield 64, 3) := by decide +kernel
theorem dX2_beginTelling_204 : decode cX2_beginTelling 204 = .ok (.getfield 235, 3) := by decide +kernel
theorem dX2_beginTelling_207 : decode cX2_beginTelling 207 = .ok (.iload 6, 2) := by decide +kernel
theorem dX2_beginTelling_209 : decode cX2_beginTelling 209 = .ok (.iconst 1, 1) := by decide +kernel
theorem dX2_beginTelling_210 : decode cX2_beginTelling 210 = .ok (.iadd, 1) := by decide +kernel
theorem dX2_beginTelling_211 : decode cX2_beginTelling 211 = .ok (.invokestatic 279, 3) := by decide +kernel
theorem dX2_beginTelling_214 : decode cX2_beginTelling 214 = .ok (.putfield 235, 3) := by decide +kernel
theorem dX2_beginTelling_217 : decode cX2_beginTelling 217 = .ok (.aload_n 0, 1) := by decide +kernel
theorem dX2_beginTelling_218 : decode cX2_beginTelling 218 = .ok (.iconst 0, 1) := by decide +kernel
theorem dX2_beginTelling_219 : decode cX2_beginTelling 219 = .ok (.putfield 282, 3) := by decide +kernel
theorem dX2_beginTelling_222 : decode cX2_beginTelling 222 = .ok (.return_, 1) := by decide +kernel
theorem dX2_readParam_0 : decode cX2_readParam 0 = .ok (.aload_n 0, 1) := by decide +kernel
theorem dX2_readParam_1 : decode cX2_readParam 1 = .ok (.getfield 12, 3) := by decide +kernel
theorem dX2_readParam_4 : decode cX2_readParam 4 = .ok (.invokevirtual 129, 3) := by decide +kernel
theorem dX2_readParam_7 : decode cX2_readParam 7 = .ok (.istore_n 1, 1) := by decide +kernel
theorem dX2_readParam_8 : decode cX2_readParam 8 = .ok (.aload_n 0, 1) := by decide +kernel
theorem dX2_readParam_9 : decode cX2_readParam 9 = .ok (.getfield 12, 3) := by decide +kernel
theorem dX2_readParam_12 : decode cX2_readParam 12 = .ok (.invokevirtual 132, 3) := by decide +kernel
theorem dX2_readParam_15 : decode cX2_readParam 15 = .ok (.lstore_n 2, 1) := by decide +kernel
theorem dX2_readParam_16 : decode cX2_readParam 16 = .ok (.aload_n 0, 1) := by decide +kernel
theorem dX2_readParam_17 : decode cX2_readParam 17 = .ok (.getfield 72, 3) := by decide +kernel
theorem dX2_readParam_20 : decode cX2_readParam 20 = .ok (.getfield 244, 3) := by decide +kernel
theorem dX2_readParam_23 : decode cX2_readParam 23 = .ok (.istore 4, 2) := by decide +kernel
theorem dX2_readParam_25 : decode cX2_readParam 25 = .ok (.aload_n 0, 1) := by decide +kernel
theorem dX2_readParam_26 : decode cX2_readParam 26 = .ok (.getfield 12, 3) := by decide +kernel
theorem dX2_readParam_29 : decode cX2_readParam 29 = .ok (.invokevirtual 85, 3) := by decide +kernel
theorem dX2_readParam_32 : decode cX2_readParam 32 = .ok (.iconst 3, 1) := by decide +kernel
theorem dX2_readParam_33 : decode cX2_readParam 33 = .ok (.if_icmp .eq 15, 3) := by decide +kernel
theorem dX2_readParam_36 : decode cX2_readParam 36 = .ok (.aload_n 0, 1) := by decide +kernel
theorem dX2_readParam_37 : decode cX2_readParam 37 = .ok (.getfield 12, 3) := by decide +kernel
theorem dX2_readParam_40 : decode cX2_readParam 40 = .ok (.iconst 1, 1) := by decide +kernel
theorem dX2_readParam_41 : decode cX2_readParam 41 = .ok (.iload_n 1, 1) := by decide +kernel
theorem dX2_readParam_42 : decode cX2_readParam 42 = .ok (.invokevirtual 136, 3) := by decide +kernel
theorem dX2_readParam_45 : decode cX2_readParam 45 = .ok (.goto 42, 3) := by decide +kernel
theorem dX2_readParam_48 : decode cX2_readParam 48 = .ok (.aload_n 0, 1) := by decide +kernel
theorem dX2_readParam_49 : decode cX2_readParam 49 = .ok (.getfield 21, 3) := by decide +kernel
theorem dX2_readParam_52 : decode cX2_readParam 52 = .ok (.lload_n 2, 1) := by decide +kernel
theorem dX2_readParam_53 : decode cX2_readParam 53 = .ok (.invokevirtual 285, 3) := by decide +kernel
theorem dX2_readParam_56 : decode cX2_readParam 56 = .ok (.iconst (-1), 1) := by decide +kernel
theorem dX2_readParam_57 : decode cX2_readParam 57 = .ok (.if_icmp .eq 15, 3) := by decide +kernel
theorem dX2_readParam_60 : decode cX2_readParam 60 = .ok (.aload_n 0, 1) := by decide +kernel
theorem dX2_readParam_61 : decode cX2_readParam 61 = .ok (.getfield 12, 3) := by decide +kernel
theorem dX2_readParam_64 : decode cX2_readParam 64 = .ok (.iconst 2, 1) := by decide +kernel
theorem dX2_readParam_65 : decode cX2_readParam 65 = .ok (.iload_n 1, 1) := by decide +kernel
theorem dX2_readParam_66 : decode cX2_readParam 66 = .ok (.invokevirtual 136, 3) := by decide +kernel
theorem dX2_readParam_69 : decode cX2_readParam 69 = .ok (.goto 18, 3) := by decide +kernel
theorem dX2_readParam_72 : decode cX2_readParam 72 = .ok (.iload 4, 2) := by decide +kernel
theorem dX2_readParam_74 : decode cX2_readParam 74 = .ok (.iconst 3, 1) := by decide +kernel
theorem dX2_readParam_75 : decode cX2_readParam 75 = .ok (.if_icmp .lt 12, 3) := by decide +kernel
theorem dX2_readParam_78 : decode cX2_readParam 78 = .ok (.aload_n 0, 1) := by decide +kernel
theorem dX2_readParam_79 : decode cX2_readParam 79 = .ok (.getfield 12, 3) := by decide +kernel
theorem dX2_readParam_82 : decode cX2_readParam 82 = .ok (.iconst 4, 1) := by decide +kernel
theorem dX2_readParam_83 : decode cX2_readParam 83 = .ok (.iload_n 1, 1) := by decide +kernel
theorem dX2_readParam_84 : decode cX2_readParam 84 = .ok (.invokevirtual 136, 3) := by decide +kernel
theorem dX2_readParam_87 : decode cX2_readParam 87 = .ok (.aload_n 0, 1) := by decide +kernel
theorem dX2_readParam_88 : decode cX2_readParam 88 = .ok (.getfield 12, 3) := by decide +kernel
theorem dX2_readParam_91 : decode cX2_readParam 91 = .ok (.invokevirtual 157, 3) := by decide +kernel
theorem dX2_readParam_94 : decode cX2_readParam 94 = .ok (.aload_n 0, 1) := by decide +kernel
theorem dX2_readParam_95 : decode cX2_readParam 95 = .ok (.getfield 12, 3) := by decide +kernel
theorem dX2_readParam_98 : decode cX2_readParam 98 = .ok (.bipush 15, 2) := by decide +kernel
theorem dX2_readParam_100 : decode cX2_readParam 100 = .ok (.invokevirtual 89, 3) := by decide +kernel
theorem dX2_readParam_103 : decode cX2_readParam 103 = .ok (.aload_n 0, 1) := by decide +kernel
theorem dX2_readParam_104 : decode cX2_readParam 104 = .ok (.ldc 181, 2) := by decide +kernel
theorem dX2_readParam_106 : decode cX2_readParam 106 = .ok (.invokevirtual 182, 3) := by decide +kernel
theorem dX2_readParam_109 : decode cX2_readParam 109 = .ok (.istore 5, 2) := by decide +kernel
theorem dX2_readParam_111 : decode cX2_readParam 111 = .ok (.aload_n 0, 1) := by decide +kernel
theorem dX2_readParam_112 : decode cX2_readParam 112 = .ok (.getfield 12, 3) := by decide +kernel
theorem dX2_readParam_115 : decode cX2_readParam 115 = .ok (.sipush 200, 3) := by decide +kernel
theorem dX2_readParam_118 : decode cX2_readParam 118 = .ok (.invokevirtual 89, 3) := by decide +kernel
theorem dX2_readParam_121 : decode cX2_readParam 121 = .ok (.aload_n 0, 1) := by decide +kernel
theorem dX2_readParam_122 : decode cX2_readParam 122 = .ok (.iload 5, 2) := by decide +kernel
theorem dX2_readParam_124 : decode cX2_readParam 124 = .ok (.invokevirtual 182, 3) := by decide +kernel
theorem dX2_readParam_127 : decode cX2_readParam 127 = .ok (.istore 6, 2) := by decide +kernel
theorem dX2_readParam_129 : decode cX2_readParam 129 = .ok (.aload_n 0, 1) := by decide +kernel
theorem dX2_readParam_130 : decode cX2_readParam 130 = .ok (.getfield 12, 3) := by decide +kernel
theorem dX2_readParam_133 : decode cX2_readParam 133 = .ok (.getfield 93, 3) := by decide +kernel
theorem dX2_readParam_136 : decode cX2_readParam 136 = .ok (.ifCond .ne 66, 3) := by decide +kernel
theorem dX2_readParam_139 : decode cX2_readParam 139 = .ok (.iload 4, 2) := by decide +kernel
theorem dX2_readParam_141 : decode cX2_readParam 141 = .ok (.iconst 3, 1) := by decide +kernel
theorem dX2_readParam_142 : decode cX2_readParam 142 = .ok (.if_icmp .ge 60, 3) := by decide +kernel
theorem dX2_readParam_145 : decode cX2_readParam 145 = .ok (.aload_n 0, 1) := by decide +kernel
theorem dX2_readParam_146 : decode cX2_readParam 146 = .ok (.getfield 21, 3) := by decide +kernel
theorem dX2_readParam_149 : decode cX2_readParam 149 = .ok (.getfield 288, 3) := by decide +kernel
theorem dX2_readParam_152 : decode cX2_readParam 152 = .ok (.iload 4, 2) := by decide +kernel
theorem dX2_readParam_154 : decode cX2_readParam 154 = .ok (.lload_n 2, 1) := by decide +kernel
theorem dX2_readParam_155 : decode cX2_readParam 155 = .ok (.lastore, 1) := by decide +kernel
theorem dX2_readParam_156 : decode cX2_readParam 156 = .ok (.aload_n 0, 1) := by decide +kernel
theorem dX2_readParam_157 : decode cX2_readParam 157 = .ok (.getfield 21, 3) := by decide +kernel
theorem dX2_readParam_160 : decode cX2_readParam 160 = .ok (.iload 4, 2) := by decide +kernel
theorem dX2_readParam_162 : decode cX2_readParam 162 = .ok (.iconst 1, 1) := by decide +kernel
theorem dX2_readParam_163 : decode cX2_readParam 163 = .ok (.iadd, 1) := by decide +kernel
theorem dX2_readParam_164 : decode cX2_readParam 164 = .ok (.putfield 291, 3) := by decide +kernel
theorem dX2_readParam_167 : decode cX2_readParam 167 = .ok (.aload_n 0, 1) := by decide +kernel
theorem dX2_readParam_168 : decode cX2_readParam 168 = .ok (.getfield 72, 3) := by decide +kernel
theorem dX2_readParam_171 : decode cX2_readParam 171 = .ok (.getfield 294, 3) := by decide +kernel
theorem dX2_readParam_174 : decode cX2_readParam 174 = .ok (.iload 4, 2) := by decide +kernel
theorem dX2_readParam_176 : decode cX2_readParam 176 = .ok (.iload 5, 2) := by decide +kernel
theorem dX2_readParam_178 : decode cX2_readParam 178 = .ok (.iastore, 1) := by decide +kernel
theorem dX2_readParam_179 : decode cX2_readParam 179 = .ok (.aload_n 0, 1) := by decide +kernel
theorem dX2_readParam_180 : decode cX2_readParam 180 = .ok (.getfield 72, 3) := by decide +kernel
theorem dX2_readParam_183 : decode cX2_readParam 183 = .ok (.getfield 297, 3) := by decide +kernel
theorem dX2_readParam_186 : decode cX2_readParam 186 = .ok (.iload 4, 2) := by decide +kernel
theorem dX2_readParam_188 : decode cX2_readParam 188 = .ok (.iload 6, 2) := by decide +kernel
theorem dX2_readParam_190 : decode cX2_readParam 190 = .ok (.iastore, 1) := by decide +kernel
theorem dX2_readParam_191 : decode cX2_readParam 191 = .ok (.aload_n 0, 1) := by decide +kernel
theorem dX2_readParam_192 : decode cX2_readParam 192 = .ok (.getfield 72, 3) := by decide +kernel
theorem dX2_readParam_195 : decode cX2_readParam 195 = .ok (.iload 4, 2) := by decide +kernel
theorem dX2_readParam_197 : decode cX2_readParam 197 = .ok (.iconst 1, 1) := by decide +kernel
theorem dX2_readParam_198 : decode cX2_readParam 198 = .ok (.iadd, 1) := by decide +kernel
theorem dX2_readParam_199 : decode cX2_readParam 199 = .ok (.putfield 244, 3) := by decide +kernel
theorem dX2_readParam_202 : decode cX2_readParam 202 = .ok (.return_, 1) := by decide +kernel
theorem dX2_atMark_0 : decode cX2_atMark 0 = .ok (.aload_n 0, 1) := by decide +kernel
theorem dX2_atMark_1 : decode cX2_atMark 1 = .ok (.getfield 12, 3) := by decide +kernel
theorem dX2_atMark_4 : decode cX2_atMark 4 = .ok (.invokevirtual 85, 3) := by decide +kernel
theorem dX2_atMark_7 : decode cX2_atMark 7 = .ok (.istore_n 1, 1) := by decide +kernel
theorem dX2_atMark_8 : decode cX2_atMark 8 = .ok (.iload_n 1, 1) := by decide +kernel
theorem dX2_atMark_9 : decode cX2_atMark 9 = .ok (.bipush 16, 2) := by decide +kernel
theorem dX2_atMark_11 : decode cX2_atMark 11 = .ok (.if_icmp .eq 27, 3) := by decide +kernel
theorem dX2_atMark_14 : decode cX2_atMark 14 = .ok (.iload_n 1, 1) := by decide +kernel
theorem dX2_atMark_15 : decode cX2_atMark 15 = .ok (.bipush 17, 2) := by decide +kernel
theorem dX2_atMark_17 : decode cX2_atMark 17 = .ok (.if_icmp .eq 21, 3) := by decide +kernel
theorem dX2_atMark_20 : decode cX2_atMark 20 = .ok (.iload_n 1, 1) := by decide +kernel
theorem dX2_atMark_21 : decode cX2_atMark 21 = .ok (.bipush 18, 2) := by decide +kernel
theorem dX2_atMark_23 : decode cX2_atMark 23 = .ok (.if_icmp .eq 15, 3) := by decide +kernel
theorem dX2_atMark_26 : decode cX2_atMark 26 = .ok (.iload_n 1, 1) := by decide +kernel
theorem dX2_atMark_27 : decode cX2_atMark 27 = .ok (.bipush 20, 2) := by decide +kernel
theorem dX2_atMark_29 : decode cX2_atMark 29 = .ok (.if_icmp .eq 9, 3) := by decide +kernel
theorem dX2_atMark_32 : decode cX2_atMark 32 = .ok (.iload_n 1, 1) := by decide +kernel
theorem dX2_atMark_33 : decode cX2_atMark 33 = .ok (.bipush 21, 2) := by decide +kernel
theorem dX2_atMark_35 : decode cX2_atMark 35 = .ok (.if_icmp .ne 7, 3) := by decide +kernel
theorem dX2_atMark_38 : decode cX2_atMark 38 = .ok (.iconst 1, 1) := by decide +kernel
theorem dX2_atMark_39 : decode cX2_atMark 39 = .ok (.goto 4, 3) := by decide +kernel
theorem dX2_atMark_42 : decode cX2_atMark 42 = .ok (.iconst 0, 1) := by decide +kernel
theorem dX2_atMark_43 : decode cX2_atMark 43 = .ok (.ireturn, 1) := by decide +kernel
theorem dX2_readMark_0 : decode cX2_readMark 0 = .ok (.aload_n 0, 1) := by decide +kernel
theorem dX2_readMark_1 : decode cX2_readMark 1 = .ok (.getfield 12, 3) := by decide +kernel
theorem dX2_readMark_4 : decode cX2_readMark 4 = .ok (.invokevirtual 85, 3) := by decide +kernel
theorem dX2_readMark_7 : decode cX2_readMark 7 = .ok (.istore_n 1, 1) := by decide +kernel
theorem dX2_readMark_8 : decode cX2_readMark 8 = .ok (.aload_n 0, 1) := by decide +kernel
theorem dX2_readMark_9 : decode cX2_readMark 9 = .ok (.getfield 12, 3) := by decide +kernel
theorem dX2_readMark_12 : decode cX2_readMark 12 = .ok (.invokevirtual 129, 3) := by decide +kernel
theorem dX2_readMark_15 : decode cX2_readMark 15 = .ok (.istore_n 2, 1) := by decide +kernel
theorem dX2_readMark_16 : decode cX2_readMark 16 = .ok (.aload_n 0, 1) := by decide +kernel
theorem dX2_readMark_17 : decode cX2_readMark 17 = .ok (.getfield 72, 3) := by decide +kernel
theorem dX2_readMark_20 : decode cX2_readMark 20 = .ok (.getfield 278, 3) := by decide +kernel
theorem dX2_readMark_23 : decode cX2_readMark 23 = .ok (.bipush 8, 2) := by decide +kernel
theorem dX2_readMark_25 : decode cX2_readMark 25 = .ok (.if_icmp .lt 12, 3) := by decide +kernel
theorem dX2_readMark_28 : decode cX2_readMark 28 = .ok (.aload_n 0, 1) := by decide +kernel
theorem dX2_readMark_29 : decode cX2_readMark 29 = .ok (.getfield 12, 3) := by decide +kernel
theorem dX2_readMark_32 : decode cX2_readMark 32 = .ok (.iconst 4, 1) := by decide +kernel
theorem dX2_readMark_33 : decode cX2_readMark 33 = .ok (.iload_n 2, 1) := by decide +kernel
theorem dX2_readMark_34 : decode cX2_readMark 34 = .ok (.invokevirtual 136, 3) := by decide +kernel
theorem dX2_readMark_37 : decode cX2_readMark 37 = .ok (.aload_n 0, 1) := by decide +kernel
theorem dX2_readMark_38 : decode cX2_readMark 38 = .ok (.getfield 12, 3) := by decide +kernel
theorem dX2_readMark_41 : decode cX2_readMark 41 = .ok (.invokevirtual 157, 3) := by decide +kernel
theorem dX2_readMark_44 : decode cX2_readMark 44 = .ok (.iload_n 1, 1) := by decide +kernel
theorem dX2_readMark_45 : decode cX2_readMark 45 = .ok (.bipush 20, 2) := by decide +kernel
theorem dX2_readMark_47 : decode cX2_readMark 47 = .ok (.if_icmp .eq 9, 3) := by decide +kernel
theorem dX2_readMark_50 : decode cX2_readMark 50 = .ok (.iload_n 1, 1) := by decide +kernel
theorem dX2_readMark_51 : decode cX2_readMark 51 = .ok (.bipush 21, 2) := by decide +kernel
theorem dX2_readMark_53 : decode cX2_readMark 53 = .ok (.if_icmp .ne 24, 3) := by decide +kernel
theorem dX2_readMark_56 : decode cX2_readMark 56 = .ok (.aload_n 0, 1) := by decide +kernel
theorem dX2_readMark_57 : decode cX2_readMark 57 = .ok (.getfield 282, 3) := by decide +kernel
theorem dX2_readMark_60 : decode cX2_readMark 60 = .ok (.ifCond .eq 12, 3) := by decide +kernel
theorem dX2_readMark_63 : decode cX2_readMark 63 = .ok (.aload_n 0, 1) := by decide +kernel
theorem dX2_readMark_64 : decode cX2_readMark 64 = .ok (.getfield 12, 3) := by decide +kernel
theorem dX2_readMark_67 : decode cX2_readMark 67 = .ok (.iconst 5, 1) := by decide +kernel
theorem dX2_readMark_68 : decode cX2_readMark 68 = .ok (.iload_n 2, 1) := by decide +kernel
theorem dX2_readMark_69 : decode cX2_readMark 69 = .ok (.invokevirtual 136, 3) := by decide +kernel
theorem dX2_readMark_72 : decode cX2_readMark 72 = .ok (.aload_n 0, 1) := by decide +kernel
theorem dX2_readMark_73 : decode cX2_readMark 73 = .ok (.iconst 1, 1) := by decide +kernel
theorem dX2_readMark_74 : decode cX2_readMark 74 = .ok (.putfield 282, 3) := by decide +kernel
theorem dX2_readMark_77 : decode cX2_readMark 77 = .ok (.aload_n 0, 1) := by decide +kernel
theorem dX2_readMark_78 : decode cX2_readMark 78 = .ok (.getfield 72, 3) := by decide +kernel
theorem dX2_readMark_81 : decode cX2_readMark 81 = .ok (.dup, 1) := by decide +kernel
theorem dX2_readMark_82 : decode cX2_readMark 82 = .ok (.getfield 278, 3) := by decide +kernel
theorem dX2_readMark_85 : decode cX2_readMark 85 = .ok (.iconst 1, 1) := by decide +kernel
theorem dX2_readMark_86 : decode cX2_readMark 86 = .ok (.iadd, 1) := by decide +kernel
theorem dX2_readMark_87 : decode cX2_readMark 87 = .ok (.putfield 278, 3) := by decide +kernel
theorem dX2_readMark_90 : decode cX2_readMark 90 = .ok (.iload_n 1, 1) := by decide +kernel
theorem dX2_readMark_91 : decode cX2_readMark 91 = .ok (.tableswitch 117 16 20 #[33, 64, 95, 117, 110], 33) := by decide +kernel
theorem dX2_readMark_124 : decode cX2_readMark 124 = .ok (.aload_n 0, 1) := by decide +kernel
theorem dX2_readMark_125 : decode cX2_readMark 125 = .ok (.getfield 51, 3) := by decide +kernel
theorem dX2_readMark_128 : decode cX2_readMark 128 = .ok (.iconst 1, 1) := by decide +kernel
theorem dX2_readMark_129 : decode cX2_readMark 129 = .ok (.aload_n 0, 1) := by decide +kernel
theorem dX2_readMark_130 : decode cX2_readMark 130 = .ok (.getfield 21, 3) := by decide +kernel
theorem dX2_readMark_133 : decode cX2_readMark 133 = .ok (.getfield 154, 3) := by decide +kernel
theorem dX2_readMark_136 : decode cX2_readMark 136 = .ok (.aload_n 0, 1) := by decide +kernel
theorem dX2_readMark_137 : decode cX2_readMark 137 = .ok (.getfield 12, 3) := by decide +kernel
theorem dX2_readMark_140 : decode cX2_readMark 140 = .ok (.invokevirtual 129, 3) := by decide +kernel
theorem dX2_readMark_143 : decode cX2_readMark 143 = .ok (.invokevirtual 201, 3) := by decide +kernel
theorem dX2_readMark_146 : decode cX2_readMark 146 = .ok (.pop, 1) := by decide +kernel
theorem dX2_readMark_147 : decode cX2_readMark 147 = .ok (.aload_n 0, 1) := by decide +kernel
theorem dX2_readMark_148 : decode cX2_readMark 148 = .ok (.iconst 0, 1) := by decide +kernel
theorem dX2_readMark_149 : decode cX2_readMark 149 = .ok (.invokevirtual 205, 3) := by decide +kernel
theorem dX2_readMark_152 : decode cX2_readMark 152 = .ok (.goto 82, 3) := by decide +kernel
theorem dX2_readMark_155 : decode cX2_readMark 155 = .ok (.aload_n 0, 1) := by decide +kernel
theorem dX2_readMark_156 : decode cX2_readMark 156 = .ok (.getfield 51, 3) := by decide +kernel
theorem dX2_readMark_159 : decode cX2_readMark 159 = .ok (.iconst 2, 1) := by decide +kernel
theorem dX2_readMark_160 : decode cX2_readMark 160 = .ok (.aload_n 0, 1) := by decide +kernel
theorem dX2_readMark_161 : decode cX2_readMark 161 = .ok (.getfield 21, 3) := by decide +kernel
theorem dX2_readMark_164 : decode cX2_readMark 164 = .ok (.getfield 154, 3) := by decide +kernel
theorem dX2_readMark_167 : decode cX2_readMark 167 = .ok (.aload_n 0, 1) := by decide +kernel
theorem dX2_readMark_168 : decode cX2_readMark 168 = .ok (.getfield 12, 3) := by decide +kernel
theorem dX2_readMark_171 : decode cX2_readMark 171 = .ok (.invokevirtual 129, 3) := by decide +kernel
theorem dX2_readMark_174 : decode cX2_readMark 174 = .ok (.invokevirtual 201, 3) := by decide +kernel
theorem dX2_readMark_177 : decode cX2_readMark 177 = .ok (.pop, 1) := by decide +kernel
theorem dX2_readMark_178 : decode cX2_readMark 178 = .ok (.aload_n 0, 1) := by decide +kernel
theorem dX2_readMark_179 : decode cX2_readMark 179 = .ok (.iconst 1, 1) := by decide +kernel
theorem dX2_readMark_180 : decode cX2_readMark 180 = .ok (.invokevirtual 205, 3) := by decide +kernel
theorem dX2_readMark_183 : decode cX2_readMark 183 = .ok (.goto 51, 3) := by decide +kernel
theorem dX2_readMark_186 : decode cX2_readMark 186 = .ok (.aload_n 0, 1) := by decide +kernel
theorem dX2_readMark_187 : decode cX2_readMark 187 = .ok (.invokevirtual 300, 3) := by decide +kernel
theorem dX2_readMark_190 : decode cX2_readMark 190 = .ok (.ifCond .eq 44, 3) := by decide +kernel
theorem dX2_readMark_193 : decode cX2_readMark 193 = .ok (.aload_n 0, 1) := by decide +kernel
theorem dX2_readMark_194 : decode cX2_readMark 194 = .ok (.iconst 0, 1) := by decide +kernel
theorem dX2_readMark_195 : decode cX2_readMark 195 = .ok (.invokevirtual 205, 3) := by decide +kernel
theorem dX2_readMark_198 : decode cX2_readMark 198 = .ok (.goto 36, 3) := by decide +kernel
theorem dX2_readMark_201 : decode cX2_readMark 201 = .ok (.aload_n 0, 1) := by decide +kernel
theorem dX2_readMark_202 : decode cX2_readMark 202 = .ok (.invokevirtual 303, 3) := by decide +kernel
theorem dX2_readMark_205 : decode cX2_readMark 205 = .ok (.goto 29, 3) := by decide +kernel
theorem dX2_readMark_208 : decode cX2_readMark 208 = .ok (.aload_n 0, 1) := by decide +kernel
theorem dX2_readMark_209 : decode cX2_readMark 209 = .ok (.getfield 51, 3) := by decide +kernel
theorem dX2_readMark_212 : decode cX2_readMark 212 = .ok (.bipush 6, 2) := by decide +kernel
theorem dX2_readMark_214 : decode cX2_readMark 214 = .ok (.aload_n 0, 1) := by decide +kernel
theorem dX2_readMark_215 : decode cX2_readMark 215 = .ok (.getfield 21, 3) := by decide +kernel
theorem dX2_readMark_218 : decode cX2_readMark 218 = .ok (.getfield 154, 3) := by decide +kernel
theorem dX2_readMark_221 : decode cX2_readMark 221 = .ok (.iload_n 2, 1) := by decide +kernel
theorem dX2_readMark_222 : decode cX2_readMark 222 = .ok (.invokevirtual 201, 3) := by decide +kernel
theorem dX2_readMark_225 : decode cX2_readMark 225 = .ok (.pop, 1) := by decide +kernel
theorem dX2_readMark_226 : decode cX2_readMark 226 = .ok (.aload_n 0, 1) := by decide +kernel
theorem dX2_readMark_227 : decode cX2_readMark 227 = .ok (.getfield 72, 3) := by decide +kernel
theorem dX2_readMark_230 : decode cX2_readMark 230 = .ok (.iconst 1, 1) := by decide +kernel
theorem dX2_readMark_231 : decode cX2_readMark 231 = .ok (.putfield 259, 3) := by decide +kernel
theorem dX2_readMark_234 : decode cX2_readMark 234 = .ok (.aload_n 0, 1) := by decide +kernel
theorem dX2_readMark_235 : decode cX2_readMark 235 = .ok (.getfield 12, 3) := by decide +kernel
theorem dX2_readMark_238 : decode cX2_readMark 238 = .ok (.bipush 59, 2) := by decide +kernel
theorem dX2_readMark_240 : decode cX2_readMark 240 = .ok (.invokevirtual 89, 3) := by decide +kernel
theorem dX2_readMark_243 : decode cX2_readMark 243 = .ok (.return_, 1) := by decide +kernel
theorem dX2_readThrownWord_0 : decode cX2_readThrownWord 0 = .ok (.aload_n 0, 1) := by decide +kernel
theorem dX2_readThrownWord_1 : decode cX2_readThrownWord 1 = .ok (.getfield 51, 3) := by decide +kernel
theorem dX2_readThrownWord_4 : decode cX2_readThrownWord 4 = .ok (.iconst 4, 1) := by decide +kernel
theorem dX2_readThrownWord_5 : decode cX2_readThrownWord 5 = .ok (.aload_n 0, 1) := by decide +kernel
theorem dX2_readThrownWord_6 : decode cX2_readThrownWord 6 = .ok (.getfield 21, 3) := by decide +kernel
theorem dX2_readThrownWord_9 : decode cX2_readThrownWord 9 = .ok (.getfield 154, 3) := by decide +kernel
theorem dX2_readThrownWord_12 : decode cX2_readThrownWord 12 = .ok (.aload_n 0, 1) := by decide +kernel
theorem dX2_readThrownWord_13 : decode cX2_readThrownWord 13 = .ok (.getfield 12, 3) := by decide +kernel
theorem dX2_readThrownWord_16 : decode cX2_readThrownWord 16 = .ok (.invokevirtual 129, 3) := by decide +kernel
theorem dX2_readThrownWord_19 : decode cX2_readThrownWord 19 = .ok (.invokevirtual 201, 3) := by decide +kernel
theorem dX2_readThrownWord_22 : decode cX2_readThrownWord 22 = .ok (.istore_n 1, 1) := by decide +kernel
theorem dX2_readThrownWord_23 : decode cX2_readThrownWord 23 = .ok (.aload_n 0, 1) := by decide +kernel
theorem dX2_readThrownWord_24 : decode cX2_readThrownWord 24 = .ok (.getfield 51, 3) := by decide +kernel
theorem dX2_readThrownWord_27 : decode cX2_readThrownWord 27 = .ok (.getfield 306, 3) := by decide +kernel
theorem dX2_readThrownWord_30 : decode cX2_readThrownWord 30 = .ok (.iload_n 1, 1) := by decide +kernel
theorem dX2_readThrownWord_31 : decode cX2_readThrownWord 31 = .ok (.aload_n 0, 1) := by decide +kernel
theorem dX2_readThrownWord_32 : decode cX2_readThrownWord 32 = .ok (.getfield 12, 3) := by decide +kernel
theorem dX2_readThrownWord_35 : decode cX2_readThrownWord 35 = .ok (.invokevirtual 132, 3) := by decide +kernel
theorem dX2_readThrownWord_38 : decode cX2_readThrownWord 38 = .ok (.lastore, 1) := by decide +kernel
theorem dX2_readThrownWord_39 : decode cX2_readThrownWord 39 = .ok (.aload_n 0, 1) := by decide +kernel
theorem dX2_readThrownWord_40 : decode cX2_readThrownWord 40 = .ok (.getfield 12, 3) := by decide +kernel
theorem dX2_readThrownWord_43 : decode cX2_readThrownWord 43 = .ok (.iconst 3, 1) := by decide +kernel
theorem dX2_readThrownWord_44 : decode cX2_readThrownWord 44 = .ok (.invokevirtual 89, 3) := by decide +kernel
theorem dX2_readThrownWord_47 : decode cX2_readThrownWord 47 = .ok (.aload_n 0, 1) := by decide +kernel
theorem dX2_readThrownWord_48 : decode cX2_readThrownWord 48 = .ok (.getfield 12, 3) := by decide +kernel
theorem dX2_readThrownWord_51 : decode cX2_readThrownWord 51 = .ok (.invokevirtual 85, 3) := by decide +kernel
theorem dX2_readThrownWord_54 : decode cX2_readThrownWord 54 = .ok (.bipush 19, 2) := by decide +kernel
theorem dX2_readThrownWord_56 : decode cX2_readThrownWord 56 = .ok (.if_icmp .eq 15, 3) := by decide +kernel
theorem dX2_readThrownWord_59 : decode cX2_readThrownWord 59 = .ok (.aload_n 0, 1) := by decide +kernel
theorem dX2_readThrownWord_60 : decode cX2_readThrownWord 60 = .ok (.getfield 51, 3) := by decide +kernel
theorem dX2_readThrownWord_63 : decode cX2_readThrownWord 63 = .ok (.getfield 309, 3) := by decide +kernel
theorem dX2_readThrownWord_66 : decode cX2_readThrownWord 66 = .ok (.iload_n 1, 1) := by decide +kernel
theorem dX2_readThrownWord_67 : decode cX2_readThrownWord 67 = .ok (.iconst (-1), 1) := by decide +kernel
theorem dX2_readThrownWord_68 : decode cX2_readThrownWord 68 = .ok (.iastore, 1) := by decide +kernel
theorem dX2_readThrownWord_69 : decode cX2_readThrownWord 69 = .ok (.iconst 0, 1) := by decide +kernel
theorem dX2_readThrownWord_70 : decode cX2_readThrownWord 70 = .ok (.ireturn, 1) := by decide +kernel
theorem dX2_readThrownWord_71 : decode cX2_readThrownWord 71 = .ok (.aload_n 0, 1) := by decide +kernel
theorem dX2_readThrownWord_72 : decode cX2_readThrownWord 72 = .ok (.getfield 12, 3) := by decide +kernel
theorem dX2_readThrownWord_75 : decode cX2_readThrownWord 75 = .ok (.invokevirtual 157, 3) := by decide +kernel
theorem dX2_readThrownWord_78 : decode cX2_readThrownWord 78 = .ok (.aload_n 0, 1) := by decide +kernel
theorem dX2_readThrownWord_79 : decode cX2_readThrownWord 79 = .ok (.getfield 51, 3) := by decide +kernel
theorem dX2_readThrownWord_82 : decode cX2_readThrownWord 82 = .ok (.getfield 312, 3) := by decide +kernel
theorem dX2_readThrownWord_85 : decode cX2_readThrownWord 85 = .ok (.iload_n 1, 1) := by decide +kernel
theorem dX2_readThrownWord_86 : decode cX2_readThrownWord 86 = .ok (.aload_n 0, 1) := by decide +kernel
theorem dX2_readThrownWord_87 : decode cX2_readThrownWord 87 = .ok (.getfield 12, 3) := by decide +kernel
theorem dX2_readThrownWord_90 : decode cX2_readThrownWord 90 = .ok (.invokevirtual 129, 3) := by decide +kernel
theorem dX2_readThrownWord_93 : decode cX2_readThrownWord 93 = .ok (.iastore, 1) := by decide +kernel
theorem dX2_readThrownWord_94 : decode cX2_readThrownWord 94 = .ok (.iconst 1, 1) := by decide +kernel
theorem dX2_readThrownWord_95 : decode cX2_readThrownWord 95 = .ok (.ireturn, 1) := by decide +kernel
theorem dX2_readOnly_0 : decode cX2_readOnly 0 = .ok (.aload_n 0, 1) := by decide +kernel
theorem dX2_readOnly_1 : decode cX2_readOnly 1 = .ok (.getfield 51, 3) := by decide +kernel
theorem dX2_readOnly_4 : decode cX2_readOnly 4 = .ok (.iconst 5, 1) := by decide +kernel
theorem dX2_readOnly_5 : decode cX2_readOnly 5 = .ok (.aload_n 0, 1) := by decide +kernel
theorem dX2_readOnly_6 : decode cX2_readOnly 6 = .ok (.getfield 21, 3) := by decide +kernel
theorem dX2_readOnly_9 : decode cX2_readOnly 9 = .ok (.getfield 154, 3) := by decide +kernel
theorem dX2_readOnly_12 : decode cX2_readOnly 12 = .ok (.aload_n 0, 1) := by decide +kernel
theorem dX2_readOnly_13 : decode cX2_readOnly 13 = .ok (.getfield 12, 3) := by decide +kernel
theorem dX2_readOnly_16 : decode cX2_readOnly 16 = .ok (.invokevirtual 129, 3) := by decide +kernel
theorem dX2_readOnly_19 : decode cX2_readOnly 19 = .ok (.invokevirtual 201, 3) := by decide +kernel
theorem dX2_readOnly_22 : decode cX2_readOnly 22 = .ok (.istore_n 1, 1) := by decide +kernel
theorem dX2_readOnly_23 : decode cX2_readOnly 23 = .ok (.iconst 1, 1) := by decide +kernel
theorem dX2_readOnly_24 : decode cX2_readOnly 24 = .ok (.istore_n 2, 1) := by decide +kernel
theorem dX2_readOnly_25 : decode cX2_readOnly 25 = .ok (.iconst 0, 1) := by decide +kernel
theorem dX2_readOnly_26 : decode cX2_readOnly 26 = .ok (.istore_n 3, 1) := by decide +kernel
theorem dX2_readOnly_27 : decode cX2_readOnly 27 = .ok (.iload_n 3, 1) := by decide +kernel
theorem dX2_readOnly_28 : decode cX2_readOnly 28 = .ok (.sipush 1200, 3) := by decide +kernel
theorem dX2_readOnly_31 : decode cX2_readOnly 31 = .ok (.if_icmp .gt 134, 3) := by decide +kernel
theorem dX2_readOnly_34 : decode cX2_readOnly 34 = .ok (.iload_n 2, 1) := by decide +kernel
theorem dX2_readOnly_35 : decode cX2_readOnly 35 = .ok (.ifCond .eq 130, 3) := by decide +kernel
theorem dX2_readOnly_38 : decode cX2_readOnly 38 = .ok (.aload_n 0, 1) := by decide +kernel
theorem dX2_readOnly_39 : decode cX2_readOnly 39 = .ok (.getfield 64, 3) := by decide +kernel
theorem dX2_readOnly_42 : decode cX2_readOnly 42 = .ok (.aload_n 0, 1) := by decide +kernel
theorem dX2_readOnly_43 : decode cX2_readOnly 43 = .ok (.getfield 12, 3) := by decide +kernel
theorem dX2_readOnly_46 : decode cX2_readOnly 46 = .ok (.invokevirtual 132, 3) := by decide +kernel
theorem dX2_readOnly_49 : decode cX2_readOnly 49 = .ok (.invokevirtual 167, 3) := by decide +kernel
theorem dX2_readOnly_52 : decode cX2_readOnly 52 = .ok (.istore 4, 2) := by decide +kernel
theorem dX2_readOnly_54 : decode cX2_readOnly 54 = .ok (.aload_n 0, 1) := by decide +kernel
theorem dX2_readOnly_55 : decode cX2_readOnly 55 = .ok (.getfield 12, 3) := by decide +kernel
theorem dX2_readOnly_58 : decode cX2_readOnly 58 = .ok (.invokevirtual 85, 3) := by decide +kernel
theorem dX2_readOnly_61 : decode cX2_readOnly 61 = .ok (.iconst 3, 1) := by decide +kernel
theorem dX2_readOnly_62 : decode cX2_readOnly 62 = .ok (.if_icmp .eq 21, 3) := by decide +kernel
theorem dX2_readOnly_65 : decode cX2_readOnly 65 = .ok (.aload_n 0, 1) := by decide +kernel
theorem dX2_readOnly_66 : decode cX2_readOnly 66 = .ok (.getfield 12, 3) := by decide +kernel
theorem dX2_readOnly_69 : decode cX2_readOnly 69 = .ok (.iconst 1, 1) := by decide +kernel
theorem dX2_readOnly_70 : decode cX2_readOnly 70 = .ok (.aload_n 0, 1) := by decide +kernel
theorem dX2_readOnly_71 : decode cX2_readOnly 71 = .ok (.getfield 12, 3) := by decide +kernel
theorem dX2_readOnly_74 : decode cX2_readOnly 74 = .ok (.invokevirtual 129, 3) := by decide +kernel
theorem dX2_readOnly_77 : decode cX2_readOnly 77 = .ok (.invokevirtual 136, 3) := by decide +kernel
theorem dX2_readOnly_80 : decode cX2_readOnly 80 = .ok (.goto 43, 3) := by decide +kernel
theorem dX2_readOnly_83 : decode cX2_readOnly 83 = .ok (.iload 4, 2) := by decide +kernel
theorem dX2_readOnly_85 : decode cX2_readOnly 85 = .ok (.iconst (-1), 1) := by decide +kernel
theorem dX2_readOnly_86 : decode cX2_readOnly 86 = .ok (.if_icmp .ne 21, 3) := by decide +kernel
theorem dX2_readOnly_89 : decode cX2_readOnly 89 = .ok (.aload_n 0, 1) := by decide +kernel
theorem dX2_readOnly_90 : decode cX2_readOnly 90 = .ok (.getfield 12, 3) := by decide +kernel
theorem dX2_readOnly_93 : decode cX2_readOnly 93 = .ok (.iconst 2, 1) := by decide +kernel
theorem dX2_readOnly_94 : decode cX2_readOnly 94 = .ok (.aload_n 0, 1) := by decide +kernel
theorem dX2_readOnly_95 : decode cX2_readOnly 95 = .ok (.getfield 12, 3) := by decide +kernel
theorem dX2_readOnly_98 : decode cX2_readOnly 98 = .ok (.invokevirtual 129, 3) := by decide +kernel
theorem dX2_readOnly_101 : decode cX2_readOnly 101 = .ok (.invokevirtual 136, 3) := by decide +kernel
theorem dX2_readOnly_104 : decode cX2_readOnly 104 = .ok (.goto 19, 3) := by decide +kernel
theorem dX2_readOnly_107 : decode cX2_readOnly 107 = .ok (.aload_n 0, 1) := by decide +kernel
theorem dX2_readOnly_108 : decode cX2_readOnly 108 = .ok (.getfield 51, 3) := by decide +kernel
theorem dX2_readOnly_111 : decode cX2_readOnly 111 = .ok (.getfield 315, 3) := by decide +kernel
theorem dX2_readOnly_114 : decode cX2_readOnly 114 = .ok (.iload_n 1, 1) := by decide +kernel
theorem dX2_readOnly_115 : decode cX2_readOnly 115 = .ok (.dup2, 1) := by decide +kernel
theorem dX2_readOnly_116 : decode cX2_readOnly 116 = .ok (.iaload, 1) := by decide +kernel
theorem dX2_readOnly_117 : decode cX2_readOnly 117 = .ok (.iconst 1, 1) := by decide +kernel
theorem dX2_readOnly_118 : decode cX2_readOnly 118 = .ok (.iload 4, 2) := by decide +kernel
theorem dX2_readOnly_120 : decode cX2_readOnly 120 = .ok (.ishl, 1) := by decide +kernel
theorem dX2_readOnly_121 : decode cX2_readOnly 121 = .ok (.ior, 1) := by decide +kernel
theorem dX2_readOnly_122 : decode cX2_readOnly 122 = .ok (.iastore, 1) := by decide +kernel
theorem dX2_readOnly_123 : decode cX2_readOnly 123 = .ok (.aload_n 0, 1) := by decide +kernel
theorem dX2_readOnly_124 : decode cX2_readOnly 124 = .ok (.getfield 12, 3) := by decide +kernel
theorem dX2_readOnly_127 : decode cX2_readOnly 127 = .ok (.invokevirtual 157, 3) := by decide +kernel
theorem dX2_readOnly_130 : decode cX2_readOnly 130 = .ok (.aload_n 0, 1) := by decide +kernel
theorem dX2_readOnly_131 : decode cX2_readOnly 131 = .ok (.getfield 12, 3) := by decide +kernel
theorem dX2_readOnly_134 : decode cX2_readOnly 134 = .ok (.invokevirtual 85, 3) := by decide +kernel
theorem dX2_readOnly_137 : decode cX2_readOnly 137 = .ok (.bipush 44, 2) := by decide +kernel
theorem dX2_readOnly_139 : decode cX2_readOnly 139 = .ok (.if_icmp .ne 7, 3) := by decide +kernel
theorem dX2_readOnly_142 : decode cX2_readOnly 142 = .ok (.iconst 1, 1) := by decide +kernel
theorem dX2_readOnly_143 : decode cX2_readOnly 143 = .ok (.goto 4, 3) := by decide +kernel
theorem dX2_readOnly_146 : decode cX2_readOnly 146 = .ok (.iconst 0, 1) := by decide +kernel
theorem dX2_readOnly_147 : decode cX2_readOnly 147 = .ok (.istore_n 2, 1) := by decide +kernel
theorem dX2_readOnly_148 : decode cX2_readOnly 148 = .ok (.iload_n 2, 1) := by decide +kernel
theorem dX2_readOnly_149 : decode cX2_readOnly 149 = .ok (.ifCond .eq 10, 3) := by decide +kernel
theorem dX2_readOnly_152 : decode cX2_readOnly 152 = .ok (.aload_n 0, 1) := by decide +kernel
theorem dX2_readOnly_153 : decode cX2_readOnly 153 = .ok (.getfield 12, 3) := by decide +kernel
theorem dX2_readOnly_156 : decode cX2_readOnly 156 = .ok (.invokevirtual 157, 3) := by decide +kernel
theorem dX2_readOnly_159 : decode cX2_readOnly 159 = .ok (.iinc 3 1, 3) := by decide +kernel
theorem dX2_readOnly_162 : decode cX2_readOnly 162 = .ok (.goto (-135), 3) := by decide +kernel
theorem dX2_readOnly_165 : decode cX2_readOnly 165 = .ok (.return_, 1) := by decide +kernel
theorem dX2_openBody_0 : decode cX2_openBody 0 = .ok (.aload_n 0, 1) := by decide +kernel
theorem dX2_openBody_1 : decode cX2_openBody 1 = .ok (.getfield 12, 3) := by decide +kernel
theorem dX2_openBody_4 : decode cX2_openBody 4 = .ok (.invokevirtual 129, 3) := by decide +kernel
theorem dX2_openBody_7 : decode cX2_openBody 7 = .ok (.istore_n 1, 1) := by decide +kernel
theorem dX2_openBody_8 : decode cX2_openBody 8 = .ok (.aload_n 0, 1) := by decide +kernel
theorem dX2_openBody_9 : decode cX2_openBody 9 = .ok (.iconst 0, 1) := by decide +kernel
theorem dX2_openBody_10 : decode cX2_openBody 10 = .ok (.putfield 81, 3) := by decide +kernel
theorem dX2_openBody_13 : decode cX2_openBody 13 = .ok (.aload_n 0, 1) := by decide +kernel
theorem dX2_openBody_14 : decode cX2_openBody 14 = .ok (.getfield 72, 3) := by decide +kernel
theorem dX2_openBody_17 : decode cX2_openBody 17 = .ok (.aload_n 0, 1) := by decide +kernel
theorem dX2_openBody_18 : decode cX2_openBody 18 = .ok (.getfield 51, 3) := by decide +kernel
theorem dX2_openBody_21 : decode cX2_openBody 21 = .ok (.getfield 318, 3) := by decide +kernel
theorem dX2_openBody_24 : decode cX2_openBody 24 = .ok (.putfield 265, 3) := by decide +kernel
theorem dX2_openBody_27 : decode cX2_openBody 27 = .ok (.aload_n 0, 1) := by decide +kernel
theorem dX2_openBody_28 : decode cX2_openBody 28 = .ok (.iconst 0, 1) := by decide +kernel
theorem dX2_openBody_29 : decode cX2_openBody 29 = .ok (.iconst (-1), 1) := by decide +kernel
theorem dX2_openBody_30 : decode cX2_openBody 30 = .ok (.iconst (-1), 1) := by decide +kernel
theorem dX2_openBody_31 : decode cX2_openBody 31 = .ok (.invokevirtual 321, 3) := by decide +kernel
theorem dX2_openBody_34 : decode cX2_openBody 34 = .ok (.aload_n 0, 1) := by decide +kernel
theorem dX2_openBody_35 : decode cX2_openBody 35 = .ok (.getfield 72, 3) := by decide +kernel
theorem dX2_openBody_38 : decode cX2_openBody 38 = .ok (.getfield 262, 3) := by decide +kernel
theorem dX2_openBody_41 : decode cX2_openBody 41 = .ok (.istore_n 2, 1) := by decide +kernel
theorem dX2_openBody_42 : decode cX2_openBody 42 = .ok (.iload_n 2, 1) := by decide +kernel
theorem dX2_openBody_43 : decode cX2_openBody 43 = .ok (.ifCond .lt 48, 3) := by decide +kernel
theorem dX2_openBody_46 : decode cX2_openBody 46 = .ok (.iload_n 2, 1) := by decide +kernel
theorem dX2_openBody_47 : decode cX2_openBody 47 = .ok (.aload_n 0, 1) := by decide +kernel
theorem dX2_openBody_48 : decode cX2_openBody 48 = .ok (.getfield 51, 3) := by decide +kernel
theorem dX2_openBody_51 : decode cX2_openBody 51 = .ok (.getfield 247, 3) := by decide +kernel
theorem dX2_openBody_54 : decode cX2_openBody 54 = .ok (.if_icmp .ge 37, 3) := by decide +kernel
theorem dX2_openBody_57 : decode cX2_openBody 57 = .ok (.aload_n 0, 1) := by decide +kernel
theorem dX2_openBody_58 : decode cX2_openBody 58 = .ok (.getfield 51, 3) := by decide +kernel
theorem dX2_openBody_61 : decode cX2_openBody 61 = .ok (.getfield 68, 3) := by decide +kernel
theorem dX2_openBody_64 : decode cX2_openBody 64 = .ok (.iload_n 2, 1) := by decide +kernel
theorem dX2_openBody_65 : decode cX2_openBody 65 = .ok (.aaload, 1) := by decide +kernel
theorem dX2_openBody_66 : decode cX2_openBody 66 = .ok (.getfield 259, 3) := by decide +kernel
theorem dX2_openBody_69 : decode cX2_openBody 69 = .ok (.ifCond .eq 22, 3) := by decide +kernel
theorem dX2_openBody_72 : decode cX2_openBody 72 = .ok (.aload_n 0, 1) := by decide +kernel
theorem dX2_openBody_73 : decode cX2_openBody 73 = .ok (.getfield 72, 3) := by decide +kernel
theorem dX2_openBody_76 : decode cX2_openBody 76 = .ok (.getfield 259, 3) := by decide +kernel
theorem dX2_openBody_79 : decode cX2_openBody 79 = .ok (.ifCond .ne 12, 3) := by decide +kernel
theorem dX2_openBody_82 : decode cX2_openBody 82 = .ok (.aload_n 0, 1) := by decide +kernel
theorem dX2_openBody_83 : decode cX2_openBody 83 = .ok (.getfield 12, 3) := by decide +kernel
theorem dX2_openBody_86 : decode cX2_openBody 86 = .ok (.iconst 5, 1) := by decide +kernel
theorem dX2_openBody_87 : decode cX2_openBody 87 = .ok (.iload_n 1, 1) := by decide +kernel
theorem dX2_openBody_88 : decode cX2_openBody 88 = .ok (.invokevirtual 136, 3) := by decide +kernel
theorem dX2_openBody_91 : decode cX2_openBody 91 = .ok (.return_, 1) := by decide +kernel
theorem dX2_openBlock_0 : decode cX2_openBlock 0 = .ok (.aload_n 0, 1) := by decide +kernel
theorem dX2_openBlock_1 : decode cX2_openBlock 1 = .ok (.getfield 12, 3) := by decide +kernel
theorem dX2_openBlock_4 : decode cX2_openBlock 4 = .ok (.invokevirtual 85, 3) := by decide +kernel
theorem dX2_openBlock_7 : decode cX2_openBlock 7 = .ok (.bipush 123, 2) := by decide +kernel
theorem dX2_openBlock_9 : decode cX2_openBlock 9 = .ok (.if_icmp .eq 21, 3) := by decide +kernel
theorem dX2_openBlock_12 : decode cX2_openBlock 12 = .ok (.aload_n 0, 1) := by decide +kernel
theorem dX2_openBlock_13 : decode cX2_openBlock 13 = .ok (.getfield 12, 3) := by decide +kernel
theorem dX2_openBlock_16 : decode cX2_openBlock 16 = .ok (.iconst 1, 1) := by decide +kernel
theorem dX2_openBlock_17 : decode cX2_openBlock 17 = .ok (.aload_n 0, 1) := by decide +kernel
theorem dX2_openBlock_18 : decode cX2_openBlock 18 = .ok (.getfield 12, 3) := by decide +kernel
theorem dX2_openBlock_21 : decode cX2_openBlock 21 = .ok (.invokevirtual 129, 3) := by decide +kernel
theorem dX2_openBlock_24 : decode cX2_openBlock 24 = .ok (.invokevirtual 136, 3) := by decide +kernel
theorem dX2_openBlock_27 : decode cX2_openBlock 27 = .ok (.goto 93, 3) := by decide +kernel
theorem dX2_openBlock_30 : decode cX2_openBlock 30 = .ok (.aload_n 0, 1) := by decide +kernel
theorem dX2_openBlock_31 : decode cX2_openBlock 31 = .ok (.getfield 81, 3) := by decide +kernel
theorem dX2_openBlock_34 : decode cX2_openBlock 34 = .ok (.bipush 8, 2) := by decide +kernel
theorem dX2_openBlock_36 : decode cX2_openBlock 36 = .ok (.if_icmp .lt 21, 3) := by decide +kernel
theorem dX2_openBlock_39 : decode cX2_openBlock 39 = .ok (.aload_n 0, 1) := by decide +kernel
theorem dX2_openBlock_40 : decode cX2_openBlock 40 = .ok (.getfield 12, 3) := by decide +kernel
theorem dX2_openBlock_43 : decode cX2_openBlock 43 = .ok (.iconst 4, 1) := by decide +kernel
theorem dX2_openBlock_44 : decode cX2_openBlock 44 = .ok (.aload_n 0, 1) := by decide +kernel
theorem dX2_openBlock_45 : decode cX2_openBlock 45 = .ok (.getfield 12, 3) := by decide +kernel
theorem dX2_openBlock_48 : decode cX2_openBlock 48 = .ok (.invokevirtual 129, 3) := by decide +kernel
theorem dX2_openBlock_51 : decode cX2_openBlock 51 = .ok (.invokevirtual 136, 3) := by decide +kernel
theorem dX2_openBlock_54 : decode cX2_openBlock 54 = .ok (.goto 66, 3) := by decide +kernel
theorem dX2_openBlock_57 : decode cX2_openBlock 57 = .ok (.aload_n 0, 1) := by decide +kernel
theorem dX2_openBlock_58 : decode cX2_openBlock 58 = .ok (.getfield 34, 3) := by decide +kernel
theorem dX2_openBlock_61 : decode cX2_openBlock 61 = .ok (.aload_n 0, 1) := by decide +kernel
theorem dX2_openBlock_62 : decode cX2_openBlock 62 = .ok (.getfield 81, 3) := by decide +kernel
theorem dX2_openBlock_65 : decode cX2_openBlock 65 = .ok (.iload_n 1, 1) := by decide +kernel
theorem dX2_openBlock_66 : decode cX2_openBlock 66 = .ok (.iastore, 1) := by decide +kernel
theorem dX2_openBlock_67 : decode cX2_openBlock 67 = .ok (.aload_n 0, 1) := by decide +kernel
theorem dX2_openBlock_68 : decode cX2_openBlock 68 = .ok (.getfield 38, 3) := by decide +kernel
theorem dX2_openBlock_71 : decode cX2_openBlock 71 = .ok (.aload_n 0, 1) := by decide +kernel
theorem dX2_openBlock_72 : decode cX2_openBlock 72 = .ok (.getfield 81, 3) := by decide +kernel
theorem dX2_openBlock_75 : decode cX2_openBlock 75 = .ok (.iload_n 2, 1) := by decide +kernel
theorem dX2_openBlock_76 : decode cX2_openBlock 76 = .ok (.iastore, 1) := by decide +kernel
theorem dX2_openBlock_77 : decode cX2_openBlock 77 = .ok (.aload_n 0, 1) := by decide +kernel
theorem dX2_openBlock_78 : decode cX2_openBlock 78 = .ok (.getfield 41, 3) := by decide +kernel
theorem dX2_openBlock_81 : decode cX2_openBlock 81 = .ok (.aload_n 0, 1) := by decide +kernel
theorem dX2_openBlock_82 : decode cX2_openBlock 82 = .ok (.getfield 81, 3) := by decide +kernel
theorem dX2_openBlock_85 : decode cX2_openBlock 85 = .ok (.iload_n 3, 1) := by decide +kernel
theorem dX2_openBlock_86 : decode cX2_openBlock 86 = .ok (.iastore, 1) := by decide +kernel
theorem dX2_openBlock_87 : decode cX2_openBlock 87 = .ok (.aload_n 0, 1) := by decide +kernel
theorem dX2_openBlock_88 : decode cX2_openBlock 88 = .ok (.getfield 44, 3) := by decide +kernel
theorem dX2_openBlock_91 : decode cX2_openBlock 91 = .ok (.aload_n 0, 1) := by decide +kernel
theorem dX2_openBlock_92 : decode cX2_openBlock 92 = .ok (.getfield 81, 3) := by decide +kernel
theorem dX2_openBlock_95 : decode cX2_openBlock 95 = .ok (.aload_n 0, 1) := by decide +kernel
theorem dX2_openBlock_96 : decode cX2_openBlock 96 = .ok (.getfield 21, 3) := by decide +kernel
theorem dX2_openBlock_99 : decode cX2_openBlock 99 = .ok (.getfield 325, 3) := by decide +kernel
theorem dX2_openBlock_102 : decode cX2_openBlock 102 = .ok (.iastore, 1) := by decide +kernel
theorem dX2_openBlock_103 : decode cX2_openBlock 103 = .ok (.aload_n 0, 1) := by decide +kernel
theorem dX2_openBlock_104 : decode cX2_openBlock 104 = .ok (.dup, 1) := by decide +kernel
theorem dX2_openBlock_105 : decode cX2_openBlock 105 = .ok (.getfield 81, 3) := by decide +kernel
theorem dX2_openBlock_108 : decode cX2_openBlock 108 = .ok (.iconst 1, 1) := by decide +kernel
theorem dX2_openBlock_109 : decode cX2_openBlock 109 = .ok (.iadd, 1) := by decide +kernel
theorem dX2_openBlock_110 : decode cX2_openBlock 110 = .ok (.putfield 81, 3) := by decide +kernel
theorem dX2_openBlock_113 : decode cX2_openBlock 113 = .ok (.aload_n 0, 1) := by decide +kernel
theorem dX2_openBlock_114 : decode cX2_openBlock 114 = .ok (.getfield 12, 3) := by decide +kernel
theorem dX2_openBlock_117 : decode cX2_openBlock 117 = .ok (.invokevirtual 157, 3) := by decide +kernel
theorem dX2_openBlock_120 : decode cX2_openBlock 120 = .ok (.return_, 1) := by decide +kernel
theorem dX2_closeBlock_0 : decode cX2_closeBlock 0 = .ok (.aload_n 0, 1) := by decide +kernel
theorem dX2_closeBlock_1 : decode cX2_closeBlock 1 = .ok (.getfield 12, 3) := by decide +kernel
theorem dX2_closeBlock_4 : decode cX2_closeBlock 4 = .ok (.invokevirtual 157, 3) := by decide +kernel
theorem dX2_closeBlock_7 : decode cX2_closeBlock 7 = .ok (.aload_n 0, 1) := by decide +kernel
theorem dX2_closeBlock_8 : decode cX2_closeBlock 8 = .ok (.aload_n 0, 1) := by decide +kernel
theorem dX2_closeBlock_9 : decode cX2_closeBlock 9 = .ok (.getfield 81, 3) := by decide +kernel
theorem dX2_closeBlock_12 : decode cX2_closeBlock 12 = .ok (.iconst 1, 1) := by decide +kernel
theorem dX2_closeBlock_13 : decode cX2_closeBlock 13 = .ok (.isub, 1) := by decide +kernel
theorem dX2_closeBlock_14 : decode cX2_closeBlock 14 = .ok (.iconst 0, 1) := by decide +kernel
theorem dX2_closeBlock_15 : decode cX2_closeBlock 15 = .ok (.invokestatic 279, 3) := by decide +kernel
theorem dX2_closeBlock_18 : decode cX2_closeBlock 18 = .ok (.putfield 81, 3) := by decide +kernel
theorem dX2_closeBlock_21 : decode cX2_closeBlock 21 = .ok (.aload_n 0, 1) := by decide +kernel
theorem dX2_closeBlock_22 : decode cX2_closeBlock 22 = .ok (.getfield 21, 3) := by decide +kernel
theorem dX2_closeBlock_25 : decode cX2_closeBlock 25 = .ok (.aload_n 0, 1) := by decide +kernel
theorem dX2_closeBlock_26 : decode cX2_closeBlock 26 = .ok (.getfield 44, 3) := by decide +kernel
theorem dX2_closeBlock_29 : decode cX2_closeBlock 29 = .ok (.aload_n 0, 1) := by decide +kernel
theorem dX2_closeBlock_30 : decode cX2_closeBlock 30 = .ok (.getfield 81, 3) := by decide +kernel
theorem dX2_closeBlock_33 : decode cX2_closeBlock 33 = .ok (.iaload, 1) := by decide +kernel
theorem dX2_closeBlock_34 : decode cX2_closeBlock 34 = .ok (.putfield 325, 3) := by decide +kernel
theorem dX2_closeBlock_37 : decode cX2_closeBlock 37 = .ok (.aload_n 0, 1) := by decide +kernel
theorem dX2_closeBlock_38 : decode cX2_closeBlock 38 = .ok (.getfield 38, 3) := by decide +kernel
theorem dX2_closeBlock_41 : decode cX2_closeBlock 41 = .ok (.aload_n 0, 1) := by decide +kernel
theorem dX2_closeBlock_42 : decode cX2_closeBlock 42 = .ok (.getfield 81, 3) := by decide +kernel
theorem dX2_closeBlock_45 : decode cX2_closeBlock 45 = .ok (.iaload, 1) := by decide +kernel
theorem dX2_closeBlock_46 : decode cX2_closeBlock 46 = .ok (.istore_n 1, 1) := by decide +kernel
theorem dX2_closeBlock_47 : decode cX2_closeBlock 47 = .ok (.aload_n 0, 1) := by decide +kernel
theorem dX2_closeBlock_48 : decode cX2_closeBlock 48 = .ok (.getfield 34, 3) := by decide +kernel
theorem dX2_closeBlock_51 : decode cX2_closeBlock 51 = .ok (.aload_n 0, 1) := by decide +kernel
theorem dX2_closeBlock_52 : decode cX2_closeBlock 52 = .ok (.getfield 81, 3) := by decide +kernel
theorem dX2_closeBlock_55 : decode cX2_closeBlock 55 = .ok (.iaload, 1) := by decide +kernel
theorem dX2_closeBlock_56 : decode cX2_closeBlock 56 = .ok (.ifCond .ne 14, 3) := by decide +kernel
theorem dX2_closeBlock_59 : decode cX2_closeBlock 59 = .ok (.aload_n 0, 1) := by decide +kernel
theorem dX2_closeBlock_60 : decode cX2_closeBlock 60 = .ok (.getfield 51, 3) := by decide +kernel
theorem dX2_closeBlock_63 : decode cX2_closeBlock 63 = .ok (.bipush 19, 2) := by decide +kernel
theorem dX2_closeBlock_65 : decode cX2_closeBlock 65 = .ok (.iconst 0, 1) := by decide +kernel
theorem dX2_closeBlock_66 : decode cX2_closeBlock 66 = .ok (.invokevirtual 221, 3) := by decide +kernel
theorem dX2_closeBlock_69 : decode cX2_closeBlock 69 = .ok (.return_, 1) := by decide +kernel
theorem dX2_closeBlock_70 : decode cX2_closeBlock 70 = .ok (.aload_n 0, 1) := by decide +kernel
theorem dX2_closeBlock_71 : decode cX2_closeBlock 71 = .ok (.getfield 34, 3) := by decide +kernel
theorem dX2_closeBlock_74 : decode cX2_closeBlock 74 = .ok (.aload_n 0, 1) := by decide +kernel
theorem dX2_closeBlock_75 : decode cX2_closeBlock 75 = .ok (.getfield 81, 3) := by decide +kernel
theorem dX2_closeBlock_78 : decode cX2_closeBlock 78 = .ok (.iaload, 1) := by decide +kernel
theorem dX2_closeBlock_79 : decode cX2_closeBlock 79 = .ok (.iconst 3, 1) := by decide +kernel
theorem dX2_closeBlock_80 : decode cX2_closeBlock 80 = .ok (.if_icmp .ne 21, 3) := by decide +kernel
theorem dX2_closeBlock_83 : decode cX2_closeBlock 83 = .ok (.aload_n 0, 1) := by decide +kernel
theorem dX2_closeBlock_84 : decode cX2_closeBlock 84 = .ok (.getfield 51, 3) := by decide +kernel
theorem dX2_closeBlock_87 : decode cX2_closeBlock 87 = .ok (.bipush 15, 2) := by decide +kernel
theorem dX2_closeBlock_89 : decode cX2_closeBlock 89 = .ok (.aload_n 0, 1) := by decide +kernel
theorem dX2_closeBlock_90 : decode cX2_closeBlock 90 = .ok (.getfield 41, 3) := by decide +kernel
theorem dX2_closeBlock_93 : decode cX2_closeBlock 93 = .ok (.aload_n 0, 1) := by decide +kernel
theorem dX2_closeBlock_94 : decode cX2_closeBlock 94 = .ok (.getfield 81, 3) := by decide +kernel
theorem dX2_closeBlock_97 : decode cX2_closeBlock 97 = .ok (.iaload, 1) := by decide +kernel
theorem dX2_closeBlock_98 : decode cX2_closeBlock 98 = .ok (.invokevirtual 221, 3) := by decide +kernel
theorem dX2_closeBlock_101 : decode cX2_closeBlock 101 = .ok (.aload_n 0, 1) := by decide +kernel
theorem dX2_closeBlock_102 : decode cX2_closeBlock 102 = .ok (.getfield 34, 3) := by decide +kernel
theorem dX2_closeBlock_105 : decode cX2_closeBlock 105 = .ok (.aload_n 0, 1) := by decide +kernel
theorem dX2_closeBlock_106 : decode cX2_closeBlock 106 = .ok (.getfield 81, 3) := by decide +kernel
theorem dX2_closeBlock_109 : decode cX2_closeBlock 109 = .ok (.iaload, 1) := by decide +kernel
theorem dX2_closeBlock_110 : decode cX2_closeBlock 110 = .ok (.iconst 1, 1) := by decide +kernel
theorem dX2_closeBlock_111 : decode cX2_closeBlock 111 = .ok (.if_icmp .ne 19, 3) := by decide +kernel
theorem dX2_closeBlock_114 : decode cX2_closeBlock 114 = .ok (.aload_n 0, 1) := by decide +kernel
theorem dX2_closeBlock_115 : decode cX2_closeBlock 115 = .ok (.getfield 12, 3) := by decide +kernel
theorem dX2_closeBlock_118 : decode cX2_closeBlock 118 = .ok (.invokevirtual 85, 3) := by decide +kernel
theorem dX2_closeBlock_121 : decode cX2_closeBlock 121 = .ok (.bipush 24, 2) := by decide +kernel
theorem dX2_closeBlock_123 : decode cX2_closeBlock 123 = .ok (.if_icmp .ne 7, 3) := by decide +kernel
theorem dX2_closeBlock_126 : decode cX2_closeBlock 126 = .ok (.iconst 1, 1) := by decide +kernel
theorem dX2_closeBlock_127 : decode cX2_closeBlock 127 = .ok (.goto 4, 3) := by decide +kernel
theorem dX2_closeBlock_130 : decode cX2_closeBlock 130 = .ok (.iconst 0, 1) := by decide +kernel
theorem dX2_closeBlock_131 : decode cX2_closeBlock 131 = .ok (.istore_n 2, 1) := by decide +kernel
theorem dX2_closeBlock_132 : decode cX2_closeBlock 132 = .ok (.aload_n 0, 1) := by decide +kernel
theorem dX2_closeBlock_133 : decode cX2_closeBlock 133 = .ok (.getfield 51, 3) := by decide +kernel
theorem dX2_closeBlock_136 : decode cX2_closeBlock 136 = .ok (.getfield 318, 3) := by decide +kernel
theorem dX2_closeBlock_139 : decode cX2_closeBlock 139 = .ok (.istore_n 3, 1) := by decide +kernel
theorem dX2_closeBlock_140 : decode cX2_closeBlock 140 = .ok (.iload_n 2, 1) := by decide +kernel
theorem dX2_closeBlock_141 : decode cX2_closeBlock 141 = .ok (.ifCond .eq 13, 3) := by decide +kernel
theorem dX2_closeBlock_144 : decode cX2_closeBlock 144 = .ok (.aload_n 0, 1) := by decide +kernel
theorem dX2_closeBlock_145 : decode cX2_closeBlock 145 = .ok (.getfield 51, 3) := by decide +kernel
theorem dX2_closeBlock_148 : decode cX2_closeBlock 148 = .ok (.bipush 15, 2) := by decide +kernel
theorem dX2_closeBlock_150 : decode cX2_closeBlock 150 = .ok (.iconst 0, 1) := by decide +kernel
theorem dX2_closeBlock_151 : decode cX2_closeBlock 151 = .ok (.invokevirtual 221, 3) := by decide +kernel
theorem dX2_closeBlock_154 : decode cX2_closeBlock 154 = .ok (.aload_n 0, 1) := by decide +kernel
theorem dX2_closeBlock_155 : decode cX2_closeBlock 155 = .ok (.getfield 51, 3) := by decide +kernel
theorem dX2_closeBlock_158 : decode cX2_closeBlock 158 = .ok (.iload_n 1, 1) := by decide +kernel
theorem dX2_closeBlock_159 : decode cX2_closeBlock 159 = .ok (.invokevirtual 328, 3) := by decide +kernel
theorem dX2_closeBlock_162 : decode cX2_closeBlock 162 = .ok (.iload_n 2, 1) := by decide +kernel
theorem dX2_closeBlock_163 : decode cX2_closeBlock 163 = .ok (.ifCond .eq 17, 3) := by decide +kernel
theorem dX2_closeBlock_166 : decode cX2_closeBlock 166 = .ok (.aload_n 0, 1) := by decide +kernel
theorem dX2_closeBlock_167 : decode cX2_closeBlock 167 = .ok (.getfield 12, 3) := by decide +kernel
theorem dX2_closeBlock_170 : decode cX2_closeBlock 170 = .ok (.invokevirtual 157, 3) := by decide +kernel
theorem dX2_closeBlock_173 : decode cX2_closeBlock 173 = .ok (.aload_n 0, 1) := by decide +kernel
theorem dX2_closeBlock_174 : decode cX2_closeBlock 174 = .ok (.iconst 2, 1) := by decide +kernel
theorem dX2_closeBlock_175 : decode cX2_closeBlock 175 = .ok (.iload_n 3, 1) := by decide +kernel
theorem dX2_closeBlock_176 : decode cX2_closeBlock 176 = .ok (.iconst (-1), 1) := by decide +kernel
theorem dX2_closeBlock_177 : decode cX2_closeBlock 177 = .ok (.invokevirtual 321, 3) := by decide +kernel
theorem dX2_closeBlock_180 : decode cX2_closeBlock 180 = .ok (.return_, 1) := by decide +kernel
theorem dX2_startsStatement_0 : decode cX2_startsStatement 0 = .ok (.iload_n 0, 1) := by decide +kernel
theorem dX2_startsStatement_1 : decode cX2_startsStatement 1 = .ok (.iconst 3, 1) := by decide +kernel
theorem dX2_startsStatement_2 : decode cX2_startsStatement 2 = .ok (.if_icmp .eq 27, 3) := by decide +kernel
theorem dX2_startsStatement_5 : decode cX2_startsStatement 5 = .ok (.iload_n 0, 1) := by decide +kernel
theorem dX2_startsStatement_6 : decode cX2_startsStatement 6 = .ok (.bipush 11, 2) := by decide +kernel
theorem dX2_startsStatement_8 : decode cX2_startsStatement 8 = .ok (.if_icmp .eq 21, 3) := by decide +kernel
theorem dX2_startsStatement_11 : decode cX2_startsStatement 11 = .ok (.iload_n 0, 1) := by decide +kernel
theorem dX2_startsStatement_12 : decode cX2_startsStatement 12 = .ok (.bipush 22, 2) := by decide +kernel
theorem dX2_startsStatement_14 : decode cX2_startsStatement 14 = .ok (.if_icmp .lt 19, 3) := by decide +kernel
theorem dX2_startsStatement_17 : decode cX2_startsStatement 17 = .ok (.iload_n 0, 1) := by decide +kernel
theorem dX2_startsStatement_18 : decode cX2_startsStatement 18 = .ok (.bipush 27, 2) := by decide +kernel
theorem dX2_startsStatement_20 : decode cX2_startsStatement 20 = .ok (.if_icmp .gt 13, 3) := by decide +kernel
theorem dX2_startsStatement_23 : decode cX2_startsStatement 23 = .ok (.iload_n 0, 1) := by decide +kernel
theorem dX2_startsStatement_24 : decode cX2_startsStatement 24 = .ok (.bipush 24, 2) := by decide +kernel
theorem dX2_startsStatement_26 : decode cX2_startsStatement 26 = .ok (.if_icmp .eq 7, 3) := by decide +kernel
theorem dX2_startsStatement_29 : decode cX2_startsStatement 29 = .ok (.iconst 1, 1) := by decide +kernel
theorem dX2_startsStatement_30 : decode cX2_startsStatement 30 = .ok (.goto 4, 3) := by decide +kernel
theorem dX2_startsStatement_33 : decode cX2_startsStatement 33 = .ok (.iconst 0, 1) := by decide +kernel
theorem dX2_startsStatement_34 : decode cX2_startsStatement 34 = .ok (.ireturn, 1) := by decide +kernel
theorem dX2_readStatement_0 : decode cX2_readStatement 0 = .ok (.aload_n 0, 1) := by decide +kernel
theorem dX2_readStatement_1 : decode cX2_readStatement 1 = .ok (.getfield 12, 3) := by decide +kernel
theorem dX2_readStatement_4 : decode cX2_readStatement 4 = .ok (.invokevirtual 85, 3) := by decide +kernel
theorem dX2_readStatement_7 : decode cX2_readStatement 7 = .ok (.istore_n 1, 1) := by decide +kernel
theorem dX2_readStatement_8 : decode cX2_readStatement 8 = .ok (.iload_n 1, 1) := by decide +kernel
theorem dX2_readStatement_9 : decode cX2_readStatement 9 = .ok (.bipush 125, 2) := by decide +kernel
theorem dX2_readStatement_11 : decode cX2_readStatement 11 = .ok (.if_icmp .ne 8, 3) := by decide +kernel
theorem dX2_readStatement_14 : decode cX2_readStatement 14 = .ok (.aload_n 0, 1) := by decide +kernel
theorem dX2_readStatement_15 : decode cX2_readStatement 15 = .ok (.invokevirtual 331, 3) := by decide +kernel
theorem dX2_readStatement_18 : decode cX2_readStatement 18 = .ok (.return_, 1) := by decide +kernel
theorem dX2_readStatement_19 : decode cX2_readStatement 19 = .ok (.iload_n 1, 1) := by decide +kernel
theorem dX2_readStatement_20 : decode cX2_readStatement 20 = .ok (.invokestatic 334, 3) := by decide +kernel
theorem dX2_readStatement_23 : decode cX2_readStatement 23 = .ok (.ifCond .ne 21, 3) := by decide +kernel
theorem dX2_readStatement_26 : decode cX2_readStatement 26 = .ok (.aload_n 0, 1) := by decide +kernel
theorem dX2_readStatement_27 : decode cX2_readStatement 27 = .ok (.getfield 12, 3) := by decide +kernel
theorem dX2_readStatement_30 : decode cX2_readStatement 30 = .ok (.iconst 1, 1) := by decide +kernel
theorem dX2_readStatement_31 : decode cX2_readStatement 31 = .ok (.aload_n 0, 1) := by decide +kernel
theorem dX2_readStatement_32 : decode cX2_readStatement 32 = .ok (.getfield 12, 3) := by decide +kernel
theorem dX2_readStatement_35 : decode cX2_readStatement 35 = .ok (.invokevirtual 129, 3) := by decide +kernel
theorem dX2_readStatement_38 : decode cX2_readStatement 38 = .ok (.invokevirtual 136, 3) := by decide +kernel
theorem dX2_readStatement_41 : decode cX2_readStatement 41 = .ok (.goto 19, 3) := by decide +kernel
theorem dX2_readStatement_44 : decode cX2_readStatement 44 = .ok (.aload_n 0, 1) := by decide +kernel
theorem dX2_readStatement_45 : decode cX2_readStatement 45 = .ok (.getfield 72, 3) := by decide +kernel
theorem dX2_readStatement_48 : decode cX2_readStatement 48 = .ok (.getfield 274, 3) := by decide +kernel
theorem dX2_readStatement_51 : decode cX2_readStatement 51 = .ok (.bipush 40, 2) := by decide +kernel
theorem dX2_readStatement_53 : decode cX2_readStatement 53 = .ok (.if_icmp .lt 7, 3) := by decide +kernel
theorem dX2_readStatement_56 : decode cX2_readStatement 56 = .ok (.aload_n 0, 1) := by decide +kernel
theorem dX2_readStatement_57 : decode cX2_readStatement 57 = .ok (.invokevirtual 338, 3) := by decide +kernel
theorem dX2_readStatement_60 : decode cX2_readStatement 60 = .ok (.aload_n 0, 1) := by decide +kernel
theorem dX2_readStatement_61 : decode cX2_readStatement 61 = .ok (.getfield 72, 3) := by decide +kernel
theorem dX2_readStatement_64 : decode cX2_readStatement 64 = .ok (.dup, 1) := by decide +kernel
theorem dX2_readStatement_65 : decode cX2_readStatement 65 = .ok (.getfield 274, 3) := by decide +kernel
theorem dX2_readStatement_68 : decode cX2_readStatement 68 = .ok (.iconst 1, 1) := by decide +kernel
theorem dX2_readStatement_69 : decode cX2_readStatement 69 = .ok (.iadd, 1) := by decide +kernel
theorem dX2_readStatement_70 : decode cX2_readStatement 70 = .ok (.putfield 274, 3) := by decide +kernel
theorem dX2_readStatement_73 : decode cX2_readStatement 73 = .ok (.aload_n 0, 1) := by decide +kernel
theorem dX2_readStatement_74 : decode cX2_readStatement 74 = .ok (.getfield 51, 3) := by decide +kernel
theorem dX2_readStatement_77 : decode cX2_readStatement 77 = .ok (.bipush 12, 2) := by decide +kernel
theorem dX2_readStatement_79 : decode cX2_readStatement 79 = .ok (.aload_n 0, 1) := by decide +kernel
theorem dX2_readStatement_80 : decode cX2_readStatement 80 = .ok (.getfield 51, 3) := by decide +kernel
theorem dX2_readStatement_83 : decode cX2_readStatement 83 = .ok (.invokevirtual 341, 3) := by decide +kernel
theorem dX2_readStatement_86 : decode cX2_readStatement 86 = .ok (.invokevirtual 221, 3) := by decide +kernel
theorem dX2_readStatement_89 : decode cX2_readStatement 89 = .ok (.iload_n 1, 1) := by decide +kernel
theorem dX2_readStatement_90 : decode cX2_readStatement 90 = .ok (.tableswitch 67 22 27 #[38, 45, 67, 45, 53, 60], 38) := by decide +kernel
theorem dX2_readStatement_128 : decode cX2_readStatement 128 = .ok (.aload_n 0, 1) := by decide +kernel
theorem dX2_readStatement_129 : decode cX2_readStatement 129 = .ok (.invokevirtual 344, 3) := by decide +kernel
theorem dX2_readStatement_132 : decode cX2_readStatement 132 = .ok (.goto 59, 3) := by decide +kernel
theorem dX2_readStatement_135 : decode cX2_readStatement 135 = .ok (.aload_n 0, 1) := by decide +kernel
theorem dX2_readStatement_136 : decode cX2_readStatement 136 = .ok (.iload_n 1, 1) := by decide +kernel
theorem dX2_readStatement_137 : decode cX2_readStatement 137 = .ok (.invokevirtual 347, 3) := by decide +kernel
theorem dX2_readStatement_140 : decode cX2_readStatement 140 = .ok (.goto 51, 3) := by decide +kernel
theorem dX2_readStatement_143 : decode cX2_readStatement 143 = .ok (.aload_n 0, 1) := by decide +kernel
theorem dX2_readStatement_144 : decode cX2_readStatement 144 = .ok (.invokevirtual 350, 3) := by decide +kernel
theorem dX2_readStatement_147 : decode cX2_readStatement 147 = .ok (.goto 44, 3) := by decide +kernel
theorem dX2_readStatement_150 : decode cX2_readStatement 150 = .ok (.aload_n 0, 1) := by decide +kernel
theorem dX2_readStatement_151 : decode cX2_readStatement 151 = .ok (.invokevirtual 353, 3) := by decide +kernel
theorem dX2_readStatement_154 : decode cX2_readStatement 154 = .ok (.goto 37, 3) := by decide +kernel
theorem dX2_readStatement_157 : decode cX2_readStatement 157 = .ok (.iload_n 1, 1) := by decide +kernel
theorem dX2_readStatement_158 : decode cX2_readStatement 158 = .ok (.bipush 11, 2) := by decide +kernel
theorem dX2_readStatement_160 : decode cX2_readStatement 160 = .ok (.if_icmp .ne 13, 3) := by decide +kernel
theorem dX2_readStatement_163 : decode cX2_readStatement 163 = .ok (.aload_n 0, 1) := by decide +kernel
theorem dX2_readStatement_164 : decode cX2_readStatement 164 = .ok (.invokevirtual 356, 3) := by decide +kernel
theorem dX2_readStatement_167 : decode cX2_readStatement 167 = .ok (.ifCond .eq 20, 3) := by decide +kernel
theorem dX2_readStatement_170 : decode cX2_readStatement 170 = .ok (.goto 10, 3) := by decide +kernel
theorem dX2_readStatement_173 : decode cX2_readStatement 173 = .ok (.aload_n 0, 1) := by decide +kernel
theorem dX2_readStatement_174 : decode cX2_readStatement 174 = .ok (.invokevirtual 359, 3) := by decide +kernel
theorem dX2_readStatement_177 : decode cX2_readStatement 177 = .ok (.ifCond .eq 10, 3) := by decide +kernel
theorem dX2_readStatement_180 : decode cX2_readStatement 180 = .ok (.aload_n 0, 1) := by decide +kernel
theorem dX2_readStatement_181 : decode cX2_readStatement 181 = .ok (.invokevirtual 362, 3) := by decide +kernel
theorem dX2_readStatement_184 : decode cX2_readStatement 184 = .ok (.goto 7, 3) := by decide +kernel
theorem dX2_readStatement_187 : decode cX2_readStatement 187 = .ok (.aload_n 0, 1) := by decide +kernel
theorem dX2_readStatement_188 : decode cX2_readStatement 188 = .ok (.invokevirtual 365, 3) := by decide +kernel
theorem dX2_readStatement_191 : decode cX2_readStatement 191 = .ok (.return_, 1) := by decide +kernel
theorem dX2_refuseStatement_0 : decode cX2_refuseStatement 0 = .ok (.aload_n 0, 1) := by decide +kernel
theorem dX2_refuseStatement_1 : decode cX2_refuseStatement 1 = .ok (.getfield 12, 3) := by decide +kernel
theorem dX2_refuseStatement_4 : decode cX2_refuseStatement 4 = .ok (.invokevirtual 129, 3) := by decide +kernel
theorem dX2_refuseStatement_7 : decode cX2_refuseStatement 7 = .ok (.istore_n 1, 1) := by decide +kernel
theorem dX2_refuseStatement_8 : decode cX2_refuseStatement 8 = .ok (.aload_n 0, 1) := by decide +kernel
theorem dX2_refuseStatement_9 : decode cX2_refuseStatement 9 = .ok (.getfield 12, 3) := by decide +kernel
theorem dX2_refuseStatement_12 : decode cX2_refuseStatement 12 = .ok (.invokevirtual 85, 3) := by decide +kernel
theorem dX2_refuseStatement_15 : decode cX2_refuseStatement 15 = .ok (.iconst 3, 1) := by decide +kernel
theorem dX2_refuseStatement_16 : decode cX2_refuseStatement 16 = .ok (.if_icmp .ne 75, 3) := by decide +kernel
theorem dX2_refuseStatement_19 : decode cX2_refuseStatement 19 = .ok (.aload_n 0, 1) := by decide +kernel
theorem dX2_refuseStatement_20 : decode cX2_refuseStatement 20 = .ok (.getfield 12, 3) := by decide +kernel
theorem dX2_refuseStatement_23 : decode cX2_refuseStatement 23 = .ok (.invokevirtual 132, 3) := by decide +kernel
theorem dX2_refuseStatement_26 : decode cX2_refuseStatement 26 = .ok (.lstore_n 2, 1) := by decide +kernel
theorem dX2_refuseStatement_27 : decode cX2_refuseStatement 27 = .ok (.aload_n 0, 1) := by decide +kernel
theorem dX2_refuseStatement_28 : decode cX2_refuseStatement 28 = .ok (.getfield 12, 3) := by decide +kernel
theorem dX2_refuseStatement_31 : decode cX2_refuseStatement 31 = .ok (.invokevirtual 157, 3) := by decide +kernel
theorem dX2_refuseStatement_34 : decode cX2_refuseStatement 34 = .ok (.aload_n 0, 1) := by decide +kernel
theorem dX2_refuseStatement_35 : decode cX2_refuseStatement 35 = .ok (.getfield 12, 3) := by decide +kernel
theorem dX2_refuseStatement_38 : decode cX2_refuseStatement 38 = .ok (.invokevirtual 368, 3) := by decide +kernel
theorem dX2_refuseStatement_41 : decode cX2_refuseStatement 41 = .ok (.ifCond .eq 18, 3) := by decide +kernel
theorem dX2_refuseStatement_44 : decode cX2_refuseStatement 44 = .ok (.aload_n 0, 1) := by decide +kernel
theorem dX2_refuseStatement_45 : decode cX2_refuseStatement 45 = .ok (.getfield 51, 3) := by decide +kernel
theorem dX2_refuseStatement_48 : decode cX2_refuseStatement 48 = .ok (.aload_n 0, 1) := by decide +kernel
theorem dX2_refuseStatement_49 : decode cX2_refuseStatement 49 = .ok (.getfield 64, 3) := by decide +kernel
theorem dX2_refuseStatement_52 : decode cX2_refuseStatement 52 = .ok (.lload_n 2, 1) := by decide +kernel
theorem dX2_refuseStatement_53 : decode cX2_refuseStatement 53 = .ok (.invokevirtual 224, 3) := by decide +kernel
theorem dX2_refuseStatement_56 : decode cX2_refuseStatement 56 = .ok (.goto 11, 3) := by decide +kernel
theorem dX2_refuseStatement_59 : decode cX2_refuseStatement 59 = .ok (.aload_n 0, 1) := by decide +kernel
theorem dX2_refuseStatement_60 : decode cX2_refuseStatement 60 = .ok (.getfield 21, 3) := by decide +kernel
theorem dX2_refuseStatement_63 : decode cX2_refuseStatement 63 = .ok (.lload_n 2, 1) := by decide +kernel
theorem dX2_refuseStatement_64 : decode cX2_refuseStatement 64 = .ok (.invokevirtual 285, 3) := by decide +kernel
theorem dX2_refuseStatement_67 : decode cX2_refuseStatement 67 = .ok (.istore 4, 2) := by decide +kernel
theorem dX2_refuseStatement_69 : decode cX2_refuseStatement 69 = .ok (.aload_n 0, 1) := by decide +kernel
theorem dX2_refuseStatement_70 : decode cX2_refuseStatement 70 = .ok (.getfield 12, 3) := by decide +kernel
theorem dX2_refuseStatement_73 : decode cX2_refuseStatement 73 = .ok (.iload 4, 2) := by decide +kernel
theorem dX2_refuseStatement_75 : decode cX2_refuseStatement 75 = .ok (.iconst (-1), 1) := by decide +kernel
theorem dX2_refuseStatement_76 : decode cX2_refuseStatement 76 = .ok (.if_icmp .ne 7, 3) := by decide +kernel
theorem dX2_refuseStatement_79 : decode cX2_refuseStatement 79 = .ok (.iconst 2, 1) := by decide +kernel
theorem dX2_refuseStatement_80 : decode cX2_refuseStatement 80 = .ok (.goto 4, 3) := by decide +kernel
theorem dX2_refuseStatement_83 : decode cX2_refuseStatement 83 = .ok (.iconst 4, 1) := by decide +kernel
theorem dX2_refuseStatement_84 : decode cX2_refuseStatement 84 = .ok (.iload_n 1, 1) := by decide +kernel
theorem dX2_refuseStatement_85 : decode cX2_refuseStatement 85 = .ok (.invokevirtual 136, 3) := by decide +kernel
theorem dX2_refuseStatement_88 : decode cX2_refuseStatement 88 = .ok (.goto 12, 3) := by decide +kernel
theorem dX2_refuseStatement_91 : decode cX2_refuseStatement 91 = .ok (.aload_n 0, 1) := by decide +kernel
theorem dX2_refuseStatement_92 : decode cX2_refuseStatement 92 = .ok (.getfield 12, 3) := by decide +kernel
theorem dX2_refuseStatement_95 : decode cX2_refuseStatement 95 = .ok (.iconst 4, 1) := by decide +kernel
theorem dX2_refuseStatement_96 : decode cX2_refuseStatement 96 = .ok (.iload_n 1, 1) := by decide +kernel
theorem dX2_refuseStatement_97 : decode cX2_refuseStatement 97 = .ok (.invokevirtual 136, 3) := by decide +kernel
theorem dX2_refuseStatement_100 : decode cX2_refuseStatement 100 = .ok (.return_, 1) := by decide +kernel
theorem dX2_readLet_0 : decode cX2_readLet 0 = .ok (.aload_n 0, 1) := by decide +kernel
theorem dX2_readLet_1 : decode cX2_readLet 1 = .ok (.getfield 12, 3) := by decide +kernel
theorem dX2_readLet_4 : decode cX2_readLet 4 = .ok (.invokevirtual 157, 3) := by decide +kernel
theorem dX2_readLet_7 : decode cX2_readLet 7 = .ok (.aload_n 0, 1) := by decide +kernel
theorem dX2_readLet_8 : decode cX2_readLet 8 = .ok (.getfield 12, 3) := by decide +kernel
theorem dX2_readLet_11 : decode cX2_readLet 11 = .ok (.invokevirtual 129, 3) := by decide +kernel
theorem dX2_readLet_14 : decode cX2_readLet 14 = .ok (.istore_n 1, 1) := by decide +kernel
theorem dX2_readLet_15 : decode cX2_readLet 15 = .ok (.aload_n 0, 1) := by decide +kernel
theorem dX2_readLet_16 : decode cX2_readLet 16 = .ok (.getfield 12, 3) := by decide +kernel
theorem dX2_readLet_19 : decode cX2_readLet 19 = .ok (.invokevirtual 132, 3) := by decide +kernel
theorem dX2_readLet_22 : decode cX2_readLet 22 = .ok (.lstore_n 2, 1) := by decide +kernel
theorem dX2_readLet_23 : decode cX2_readLet 23 = .ok (.aload_n 0, 1) := by decide +kernel
theorem dX2_readLet_24 : decode cX2_readLet 24 = .ok (.getfield 21, 3) := by decide +kernel
theorem dX2_readLet_27 : decode cX2_readLet 27 = .ok (.getfield 325, 3) := by decide +kernel
theorem dX2_readLet_30 : decode cX2_readLet 30 = .ok (.istore 4, 2) := by decide +kernel
theorem dX2_readLet_32 : decode cX2_readLet 32 = .ok (.aload_n 0, 1) := by decide +kernel
theorem dX2_readLet_33 : decode cX2_readLet 33 = .ok (.getfield 12, 3) := by decide +kernel
theorem dX2_readLet_36 : decode cX2_readLet 36 = .ok (.invokevirtual 85, 3) := by decide +kernel
theorem dX2_readLet_39 : decode cX2_readLet 39 = .ok (.iconst 3, 1) := by decide +kernel
theorem dX2_readLet_40 : decode cX2_readLet 40 = .ok (.if_icmp .eq 15, 3) := by decide +kernel
theorem dX2_readLet_43 : decode cX2_readLet 43 = .ok (.aload_n 0, 1) := by decide +kernel
theorem dX2_readLet_44 : decode cX2_readLet 44 = .ok (.getfield 12, 3) := by decide +kernel
theorem dX2_readLet_47 : decode cX2_readLet 47 = .ok (.iconst 1, 1) := by decide +kernel
theorem dX2_readLet_48 : decode cX2_readLet 48 = .ok (.iload_n 1, 1) := by decide +kernel
theorem dX2_readLet_49 : decode cX2_readLet 49 = .ok (.invokevirtual 136, 3) := by decide +kernel
theorem dX2_readLet_52 : decode cX2_readLet 52 = .ok (.goto 68, 3) := by decide +kernel
theorem dX2_readLet_55 : decode cX2_readLet 55 = .ok (.aload_n 0, 1) := by decide +kernel
theorem dX2_readLet_56 : decode cX2_readLet 56 = .ok (.getfield 21, 3) := by decide +kernel
theorem dX2_readLet_59 : decode cX2_readLet 59 = .ok (.lload_n 2, 1) := by decide +kernel
theorem dX2_readLet_60 : decode cX2_readLet 60 = .ok (.invokevirtual 285, 3) := by decide +kernel
theorem dX2_readLet_63 : decode cX2_readLet 63 = .ok (.iconst (-1), 1) := by decide +kernel
theorem dX2_readLet_64 : decode cX2_readLet 64 = .ok (.if_icmp .eq 15, 3) := by decide +kernel
theorem dX2_readLet_67 : decode cX2_readLet 67 = .ok (.aload_n 0, 1) := by decide +kernel
theorem dX2_readLet_68 : decode cX2_readLet 68 = .ok (.getfield 12, 3) := by decide +kernel
theorem dX2_readLet_71 : decode cX2_readLet 71 = .ok (.iconst 2, 1) := by decide +kernel
theorem dX2_readLet_72 : decode cX2_readLet 72 = .ok (.iload_n 1, 1) := by decide +kernel
theorem dX2_readLet_73 : decode cX2_readLet 73 = .ok (.invokevirtual 136, 3) := by decide +kernel
theorem dX2_readLet_76 : decode cX2_readLet 76 = .ok (.goto 44, 3) := by decide +kernel
theorem dX2_readLet_79 : decode cX2_readLet 79 = .ok (.iload 4, 2) := by decide +kernel
theorem dX2_readLet_81 : decode cX2_readLet 81 = .ok (.bipush 8, 2) := by decide +kernel
theorem dX2_readLet_83 : decode cX2_readLet 83 = .ok (.if_icmp .lt 15, 3) := by decide +kernel
theorem dX2_readLet_86 : decode cX2_readLet 86 = .ok (.aload_n 0, 1) := by decide +kernel
theorem dX2_readLet_87 : decode cX2_readLet 87 = .ok (.getfield 12, 3) := by decide +kernel
theorem dX2_readLet_90 : decode cX2_readLet 90 = .ok (.iconst 4, 1) := by decide +kernel
theorem dX2_readLet_91 : decode cX2_readLet 91 = .ok (.iload_n 1, 1) := by decide +kernel
theorem dX2_readLet_92 : decode cX2_readLet 92 = .ok (.invokevirtual 136, 3) := by decide +kernel
theorem dX2_readLet_95 : decode cX2_readLet 95 = .ok (.goto 25, 3) := by decide +kernel
theorem dX2_readLet_98 : decode cX2_readLet 98 = .ok (.aload_n 0, 1) := by decide +kernel
theorem dX2_readLet_99 : decode cX2_readLet 99 = .ok (.getfield 21, 3) := by decide +kernel
theorem dX2_readLet_102 : decode cX2_readLet 102 = .ok (.getfield 371, 3) := by decide +kernel
theorem dX2_readLet_105 : decode cX2_readLet 105 = .ok (.iload 4, 2) := by decide +kernel
theorem dX2_readLet_107 : decode cX2_readLet 107 = .ok (.lload_n 2, 1) := by decide +kernel
theorem dX2_readLet_108 : decode cX2_readLet 108 = .ok (.lastore, 1) := by decide +kernel
theorem dX2_readLet_109 : decode cX2_readLet 109 = .ok (.aload_n 0, 1) := by decide +kernel
theorem dX2_readLet_110 : decode cX2_readLet 110 = .ok (.getfield 21, 3) := by decide +kernel
theorem dX2_readLet_113 : decode cX2_readLet 113 = .ok (.iload 4, 2) := by decide +kernel
theorem dX2_readLet_115 : decode cX2_readLet 115 = .ok (.iconst 1, 1) := by decide +kernel
theorem dX2_readLet_116 : decode cX2_readLet 116 = .ok (.iadd, 1) := by decide +kernel
theorem dX2_readLet_117 : decode cX2_readLet 117 = .ok (.putfield 325, 3) := by decide +kernel
theorem dX2_readLet_120 : decode cX2_readLet 120 = .ok (.aload_n 0, 1) := by decide +kernel
theorem dX2_readLet_121 : decode cX2_readLet 121 = .ok (.getfield 12, 3) := by decide +kernel
theorem dX2_readLet_124 : decode cX2_readLet 124 = .ok (.invokevirtual 157, 3) := by decide +kernel
theorem dX2_readLet_127 : decode cX2_readLet 127 = .ok (.aload_n 0, 1) := by decide +kernel
theorem dX2_readLet_128 : decode cX2_readLet 128 = .ok (.getfield 12, 3) := by decide +kernel
theorem dX2_readLet_131 : decode cX2_readLet 131 = .ok (.bipush 61, 2) := by decide +kernel
theorem dX2_readLet_133 : decode cX2_readLet 133 = .ok (.invokevirtual 89, 3) := by decide +kernel
theorem dX2_readLet_136 : decode cX2_readLet 136 = .ok (.aload_n 0, 1) := by decide +kernel
theorem dX2_readLet_137 : decode cX2_readLet 137 = .ok (.getfield 51, 3) := by decide +kernel
theorem dX2_readLet_140 : decode cX2_readLet 140 = .ok (.bipush 14, 2) := by decide +kernel
theorem dX2_readLet_142 : decode cX2_readLet 142 = .ok (.iconst 3, 1) := by decide +kernel
theorem dX2_readLet_143 : decode cX2_readLet 143 = .ok (.iload 4, 2) := by decide +kernel
theorem dX2_readLet_145 : decode cX2_readLet 145 = .ok (.iadd, 1) := by decide +kernel
theorem dX2_readLet_146 : decode cX2_readLet 146 = .ok (.invokevirtual 221, 3) := by decide +kernel
theorem dX2_readLet_149 : decode cX2_readLet 149 = .ok (.aload_n 0, 1) := by decide +kernel
theorem dX2_readLet_150 : decode cX2_readLet 150 = .ok (.getfield 30, 3) := by decide +kernel
theorem dX2_readLet_153 : decode cX2_readLet 153 = .ok (.invokevirtual 216, 3) := by decide +kernel
theorem dX2_readLet_156 : decode cX2_readLet 156 = .ok (.aload_n 0, 1) := by decide +kernel
theorem dX2_readLet_157 : decode cX2_readLet 157 = .ok (.getfield 51, 3) := by decide +kernel
theorem dX2_readLet_160 : decode cX2_readLet 160 = .ok (.bipush 20, 2) := by decide +kernel
theorem dX2_readLet_162 : decode cX2_readLet 162 = .ok (.iconst 3, 1) := by decide +kernel
theorem dX2_readLet_163 : decode cX2_readLet 163 = .ok (.iload 4, 2) := by decide +kernel
theorem dX2_readLet_165 : decode cX2_readLet 165 = .ok (.iadd, 1) := by decide +kernel
theorem dX2_readLet_166 : decode cX2_readLet 166 = .ok (.invokevirtual 221, 3) := by decide +kernel
theorem dX2_readLet_169 : decode cX2_readLet 169 = .ok (.aload_n 0, 1) := by decide +kernel
theorem dX2_readLet_170 : decode cX2_readLet 170 = .ok (.getfield 12, 3) := by decide +kernel
theorem dX2_readLet_173 : decode cX2_readLet 173 = .ok (.bipush 59, 2) := by decide +kernel
theorem dX2_readLet_175 : decode cX2_readLet 175 = .ok (.invokevirtual 89, 3) := by decide +kernel
theorem dX2_readLet_178 : decode cX2_readLet 178 = .ok (.return_, 1) := by decide +kernel
theorem dX2_readTest_0 : decode cX2_readTest 0 = .ok (.aload_n 0, 1) := by decide +kernel
theorem dX2_readTest_1 : decode cX2_readTest 1 = .ok (.getfield 12, 3) := by decide +kernel
theorem dX2_readTest_4 : decode cX2_readTest 4 = .ok (.invokevirtual 157, 3) := by decide +kernel
theorem dX2_readTest_7 : decode cX2_readTest 7 = .ok (.aload_n 0, 1) := by decide +kernel
theorem dX2_readTest_8 : decode cX2_readTest 8 = .ok (.getfield 51, 3) := by decide +kernel
theorem dX2_readTest_11 : decode cX2_readTest 11 = .ok (.getfield 318, 3) := by decide +kernel
theorem dX2_readTest_14 : decode cX2_readTest 14 = .ok (.istore_n 2, 1) := by decide +kernel
theorem dX2_readTest_15 : decode cX2_readTest 15 = .ok (.iload_n 1, 1) := by decide +kernel
theorem dX2_readTest_16 : decode cX2_readTest 16 = .ok (.bipush 25, 2) := by decide +kernel
theorem dX2_readTest_18 : decode cX2_readTest 18 = .ok (.if_icmp .ne 13, 3) := by decide +kernel
theorem dX2_readTest_21 : decode cX2_readTest 21 = .ok (.aload_n 0, 1) := by decide +kernel
theorem dX2_readTest_22 : decode cX2_readTest 22 = .ok (.getfield 51, 3) := by decide +kernel
theorem dX2_readTest_25 : decode cX2_readTest 25 = .ok (.bipush 13, 2) := by decide +kernel
theorem dX2_readTest_27 : decode cX2_readTest 27 = .ok (.iconst 0, 1) := by decide +kernel
theorem dX2_readTest_28 : decode cX2_readTest 28 = .ok (.invokevirtual 221, 3) := by decide +kernel
theorem dX2_readTest_31 : decode cX2_readTest 31 = .ok (.aload_n 0, 1) := by decide +kernel
theorem dX2_readTest_32 : decode cX2_readTest 32 = .ok (.getfield 30, 3) := by decide +kernel
theorem dX2_readTest_35 : decode cX2_readTest 35 = .ok (.invokevirtual 216, 3) := by decide +kernel
theorem dX2_readTest_38 : decode cX2_readTest 38 = .ok (.aload_n 0, 1) := by decide +kernel
theorem dX2_readTest_39 : decode cX2_readTest 39 = .ok (.getfield 51, 3) := by decide +kernel
theorem dX2_readTest_42 : decode cX2_readTest 42 = .ok (.getfield 318, 3) := by decide +kernel
theorem dX2_readTest_45 : decode cX2_readTest 45 = .ok (.istore_n 3, 1) := by decide +kernel
theorem dX2_readTest_46 : decode cX2_readTest 46 = .ok (.aload_n 0, 1) := by decide +kernel
theorem dX2_readTest_47 : decode cX2_readTest 47 = .ok (.getfield 51, 3) := by decide +kernel
theorem dX2_readTest_50 : decode cX2_readTest 50 = .ok (.bipush 23, 2) := by decide +kernel
theorem dX2_readTest_52 : decode cX2_readTest 52 = .ok (.iconst 0, 1) := by decide +kernel
theorem dX2_readTest_53 : decode cX2_readTest 53 = .ok (.invokevirtual 221, 3) := by decide +kernel
theorem dX2_readTest_56 : decode cX2_readTest 56 = .ok (.aload_n 0, 1) := by decide +kernel
theorem dX2_readTest_57 : decode cX2_readTest 57 = .ok (.iload_n 1, 1) := by decide +kernel
theorem dX2_readTest_58 : decode cX2_readTest 58 = .ok (.bipush 25, 2) := by decide +kernel
theorem dX2_readTest_60 : decode cX2_readTest 60 = .ok (.if_icmp .ne 7, 3) := by decide +kernel
theorem dX2_readTest_63 : decode cX2_readTest 63 = .ok (.iconst 3, 1) := by decide +kernel
theorem dX2_readTest_64 : decode cX2_readTest 64 = .ok (.goto 4, 3) := by decide +kernel
theorem dX2_readTest_67 : decode cX2_readTest 67 = .ok (.iconst 1, 1) := by decide +kernel
theorem dX2_readTest_68 : decode cX2_readTest 68 = .ok (.iload_n 3, 1) := by decide +kernel
theorem dX2_readTest_69 : decode cX2_readTest 69 = .ok (.iload_n 2, 1) := by decide +kernel
theorem dX2_readTest_70 : decode cX2_readTest 70 = .ok (.invokevirtual 321, 3) := by decide +kernel
theorem dX2_readTest_73 : decode cX2_readTest 73 = .ok (.return_, 1) := by decide +kernel
theorem dX2_readReturn_0 : decode cX2_readReturn 0 = .ok (.aload_n 0, 1) := by decide +kernel
theorem dX2_readReturn_1 : decode cX2_readReturn 1 = .ok (.getfield 12, 3) := by decide +kernel
theorem dX2_readReturn_4 : decode cX2_readReturn 4 = .ok (.invokevirtual 157, 3) := by decide +kernel
theorem dX2_readReturn_7 : decode cX2_readReturn 7 = .ok (.aload_n 0, 1) := by decide +kernel
theorem dX2_readReturn_8 : decode cX2_readReturn 8 = .ok (.getfield 30, 3) := by decide +kernel
theorem dX2_readReturn_11 : decode cX2_readReturn 11 = .ok (.invokevirtual 216, 3) := by decide +kernel
theorem dX2_readReturn_14 : decode cX2_readReturn 14 = .ok (.aload_n 0, 1) := by decide +kernel
theorem dX2_readReturn_15 : decode cX2_readReturn 15 = .ok (.getfield 51, 3) := by decide +kernel
theorem dX2_readReturn_18 : decode cX2_readReturn 18 = .ok (.bipush 26, 2) := by decide +kernel
theorem dX2_readReturn_20 : decode cX2_readReturn 20 = .ok (.iconst 0, 1) := by decide +kernel
theorem dX2_readReturn_21 : decode cX2_readReturn 21 = .ok (.invokevirtual 221, 3) := by decide +kernel
theorem dX2_readReturn_24 : decode cX2_readReturn 24 = .ok (.aload_n 0, 1) := by decide +kernel
theorem dX2_readReturn_25 : decode cX2_readReturn 25 = .ok (.getfield 12, 3) := by decide +kernel
theorem dX2_readReturn_28 : decode cX2_readReturn 28 = .ok (.bipush 59, 2) := by decide +kernel
theorem dX2_readReturn_30 : decode cX2_readReturn 30 = .ok (.invokevirtual 89, 3) := by decide +kernel
theorem dX2_readReturn_33 : decode cX2_readReturn 33 = .ok (.return_, 1) := by decide +kernel
theorem dX2_readThrow_0 : decode cX2_readThrow 0 = .ok (.aload_n 0, 1) := by decide +kernel
theorem dX2_readThrow_1 : decode cX2_readThrow 1 = .ok (.getfield 12, 3) := by decide +kernel
theorem dX2_readThrow_4 : decode cX2_readThrow 4 = .ok (.invokevirtual 157, 3) := by decide +kernel
theorem dX2_readThrow_7 : decode cX2_readThrow 7 = .ok (.aload_n 0, 1) := by decide +kernel
theorem dX2_readThrow_8 : decode cX2_readThrow 8 = .ok (.getfield 51, 3) := by decide +kernel
theorem dX2_readThrow_11 : decode cX2_readThrow 11 = .ok (.bipush 16, 2) := by decide +kernel
theorem dX2_readThrow_13 : decode cX2_readThrow 13 = .ok (.aload_n 0, 1) := by decide +kernel
theorem dX2_readThrow_14 : decode cX2_readThrow 14 = .ok (.getfield 51, 3) := by decide +kernel
theorem dX2_readThrow_17 : decode cX2_readThrow 17 = .ok (.aload_n 0, 1) := by decide +kernel
theorem dX2_readThrow_18 : decode cX2_readThrow 18 = .ok (.getfield 12, 3) := by decide +kernel
theorem dX2_readThrow_21 : decode cX2_readThrow 21 = .ok (.invokevirtual 132, 3) := by decide +kernel
theorem dX2_readThrow_24 : decode cX2_readThrow 24 = .ok (.invokevirtual 374, 3) := by decide +kernel
theorem dX2_readThrow_27 : decode cX2_readThrow 27 = .ok (.invokevirtual 221, 3) := by decide +kernel
theorem dX2_readThrow_30 : decode cX2_readThrow 30 = .ok (.aload_n 0, 1) := by decide +kernel
theorem dX2_readThrow_31 : decode cX2_readThrow 31 = .ok (.getfield 12, 3) := by decide +kernel
theorem dX2_readThrow_34 : decode cX2_readThrow 34 = .ok (.iconst 3, 1) := by decide +kernel
theorem dX2_readThrow_35 : decode cX2_readThrow 35 = .ok (.invokevirtual 89, 3) := by decide +kernel
theorem dX2_readThrow_38 : decode cX2_readThrow 38 = .ok (.aload_n 0, 1) := by decide +kernel
theorem dX2_readThrow_39 : decode cX2_readThrow 39 = .ok (.getfield 12, 3) := by decide +kernel
theorem dX2_readThrow_42 : decode cX2_readThrow 42 = .ok (.bipush 59, 2) := by decide +kernel
theorem dX2_readThrow_44 : decode cX2_readThrow 44 = .ok (.invokevirtual 89, 3) := by decide +kernel
theorem dX2_readThrow_47 : decode cX2_readThrow 47 = .ok (.return_, 1) := by decide +kernel
theorem dX2_findAbove_0 : decode cX2_findAbove 0 = .ok (.aload_n 0, 1) := by decide +kernel
theorem dX2_findAbove_1 : decode cX2_findAbove 1 = .ok (.getfield 12, 3) := by decide +kernel
theorem dX2_findAbove_4 : decode cX2_findAbove 4 = .ok (.invokevirtual 129, 3) := by decide +kernel
theorem dX2_findAbove_7 : decode cX2_findAbove 7 = .ok (.istore_n 1, 1) := by decide +kernel
theorem dX2_findAbove_8 : decode cX2_findAbove 8 = .ok (.aload_n 0, 1) := by decide +kernel
theorem dX2_findAbove_9 : decode cX2_findAbove 9 = .ok (.getfield 12, 3) := by decide +kernel
theorem dX2_findAbove_12 : decode cX2_findAbove 12 = .ok (.invokevirtual 157, 3) := by decide +kernel
theorem dX2_findAbove_15 : decode cX2_findAbove 15 = .ok (.aload_n 0, 1) := by decide +kernel
theorem dX2_findAbove_16 : decode cX2_findAbove 16 = .ok (.getfield 51, 3) := by decide +kernel
theorem dX2_findAbove_19 : decode cX2_findAbove 19 = .ok (.aload_n 0, 1) := by decide +kernel
theorem dX2_findAbove_20 : decode cX2_findAbove 20 = .ok (.getfield 64, 3) := by decide +kernel
theorem dX2_findAbove_23 : decode cX2_findAbove 23 = .ok (.getfield 377, 3) := by decide +kernel
theorem dX2_findAbove_26 : decode cX2_findAbove 26 = .ok (.invokevirtual 380, 3) := by decide +kernel
theorem dX2_findAbove_29 : decode cX2_findAbove 29 = .ok (.ifCond .ne 14, 3) := by decide +kernel
theorem dX2_findAbove_32 : decode cX2_findAbove 32 = .ok (.aload_n 0, 1) := by decide +kernel
theorem dX2_findAbove_33 : decode cX2_findAbove 33 = .ok (.getfield 12, 3) := by decide +kernel
theorem dX2_findAbove_36 : decode cX2_findAbove 36 = .ok (.iconst 5, 1) := by decide +kernel
theorem dX2_findAbove_37 : decode cX2_findAbove 37 = .ok (.iload_n 1, 1) := by decide +kernel
theorem dX2_findAbove_38 : decode cX2_findAbove 38 = .ok (.invokevirtual 136, 3) := by decide +kernel
theorem dX2_findAbove_41 : decode cX2_findAbove 41 = .ok (.iconst 1, 1) := by decide +kernel
theorem dX2_findAbove_42 : decode cX2_findAbove 42 = .ok (.ireturn, 1) := by decide +kernel
theorem dX2_findAbove_43 : decode cX2_findAbove 43 = .ok (.aload_n 0, 1) := by decide +kernel
theorem dX2_findAbove_44 : decode cX2_findAbove 44 = .ok (.getfield 51, 3) := by decide +kernel
theorem dX2_findAbove_47 : decode cX2_findAbove 47 = .ok (.getfield 60, 3) := by decide +kernel
theorem dX2_findAbove_50 : decode cX2_findAbove 50 = .ok (.aload_n 0, 1) := by decide +kernel
theorem dX2_findAbove_51 : decode cX2_findAbove 51 = .ok (.getfield 64, 3) := by decide +kernel
theorem dX2_findAbove_54 : decode cX2_findAbove 54 = .ok (.getfield 377, 3) := by decide +kernel
theorem dX2_findAbove_57 : decode cX2_findAbove 57 = .ok (.aaload, 1) := by decide +kernel
theorem dX2_findAbove_58 : decode cX2_findAbove 58 = .ok (.astore_n 2, 1) := by decide +kernel
theorem dX2_findAbove_59 : decode cX2_findAbove 59 = .ok (.aload_n 0, 1) := by decide +kernel
theorem dX2_findAbove_60 : decode cX2_findAbove 60 = .ok (.getfield 12, 3) := by decide +kernel
theorem dX2_findAbove_63 : decode cX2_findAbove 63 = .ok (.bipush 46, 2) := by decide +kernel
theorem dX2_findAbove_65 : decode cX2_findAbove 65 = .ok (.invokevirtual 89, 3) := by decide +kernel
theorem dX2_findAbove_68 : decode cX2_findAbove 68 = .ok (.aload_n 0, 1) := by decide +kernel
theorem dX2_findAbove_69 : decode cX2_findAbove 69 = .ok (.getfield 51, 3) := by decide +kernel
theorem dX2_findAbove_72 : decode cX2_findAbove 72 = .ok (.aload_n 2, 1) := by decide +kernel
theorem dX2_findAbove_73 : decode cX2_findAbove 73 = .ok (.aload_n 0, 1) := by decide +kernel
theorem dX2_findAbove_74 : decode cX2_findAbove 74 = .ok (.getfield 12, 3) := by decide +kernel
theorem dX2_findAbove_77 : decode cX2_findAbove 77 = .ok (.invokevirtual 132, 3) := by decide +kernel
theorem dX2_findAbove_80 : decode cX2_findAbove 80 = .ok (.invokevirtual 224, 3) := by decide +kernel
theorem dX2_findAbove_83 : decode cX2_findAbove 83 = .ok (.istore_n 3, 1) := by decide +kernel
theorem dX2_findAbove_84 : decode cX2_findAbove 84 = .ok (.aload_n 0, 1) := by decide +kernel
theorem dX2_findAbove_85 : decode cX2_findAbove 85 = .ok (.getfield 12, 3) := by decide +kernel
theorem dX2_findAbove_88 : decode cX2_findAbove 88 = .ok (.invokevirtual 85, 3) := by decide +kernel
theorem dX2_findAbove_91 : decode cX2_findAbove 91 = .ok (.iconst 3, 1) := by decide +kernel
theorem dX2_findAbove_92 : decode cX2_findAbove 92 = .ok (.if_icmp .eq 21, 3) := by decide +kernel
theorem dX2_findAbove_95 : decode cX2_findAbove 95 = .ok (.aload_n 0, 1) := by decide +kernel
theorem dX2_findAbove_96 : decode cX2_findAbove 96 = .ok (.getfield 12, 3) := by decide +kernel
theorem dX2_findAbove_99 : decode cX2_findAbove 99 = .ok (.iconst 1, 1) := by decide +kernel
theorem dX2_findAbove_100 : decode cX2_findAbove 100 = .ok (.aload_n 0, 1) := by decide +kernel
theorem dX2_findAbove_101 : decode cX2_findAbove 101 = .ok (.getfield 12, 3) := by decide +kernel
theorem dX2_findAbove_104 : decode cX2_findAbove 104 = .ok (.invokevirtual 129, 3) := by decide +kernel
theorem dX2_findAbove_107 : decode cX2_findAbove 107 = .ok (.invokevirtual 136, 3) := by decide +kernel
theorem dX2_findAbove_110 : decode cX2_findAbove 110 = .ok (.goto 61, 3) := by decide +kernel
theorem dX2_findAbove_113 : decode cX2_findAbove 113 = .ok (.iload_n 3, 1) := by decide +kernel
theorem dX2_findAbove_114 : decode cX2_findAbove 114 = .ok (.iconst (-1), 1) := by decide +kernel
theorem dX2_findAbove_115 : decode cX2_findAbove 115 = .ok (.if_icmp .ne 21, 3) := by decide +kernel
theorem dX2_findAbove_118 : decode cX2_findAbove 118 = .ok (.aload_n 0, 1) := by decide +kernel
theorem dX2_findAbove_119 : decode cX2_findAbove 119 = .ok (.getfield 12, 3) := by decide +kernel
theorem dX2_findAbove_122 : decode cX2_findAbove 122 = .ok (.iconst 2, 1) := by decide +kernel
theorem dX2_findAbove_123 : decode cX2_findAbove 123 = .ok (.aload_n 0, 1) := by decide +kernel
theorem dX2_findAbove_124 : decode cX2_findAbove 124 = .ok (.getfield 12, 3) := by decide +kernel
theorem dX2_findAbove_127 : decode cX2_findAbove 127 = .ok (.invokevirtual 129, 3) := by decide +kernel
theorem dX2_findAbove_130 : decode cX2_findAbove 130 = .ok (.invokevirtual 136, 3) := by decide +kernel
theorem dX2_findAbove_133 : decode cX2_findAbove 133 = .ok (.goto 38, 3) := by decide +kernel
theorem dX2_findAbove_136 : decode cX2_findAbove 136 = .ok (.aload_n 0, 1) := by decide +kernel
theorem dX2_findAbove_137 : decode cX2_findAbove 137 = .ok (.bipush 18, 2) := by decide +kernel
theorem dX2_findAbove_139 : decode cX2_findAbove 139 = .ok (.putfield 383, 3) := by decide +kernel
theorem dX2_findAbove_142 : decode cX2_findAbove 142 = .ok (.aload_n 0, 1) := by decide +kernel
theorem dX2_findAbove_143 : decode cX2_findAbove 143 = .ok (.aload_n 2, 1) := by decide +kernel
theorem dX2_findAbove_144 : decode cX2_findAbove 144 = .ok (.getfield 228, 3) := by decide +kernel
theorem dX2_findAbove_147 : decode cX2_findAbove 147 = .ok (.iload_n 3, 1) := by decide +kernel
theorem dX2_findAbove_148 : decode cX2_findAbove 148 = .ok (.iaload, 1) := by decide +kernel
theorem dX2_findAbove_149 : decode cX2_findAbove 149 = .ok (.putfield 386, 3) := by decide +kernel
theorem dX2_findAbove_152 : decode cX2_findAbove 152 = .ok (.aload_n 0, 1) := by decide +kernel
theorem dX2_findAbove_153 : decode cX2_findAbove 153 = .ok (.aload_n 0, 1) := by decide +kernel
theorem dX2_findAbove_154 : decode cX2_findAbove 154 = .ok (.getfield 51, 3) := by decide +kernel
theorem dX2_findAbove_157 : decode cX2_findAbove 157 = .ok (.getfield 68, 3) := by decide +kernel
theorem dX2_findAbove_160 : decode cX2_findAbove 160 = .ok (.aload_n 0, 1) := by decide +kernel
theorem dX2_findAbove_161 : decode cX2_findAbove 161 = .ok (.getfield 386, 3) := by decide +kernel
theorem dX2_findAbove_164 : decode cX2_findAbove 164 = .ok (.aaload, 1) := by decide +kernel
theorem dX2_findAbove_165 : decode cX2_findAbove 165 = .ok (.getfield 244, 3) := by decide +kernel
theorem dX2_findAbove_168 : decode cX2_findAbove 168 = .ok (.putfield 389, 3) := by decide +kernel
theorem dX2_findAbove_171 : decode cX2_findAbove 171 = .ok (.aload_n 0, 1) := by decide +kernel
theorem dX2_findAbove_172 : decode cX2_findAbove 172 = .ok (.getfield 12, 3) := by decide +kernel
theorem dX2_findAbove_175 : decode cX2_findAbove 175 = .ok (.invokevirtual 157, 3) := by decide +kernel
theorem dX2_findAbove_178 : decode cX2_findAbove 178 = .ok (.iconst 1, 1) := by decide +kernel
theorem dX2_findAbove_179 : decode cX2_findAbove 179 = .ok (.ireturn, 1) := by decide +kernel
theorem dX2_findNamed_0 : decode cX2_findNamed 0 = .ok (.aload_n 0, 1) := by decide +kernel
theorem dX2_findNamed_1 : decode cX2_findNamed 1 = .ok (.getfield 12, 3) := by decide +kernel
theorem dX2_findNamed_4 : decode cX2_findNamed 4 = .ok (.invokevirtual 129, 3) := by decide +kernel
theorem dX2_findNamed_7 : decode cX2_findNamed 7 = .ok (.istore_n 1, 1) := by decide +kernel
theorem dX2_findNamed_8 : decode cX2_findNamed 8 = .ok (.aload_n 0, 1) := by decide +kernel
theorem dX2_findNamed_9 : decode cX2_findNamed 9 = .ok (.getfield 12, 3) := by decide +kernel
theorem dX2_findNamed_12 : decode cX2_findNamed 12 = .ok (.invokevirtual 132, 3) := by decide +kernel
theorem dX2_findNamed_15 : decode cX2_findNamed 15 = .ok (.lstore_n 2, 1) := by decide +kernel
theorem dX2_findNamed_16 : decode cX2_findNamed 16 = .ok (.aload_n 0, 1) := by decide +kernel
theorem dX2_findNamed_17 : decode cX2_findNamed 17 = .ok (.getfield 12, 3) := by decide +kernel
theorem dX2_findNamed_20 : decode cX2_findNamed 20 = .ok (.invokevirtual 157, 3) := by decide +kernel
theorem dX2_findNamed_23 : decode cX2_findNamed 23 = .ok (.aload_n 0, 1) := by decide +kernel
theorem dX2_findNamed_24 : decode cX2_findNamed 24 = .ok (.getfield 12, 3) := by decide +kernel
theorem dX2_findNamed_27 : decode cX2_findNamed 27 = .ok (.invokevirtual 368, 3) := by decide +kernel
theorem dX2_findNamed_30 : decode cX2_findNamed 30 = .ok (.istore 4, 2) := by decide +kernel
theorem dX2_findNamed_32 : decode cX2_findNamed 32 = .ok (.iload 4, 2) := by decide +kernel
theorem dX2_findNamed_34 : decode cX2_findNamed 34 = .ok (.ifCond .eq 18, 3) := by decide +kernel
theorem dX2_findNamed_37 : decode cX2_findNamed 37 = .ok (.aload_n 0, 1) := by decide +kernel
theorem dX2_findNamed_38 : decode cX2_findNamed 38 = .ok (.getfield 51, 3) := by decide +kernel
theorem dX2_findNamed_41 : decode cX2_findNamed 41 = .ok (.aload_n 0, 1) := by decide +kernel
theorem dX2_findNamed_42 : decode cX2_findNamed 42 = .ok (.getfield 64, 3) := by decide +kernel
theorem dX2_findNamed_45 : decode cX2_findNamed 45 = .ok (.lload_n 2, 1) := by decide +kernel
theorem dX2_findNamed_46 : decode cX2_findNamed 46 = .ok (.invokevirtual 224, 3) := by decide +kernel
theorem dX2_findNamed_49 : decode cX2_findNamed 49 = .ok (.goto 11, 3) := by decide +kernel
theorem dX2_findNamed_52 : decode cX2_findNamed 52 = .ok (.aload_n 0, 1) := by decide +kernel
theorem dX2_findNamed_53 : decode cX2_findNamed 53 = .ok (.getfield 21, 3) := by decide +kernel
theorem dX2_findNamed_56 : decode cX2_findNamed 56 = .ok (.lload_n 2, 1) := by decide +kernel
theorem dX2_findNamed_57 : decode cX2_findNamed 57 = .ok (.invokevirtual 285, 3) := by decide +kernel
theorem dX2_findNamed_60 : decode cX2_findNamed 60 = .ok (.istore 5, 2) := by decide +kernel
theorem dX2_findNamed_62 : decode cX2_findNamed 62 = .ok (.iload 5, 2) := by decide +kernel
theorem dX2_findNamed_64 : decode cX2_findNamed 64 = .ok (.iconst (-1), 1) := by decide +kernel
theorem dX2_findNamed_65 : decode cX2_findNamed 65 = .ok (.if_icmp .ne 15, 3) := by decide +kernel
theorem dX2_findNamed_68 : decode cX2_findNamed 68 = .ok (.aload_n 0, 1) := by decide +kernel
theorem dX2_findNamed_69 : decode cX2_findNamed 69 = .ok (.getfield 12, 3) := by decide +kernel
theorem dX2_findNamed_72 : decode cX2_findNamed 72 = .ok (.iconst 2, 1) := by decide +kernel
theorem dX2_findNamed_73 : decode cX2_findNamed 73 = .ok (.iload_n 1, 1) := by decide +kernel
theorem dX2_findNamed_74 : decode cX2_findNamed 74 = .ok (.invokevirtual 136, 3) := by decide +kernel
theorem dX2_findNamed_77 : decode cX2_findNamed 77 = .ok (.goto 86, 3) := by decide +kernel
theorem dX2_findNamed_80 : decode cX2_findNamed 80 = .ok (.iload 4, 2) := by decide +kernel
theorem dX2_findNamed_82 : decode cX2_findNamed 82 = .ok (.ifCond .eq 43, 3) := by decide +kernel
theorem dX2_findNamed_85 : decode cX2_findNamed 85 = .ok (.aload_n 0, 1) := by decide +kernel
theorem dX2_findNamed_86 : decode cX2_findNamed 86 = .ok (.bipush 17, 2) := by decide +kernel
theorem dX2_findNamed_88 : decode cX2_findNamed 88 = .ok (.putfield 383, 3) := by decide +kernel
theorem dX2_findNamed_91 : decode cX2_findNamed 91 = .ok (.aload_n 0, 1) := by decide +kernel
theorem dX2_findNamed_92 : decode cX2_findNamed 92 = .ok (.iload 5, 2) := by decide +kernel
theorem dX2_findNamed_94 : decode cX2_findNamed 94 = .ok (.putfield 386, 3) := by decide +kernel
theorem dX2_findNamed_97 : decode cX2_findNamed 97 = .ok (.aload_n 0, 1) := by decide +kernel
theorem dX2_findNamed_98 : decode cX2_findNamed 98 = .ok (.aload_n 0, 1) := by decide +kernel
theorem dX2_findNamed_99 : decode cX2_findNamed 99 = .ok (.getfield 51, 3) := by decide +kernel
theorem dX2_findNamed_102 : decode cX2_findNamed 102 = .ok (.getfield 68, 3) := by decide +kernel
theorem dX2_findNamed_105 : decode cX2_findNamed 105 = .ok (.aload_n 0, 1) := by decide +kernel
theorem dX2_findNamed_106 : decode cX2_findNamed 106 = .ok (.getfield 64, 3) := by decide +kernel
theorem dX2_findNamed_109 : decode cX2_findNamed 109 = .ok (.getfield 228, 3) := by decide +kernel
theorem dX2_findNamed_112 : decode cX2_findNamed 112 = .ok (.iload 5, 2) := by decide +kernel
theorem dX2_findNamed_114 : decode cX2_findNamed 114 = .ok (.iaload, 1) := by decide +kernel
theorem dX2_findNamed_115 : decode cX2_findNamed 115 = .ok (.aaload, 1) := by decide +kernel
theorem dX2_findNamed_116 : decode cX2_findNamed 116 = .ok (.getfield 244, 3) := by decide +kernel
theorem dX2_findNamed_119 : decode cX2_findNamed 119 = .ok (.putfield 389, 3) := by decide +kernel
theorem dX2_findNamed_122 : decode cX2_findNamed 122 = .ok (.goto 41, 3) := by decide +kernel
theorem dX2_findNamed_125 : decode cX2_findNamed 125 = .ok (.aload_n 0, 1) := by decide +kernel
theorem dX2_findNamed_126 : decode cX2_findNamed 126 = .ok (.getfield 64, 3) := by decide +kernel
theorem dX2_findNamed_129 : decode cX2_findNamed 129 = .ok (.iload 5, 2) := by decide +kernel
theorem dX2_findNamed_131 : decode cX2_findNamed 131 = .ok (.invokevirtual 392, 3) := by decide +kernel
theorem dX2_findNamed_134 : decode cX2_findNamed 134 = .ok (.aload_n 0, 1) := by decide +kernel
theorem dX2_findNamed_135 : decode cX2_findNamed 135 = .ok (.getfield 12, 3) := by decide +kernel
theorem dX2_findNamed_138 : decode cX2_findNamed 138 = .ok (.invokevirtual 85, 3) := by decide +kernel
theorem dX2_findNamed_141 : decode cX2_findNamed 141 = .ok (.bipush 91, 2) := by decide +kernel
theorem dX2_findNamed_143 : decode cX2_findNamed 143 = .ok (.if_icmp .ne 7, 3) := by decide +kernel
theorem dX2_findNamed_146 : decode cX2_findNamed 146 = .ok (.iconst 1, 1) := by decide +kernel
theorem dX2_findNamed_147 : decode cX2_findNamed 147 = .ok (.goto 4, 3) := by decide +kernel
theorem dX2_findNamed_150 : decode cX2_findNamed 150 = .ok (.iconst 0, 1) := by decide +kernel
theorem dX2_findNamed_151 : decode cX2_findNamed 151 = .ok (.if_icmp .eq 12, 3) := by decide +kernel
theorem dX2_findNamed_154 : decode cX2_findNamed 154 = .ok (.aload_n 0, 1) := by decide +kernel
theorem dX2_findNamed_155 : decode cX2_findNamed 155 = .ok (.getfield 12, 3) := by decide +kernel
theorem dX2_findNamed_158 : decode cX2_findNamed 158 = .ok (.iconst 5, 1) := by decide +kernel
theorem dX2_findNamed_159 : decode cX2_findNamed 159 = .ok (.iload_n 1, 1) := by decide +kernel
theorem dX2_findNamed_160 : decode cX2_findNamed 160 = .ok (.invokevirtual 136, 3) := by decide +kernel
theorem dX2_findNamed_163 : decode cX2_findNamed 163 = .ok (.aload_n 0, 1) := by decide +kernel
theorem dX2_findNamed_164 : decode cX2_findNamed 164 = .ok (.iload 5, 2) := by decide +kernel
theorem dX2_findNamed_166 : decode cX2_findNamed 166 = .ok (.putfield 395, 3) := by decide +kernel
theorem dX2_findNamed_169 : decode cX2_findNamed 169 = .ok (.iload 4, 2) := by decide +kernel
theorem dX2_findNamed_171 : decode cX2_findNamed 171 = .ok (.ireturn, 1) := by decide +kernel
theorem dX2_readArguments_0 : decode cX2_readArguments 0 = .ok (.aload_n 0, 1) := by decide +kernel
theorem dX2_readArguments_1 : decode cX2_readArguments 1 = .ok (.getfield 12, 3) := by decide +kernel
theorem dX2_readArguments_4 : decode cX2_readArguments 4 = .ok (.invokevirtual 129, 3) := by decide +kernel
theorem dX2_readArguments_7 : decode cX2_readArguments 7 = .ok (.istore_n 1, 1) := by decide +kernel
theorem dX2_readArguments_8 : decode cX2_readArguments 8 = .ok (.aload_n 0, 1) := by decide +kernel
theorem dX2_readArguments_9 : decode cX2_readArguments 9 = .ok (.getfield 12, 3) := by decide +kernel
theorem dX2_readArguments_12 : decode cX2_readArguments 12 = .ok (.bipush 40, 2) := by decide +kernel
theorem dX2_readArguments_14 : decode cX2_readArguments 14 = .ok (.invokevirtual 89, 3) := by decide +kernel
theorem dX2_readArguments_17 : decode cX2_readArguments 17 = .ok (.aload_n 0, 1) := by decide +kernel
theorem dX2_readArguments_18 : decode cX2_readArguments 18 = .ok (.getfield 389, 3) := by decide +kernel
theorem dX2_readArguments_21 : decode cX2_readArguments 21 = .ok (.ifCond .ne 25, 3) := by decide +kernel
theorem dX2_readArguments_24 : decode cX2_readArguments 24 = .ok (.aload_n 0, 1) := by decide +kernel
theorem dX2_readArguments_25 : decode cX2_readArguments 25 = .ok (.getfield 12, 3) := by decide +kernel
theorem dX2_readArguments_28 : decode cX2_readArguments 28 = .ok (.invokevirtual 85, 3) := by decide +kernel
theorem dX2_readArguments_31 : decode cX2_readArguments 31 = .ok (.bipush 41, 2) := by decide +kernel
theorem dX2_readArguments_33 : decode cX2_readArguments 33 = .ok (.if_icmp .eq 13, 3) := by decide +kernel
theorem dX2_readArguments_36 : decode cX2_readArguments 36 = .ok (.aload_n 0, 1) := by decide +kernel
theorem dX2_readArguments_37 : decode cX2_readArguments 37 = .ok (.getfield 12, 3) := by decide +kernel
theorem dX2_readArguments_40 : decode cX2_readArguments 40 = .ok (.bipush 6, 2) := by decide +kernel
theorem dX2_readArguments_42 : decode cX2_readArguments 42 = .ok (.iload_n 1, 1) := by decide +kernel
theorem dX2_readArguments_43 : decode cX2_readArguments 43 = .ok (.invokevirtual 136, 3) := by decide +kernel
theorem dX2_readArguments_46 : decode cX2_readArguments 46 = .ok (.iconst 0, 1) := by decide +kernel
theorem dX2_readArguments_47 : decode cX2_readArguments 47 = .ok (.istore_n 2, 1) := by decide +kernel
theorem dX2_readArguments_48 : decode cX2_readArguments 48 = .ok (.aload_n 0, 1) := by decide +kernel
theorem dX2_readArguments_49 : decode cX2_readArguments 49 = .ok (.getfield 12, 3) := by decide +kernel
theorem dX2_readArguments_52 : decode cX2_readArguments 52 = .ok (.invokevirtual 85, 3) := by decide +kernel
theorem dX2_readArguments_55 : decode cX2_readArguments 55 = .ok (.bipush 41, 2) := by decide +kernel
theorem dX2_readArguments_57 : decode cX2_readArguments 57 = .ok (.if_icmp .eq 7, 3) := by decide +kernel
theorem dX2_readArguments_60 : decode cX2_readArguments 60 = .ok (.iconst 1, 1) := by decide +kernel
theorem dX2_readArguments_61 : decode cX2_readArguments 61 = .ok (.goto 4, 3) := by decide +kernel
theorem dX2_readArguments_64 : decode cX2_readArguments 64 = .ok (.iconst 0, 1) := by decide +kernel
theorem dX2_readArguments_65 : decode cX2_readArguments 65 = .ok (.istore_n 3, 1) := by decide +kernel
theorem dX2_readArguments_66 : decode cX2_readArguments 66 = .ok (.iconst 0, 1) := by decide +kernel
theorem dX2_readArguments_67 : decode cX2_readArguments 67 = .ok (.istore 4, 2) := by decide +kernel
theorem dX2_readArguments_69 : decode cX2_readArguments 69 = .ok (.iload 4, 2) := by decide +kernel
theorem dX2_readArguments_71 : decode cX2_readArguments 71 = .ok (.iconst 3, 1) := by decide +kernel
theorem dX2_readArguments_72 : decode cX2_readArguments 72 = .ok (.if_icmp .gt 90, 3) := by decide +kernel
theorem dX2_readArguments_75 : decode cX2_readArguments 75 = .ok (.iload_n 3, 1) := by decide +kernel
theorem dX2_readArguments_76 : decode cX2_readArguments 76 = .ok (.ifCond .eq 86, 3) := by decide +kernel
theorem dX2_readArguments_79 : decode cX2_readArguments 79 = .ok (.aload_n 0, 1) := by decide +kernel
theorem dX2_readArguments_80 : decode cX2_readArguments 80 = .ok (.getfield 12, 3) := by decide +kernel
theorem dX2_readArguments_83 : decode cX2_readArguments 83 = .ok (.getfield 93, 3) := by decide +kernel
theorem dX2_readArguments_86 : decode cX2_readArguments 86 = .ok (.ifCond .ne 76, 3) := by decide +kernel
theorem dX2_readArguments_89 : decode cX2_readArguments 89 = .ok (.aload_n 0, 1) := by decide +kernel
theorem dX2_readArguments_90 : decode cX2_readArguments 90 = .ok (.getfield 30, 3) := by decide +kernel
theorem dX2_readArguments_93 : decode cX2_readArguments 93 = .ok (.invokevirtual 216, 3) := by decide +kernel
theorem dX2_readArguments_96 : decode cX2_readArguments 96 = .ok (.iinc 2 1, 3) := by decide +kernel
theorem dX2_readArguments_99 : decode cX2_readArguments 99 = .ok (.aload_n 0, 1) := by decide +kernel
theorem dX2_readArguments_100 : decode cX2_readArguments 100 = .ok (.getfield 12, 3) := by decide +kernel
theorem dX2_readArguments_103 : decode cX2_readArguments 103 = .ok (.invokevirtual 85, 3) := by decide +kernel
theorem dX2_readArguments_106 : decode cX2_readArguments 106 = .ok (.bipush 44, 2) := by decide +kernel
theorem dX2_readArguments_108 : decode cX2_readArguments 108 = .ok (.if_icmp .ne 7, 3) := by decide +kernel
theorem dX2_readArguments_111 : decode cX2_readArguments 111 = .ok (.iconst 1, 1) := by decide +kernel
theorem dX2_readArguments_112 : decode cX2_readArguments 112 = .ok (.goto 4, 3) := by decide +kernel
theorem dX2_readArguments_115 : decode cX2_readArguments 115 = .ok (.iconst 0, 1) := by decide +kernel
theorem dX2_readArguments_116 : decode cX2_readArguments 116 = .ok (.istore_n 3, 1) := by decide +kernel
theorem dX2_readArguments_117 : decode cX2_readArguments 117 = .ok (.iload_n 3, 1) := by decide +kernel
theorem dX2_readArguments_118 : decode cX2_readArguments 118 = .ok (.ifCond .eq 38, 3) := by decide +kernel
theorem dX2_readArguments_121 : decode cX2_readArguments 121 = .ok (.aload_n 0, 1) := by decide +kernel
theorem dX2_readArguments_122 : decode cX2_readArguments 122 = .ok (.getfield 12, 3) := by decide +kernel
theorem dX2_readArguments_125 : decode cX2_readArguments 125 = .ok (.invokevirtual 129, 3) := by decide +kernel
theorem dX2_readArguments_128 : decode cX2_readArguments 128 = .ok (.istore 5, 2) := by decide +kernel
theorem dX2_readArguments_130 : decode cX2_readArguments 130 = .ok (.aload_n 0, 1) := by decide +kernel
theorem dX2_readArguments_131 : decode cX2_readArguments 131 = .ok (.getfield 12, 3) := by decide +kernel
theorem dX2_readArguments_134 : decode cX2_readArguments 134 = .ok (.invokevirtual 157, 3) := by decide +kernel
theorem dX2_readArguments_137 : decode cX2_readArguments 137 = .ok (.iload_n 2, 1) := by decide +kernel
theorem dX2_readArguments_138 : decode cX2_readArguments 138 = .ok (.aload_n 0, 1) := by decide +kernel
theorem dX2_readArguments_139 : decode cX2_readArguments 139 = .ok (.getfield 389, 3) := by decide +kernel
theorem dX2_readArguments_142 : decode cX2_readArguments 142 = .ok (.if_icmp .lt 14, 3) := by decide +kernel
theorem dX2_readArguments_145 : decode cX2_readArguments 145 = .ok (.aload_n 0, 1) := by decide +kernel
theorem dX2_readArguments_146 : decode cX2_readArguments 146 = .ok (.getfield 12, 3) := by decide +kernel
theorem dX2_readArguments_149 : decode cX2_readArguments 149 = .ok (.bipush 6, 2) := by decide +kernel
theorem dX2_readArguments_151 : decode cX2_readArguments 151 = .ok (.iload 5, 2) := by decide +kernel
theorem dX2_readArguments_153 : decode cX2_readArguments 153 = .ok (.invokevirtual 136, 3) := by decide +kernel
theorem dX2_readArguments_156 : decode cX2_readArguments 156 = .ok (.iinc 4 1, 3) := by decide +kernel
theorem dX2_readArguments_159 : decode cX2_readArguments 159 = .ok (.goto (-90), 3) := by decide +kernel
theorem dX2_readArguments_162 : decode cX2_readArguments 162 = .ok (.aload_n 0, 1) := by decide +kernel
theorem dX2_readArguments_163 : decode cX2_readArguments 163 = .ok (.getfield 12, 3) := by decide +kernel
theorem dX2_readArguments_166 : decode cX2_readArguments 166 = .ok (.invokevirtual 129, 3) := by decide +kernel
theorem dX2_readArguments_169 : decode cX2_readArguments 169 = .ok (.istore 4, 2) := by decide +kernel
theorem dX2_readArguments_171 : decode cX2_readArguments 171 = .ok (.aload_n 0, 1) := by decide +kernel
theorem dX2_readArguments_172 : decode cX2_readArguments 172 = .ok (.getfield 12, 3) := by decide +kernel
theorem dX2_readArguments_175 : decode cX2_readArguments 175 = .ok (.bipush 41, 2) := by decide +kernel
theorem dX2_readArguments_177 : decode cX2_readArguments 177 = .ok (.invokevirtual 89, 3) := by decide +kernel
theorem dX2_readArguments_180 : decode cX2_readArguments 180 = .ok (.iload_n 2, 1) := by decide +kernel
theorem dX2_readArguments_181 : decode cX2_readArguments 181 = .ok (.aload_n 0, 1) := by decide +kernel
theorem dX2_readArguments_182 : decode cX2_readArguments 182 = .ok (.getfield 389, 3) := by decide +kernel
theorem dX2_readArguments_185 : decode cX2_readArguments 185 = .ok (.if_icmp .ge 14, 3) := by decide +kernel
theorem dX2_readArguments_188 : decode cX2_readArguments 188 = .ok (.aload_n 0, 1) := by decide +kernel
theorem dX2_readArguments_189 : decode cX2_readArguments 189 = .ok (.getfield 12, 3) := by decide +kernel
theorem dX2_readArguments_192 : decode cX2_readArguments 192 = .ok (.bipush 6, 2) := by decide +kernel
theorem dX2_readArguments_194 : decode cX2_readArguments 194 = .ok (.iload 4, 2) := by decide +kernel
theorem dX2_readArguments_196 : decode cX2_readArguments 196 = .ok (.invokevirtual 136, 3) := by decide +kernel
theorem dX2_readArguments_199 : decode cX2_readArguments 199 = .ok (.aload_n 0, 1) := by decide +kernel
theorem dX2_readArguments_200 : decode cX2_readArguments 200 = .ok (.getfield 51, 3) := by decide +kernel
theorem dX2_readArguments_203 : decode cX2_readArguments 203 = .ok (.aload_n 0, 1) := by decide +kernel
theorem dX2_readArguments_204 : decode cX2_readArguments 204 = .ok (.getfield 383, 3) := by decide +kernel
theorem dX2_readArguments_207 : decode cX2_readArguments 207 = .ok (.aload_n 0, 1) := by decide +kernel
theorem dX2_readArguments_208 : decode cX2_readArguments 208 = .ok (.getfield 386, 3) := by decide +kernel
theorem dX2_readArguments_211 : decode cX2_readArguments 211 = .ok (.invokevirtual 221, 3) := by decide +kernel
theorem dX2_readArguments_214 : decode cX2_readArguments 214 = .ok (.aload_n 0, 1) := by decide +kernel
theorem dX2_readArguments_215 : decode cX2_readArguments 215 = .ok (.getfield 51, 3) := by decide +kernel
theorem dX2_readArguments_218 : decode cX2_readArguments 218 = .ok (.bipush 22, 2) := by decide +kernel
theorem dX2_readArguments_220 : decode cX2_readArguments 220 = .ok (.iconst 0, 1) := by decide +kernel
theorem dX2_readArguments_221 : decode cX2_readArguments 221 = .ok (.invokevirtual 221, 3) := by decide +kernel
theorem dX2_readArguments_224 : decode cX2_readArguments 224 = .ok (.aload_n 0, 1) := by decide +kernel
theorem dX2_readArguments_225 : decode cX2_readArguments 225 = .ok (.getfield 12, 3) := by decide +kernel
theorem dX2_readArguments_228 : decode cX2_readArguments 228 = .ok (.bipush 59, 2) := by decide +kernel
theorem dX2_readArguments_230 : decode cX2_readArguments 230 = .ok (.invokevirtual 89, 3) := by decide +kernel
theorem dX2_readArguments_233 : decode cX2_readArguments 233 = .ok (.return_, 1) := by decide +kernel
theorem dX2_readAssignment_0 : decode cX2_readAssignment 0 = .ok (.aload_n 0, 1) := by decide +kernel
theorem dX2_readAssignment_1 : decode cX2_readAssignment 1 = .ok (.getfield 395, 3) := by decide +kernel
theorem dX2_readAssignment_4 : decode cX2_readAssignment 4 = .ok (.istore_n 1, 1) := by decide +kernel
theorem dX2_readAssignment_5 : decode cX2_readAssignment 5 = .ok (.aload_n 0, 1) := by decide +kernel
theorem dX2_readAssignment_6 : decode cX2_readAssignment 6 = .ok (.getfield 64, 3) := by decide +kernel
theorem dX2_readAssignment_9 : decode cX2_readAssignment 9 = .ok (.iload_n 1, 1) := by decide +kernel
theorem dX2_readAssignment_10 : decode cX2_readAssignment 10 = .ok (.invokevirtual 392, 3) := by decide +kernel
theorem dX2_readAssignment_13 : decode cX2_readAssignment 13 = .ok (.istore_n 2, 1) := by decide +kernel
theorem dX2_readAssignment_14 : decode cX2_readAssignment 14 = .ok (.iload_n 2, 1) := by decide +kernel
theorem dX2_readAssignment_15 : decode cX2_readAssignment 15 = .ok (.ifCond .eq 45, 3) := by decide +kernel
theorem dX2_readAssignment_18 : decode cX2_readAssignment 18 = .ok (.aload_n 0, 1) := by decide +kernel
theorem dX2_readAssignment_19 : decode cX2_readAssignment 19 = .ok (.getfield 12, 3) := by decide +kernel
theorem dX2_readAssignment_22 : decode cX2_readAssignment 22 = .ok (.bipush 91, 2) := by decide +kernel
theorem dX2_readAssignment_24 : decode cX2_readAssignment 24 = .ok (.invokevirtual 89, 3) := by decide +kernel
theorem dX2_readAssignment_27 : decode cX2_readAssignment 27 = .ok (.aload_n 0, 1) := by decide +kernel
theorem dX2_readAssignment_28 : decode cX2_readAssignment 28 = .ok (.getfield 30, 3) := by decide +kernel
theorem dX2_readAssignment_31 : decode cX2_readAssignment 31 = .ok (.invokevirtual 216, 3) := by decide +kernel
theorem dX2_readAssignment_34 : decode cX2_readAssignment 34 = .ok (.aload_n 0, 1) := by decide +kernel
theorem dX2_readAssignment_35 : decode cX2_readAssignment 35 = .ok (.getfield 12, 3) := by decide +kernel
theorem dX2_readAssignment_38 : decode cX2_readAssignment 38 = .ok (.bipush 93, 2) := by decide +kernel
theorem dX2_readAssignment_40 : decode cX2_readAssignment 40 = .ok (.invokevirtual 89, 3) := by decide +kernel
theorem dX2_readAssignment_43 : decode cX2_readAssignment 43 = .ok (.aload_n 0, 1) := by decide +kernel
theorem dX2_readAssignment_44 : decode cX2_readAssignment 44 = .ok (.getfield 51, 3) := by decide +kernel
theorem dX2_readAssignment_47 : decode cX2_readAssignment 47 = .ok (.bipush 11, 2) := by decide +kernel
theorem dX2_readAssignment_49 : decode cX2_readAssignment 49 = .ok (.aload_n 0, 1) := by decide +kernel
theorem dX2_readAssignment_50 : decode cX2_readAssignment 50 = .ok (.getfield 64, 3) := by decide +kernel
theorem dX2_readAssignment_53 : decode cX2_readAssignment 53 = .ok (.iload_n 1, 1) := by decide +kernel
theorem dX2_readAssignment_54 : decode cX2_readAssignment 54 = .ok (.invokevirtual 398, 3) := by decide +kernel
theorem dX2_readAssignment_57 : decode cX2_readAssignment 57 = .ok (.invokevirtual 221, 3) := by decide +kernel
theorem dX2_readAssignment_60 : decode cX2_readAssignment 60 = .ok (.aload_n 0, 1) := by decide +kernel
theorem dX2_readAssignment_61 : decode cX2_readAssignment 61 = .ok (.getfield 12, 3) := by decide +kernel
theorem dX2_readAssignment_64 : decode cX2_readAssignment 64 = .ok (.bipush 61, 2) := by decide +kernel
theorem dX2_readAssignment_66 : decode cX2_readAssignment 66 = .ok (.invokevirtual 89, 3) := by decide +kernel
theorem dX2_readAssignment_69 : decode cX2_readAssignment 69 = .ok (.aload_n 0, 1) := by decide +kernel
theorem dX2_readAssignment_70 : decode cX2_readAssignment 70 = .ok (.getfield 30, 3) := by decide +kernel
theorem dX2_readAssignment_73 : decode cX2_readAssignment 73 = .ok (.invokevirtual 216, 3) := by decide +kernel
theorem dX2_readAssignment_76 : decode cX2_readAssignment 76 = .ok (.iload_n 1, 1) := by decide +kernel
theorem dX2_readAssignment_77 : decode cX2_readAssignment 77 = .ok (.bipush 16, 2) := by decide +kernel
theorem dX2_readAssignment_79 : decode cX2_readAssignment 79 = .ok (.if_icmp .lt 19, 3) := by decide +kernel
theorem dX2_readAssignment_82 : decode cX2_readAssignment 82 = .ok (.aload_n 0, 1) := by decide +kernel
theorem dX2_readAssignment_83 : decode cX2_readAssignment 83 = .ok (.getfield 51, 3) := by decide +kernel
theorem dX2_readAssignment_86 : decode cX2_readAssignment 86 = .ok (.bipush 20, 2) := by decide +kernel
theorem dX2_readAssignment_88 : decode cX2_readAssignment 88 = .ok (.iload_n 1, 1) := by decide +kernel
theorem dX2_readAssignment_89 : decode cX2_readAssignment 89 = .ok (.bipush 16, 2) := by decide +kernel
theorem dX2_readAssignment_91 : decode cX2_readAssignment 91 = .ok (.isub, 1) := by decide +kernel
theorem dX2_readAssignment_92 : decode cX2_readAssignment 92 = .ok (.invokevirtual 221, 3) := by decide +kernel
theorem dX2_readAssignment_95 : decode cX2_readAssignment 95 = .ok (.goto 29, 3) := by decide +kernel
theorem dX2_readAssignment_98 : decode cX2_readAssignment 98 = .ok (.aload_n 0, 1) := by decide +kernel
theorem dX2_readAssignment_99 : decode cX2_readAssignment 99 = .ok (.getfield 51, 3) := by decide +kernel
theorem dX2_readAssignment_102 : decode cX2_readAssignment 102 = .ok (.iload_n 2, 1) := by decide +kernel
theorem dX2_readAssignment_103 : decode cX2_readAssignment 103 = .ok (.ifCond .eq 8, 3) := by decide +kernel
theorem dX2_readAssignment_106 : decode cX2_readAssignment 106 = .ok (.bipush 27, 2) := by decide +kernel
theorem dX2_readAssignment_108 : decode cX2_readAssignment 108 = .ok (.goto 5, 3) := by decide +kernel
theorem dX2_readAssignment_111 : decode cX2_readAssignment 111 = .ok (.bipush 21, 2) := by decide +kernel
theorem dX2_readAssignment_113 : decode cX2_readAssignment 113 = .ok (.aload_n 0, 1) := by decide +kernel
theorem dX2_readAssignment_114 : decode cX2_readAssignment 114 = .ok (.getfield 64, 3) := by decide +kernel
theorem dX2_readAssignment_117 : decode cX2_readAssignment 117 = .ok (.iload_n 1, 1) := by decide +kernel
theorem dX2_readAssignment_118 : decode cX2_readAssignment 118 = .ok (.invokevirtual 398, 3) := by decide +kernel
theorem dX2_readAssignment_121 : decode cX2_readAssignment 121 = .ok (.invokevirtual 221, 3) := by decide +kernel
theorem dX2_readAssignment_124 : decode cX2_readAssignment 124 = .ok (.aload_n 0, 1) := by decide +kernel
theorem dX2_readAssignment_125 : decode cX2_readAssignment 125 = .ok (.getfield 12, 3) := by decide +kernel
theorem dX2_readAssignment_128 : decode cX2_readAssignment 128 = .ok (.bipush 59, 2) := by decide +kernel
theorem dX2_readAssignment_130 : decode cX2_readAssignment 130 = .ok (.invokevirtual 89, 3) := by decide +kernel
theorem dX2_readAssignment_133 : decode cX2_readAssignment 133 = .ok (.return_, 1) := by decide +kernel
theorem dX5_leaveMember_0 : decode cX5_leaveMember 0 = .ok (.aload_n 0, 1) := by decide +kernel
theorem dX5_leaveMember_1 : decode cX5_leaveMember 1 = .ok (.iconst 0, 1) := by decide +kernel
theorem dX5_leaveMember_2 : decode cX5_leaveMember 2 = .ok (.putfield 18, 3) := by decide +kernel
theorem dX5_leaveMember_5 : decode cX5_leaveMember 5 = .ok (.aload_n 0, 1) := by decide +kernel
theorem dX5_leaveMember_6 : decode cX5_leaveMember 6 = .ok (.iconst 0, 1) := by decide +kernel
theorem dX5_leaveMember_7 : decode cX5_leaveMember 7 = .ok (.putfield 22, 3) := by decide +kernel
theorem dX5_leaveMember_10 : decode cX5_leaveMember 10 = .ok (.aload_n 0, 1) := by decide +kernel
theorem dX5_leaveMember_11 : decode cX5_leaveMember 11 = .ok (.iconst 0, 1) := by decide +kernel
theorem dX5_leaveMember_12 : decode cX5_leaveMember 12 = .ok (.putfield 25, 3) := by decide +kernel
theorem dX5_leaveMember_15 : decode cX5_leaveMember 15 = .ok (.aload_n 0, 1) := by decide +kernel
theorem dX5_leaveMember_16 : decode cX5_leaveMember 16 = .ok (.iconst 0, 1) := by decide +kernel
theorem dX5_leaveMember_17 : decode cX5_leaveMember 17 = .ok (.putfield 29, 3) := by decide +kernel
theorem dX5_leaveMember_20 : decode cX5_leaveMember 20 = .ok (.return_, 1) := by decide +kernel
theorem dX5_placeNamed_0 : decode cX5_placeNamed 0 = .ok (.iconst 0, 1) := by decide +kernel
theorem dX5_placeNamed_1 : decode cX5_placeNamed 1 = .ok (.istore_n 3, 1) := by decide +kernel
theorem dX5_placeNamed_2 : decode cX5_placeNamed 2 = .ok (.iload_n 3, 1) := by decide +kernel
theorem dX5_placeNamed_3 : decode cX5_placeNamed 3 = .ok (.aload_n 0, 1) := by decide +kernel
theorem dX5_placeNamed_4 : decode cX5_placeNamed 4 = .ok (.getfield 22, 3) := by decide +kernel
theorem dX5_placeNamed_7 : decode cX5_placeNamed 7 = .ok (.if_icmp .ge 25, 3) := by decide +kernel
theorem dX5_placeNamed_10 : decode cX5_placeNamed 10 = .ok (.aload_n 0, 1) := by decide +kernel
theorem dX5_placeNamed_11 : decode cX5_placeNamed 11 = .ok (.getfield 15, 3) := by decide +kernel
theorem dX5_placeNamed_14 : decode cX5_placeNamed 14 = .ok (.iload_n 3, 1) := by decide +kernel
theorem dX5_placeNamed_15 : decode cX5_placeNamed 15 = .ok (.laload, 1) := by decide +kernel
theorem dX5_placeNamed_16 : decode cX5_placeNamed 16 = .ok (.lload_n 1, 1) := by decide +kernel
theorem dX5_placeNamed_17 : decode cX5_placeNamed 17 = .ok (.lcmp, 1) := by decide +kernel
theorem dX5_placeNamed_18 : decode cX5_placeNamed 18 = .ok (.ifCond .ne 8, 3) := by decide +kernel
theorem dX5_placeNamed_21 : decode cX5_placeNamed 21 = .ok (.bipush 19, 2) := by decide +kernel
theorem dX5_placeNamed_23 : decode cX5_placeNamed 23 = .ok (.iload_n 3, 1) := by decide +kernel
theorem dX5_placeNamed_24 : decode cX5_placeNamed 24 = .ok (.iadd, 1) := by decide +kernel
theorem dX5_placeNamed_25 : decode cX5_placeNamed 25 = .ok (.ireturn, 1) := by decide +kernel
theorem dX5_placeNamed_26 : decode cX5_placeNamed 26 = .ok (.iinc 3 1, 3) := by decide +kernel
theorem dX5_placeNamed_29 : decode cX5_placeNamed 29 = .ok (.goto (-27), 3) := by decide +kernel
theorem dX5_placeNamed_32 : decode cX5_placeNamed 32 = .ok (.iconst 0, 1) := by decide +kernel
theorem dX5_placeNamed_33 : decode cX5_placeNamed 33 = .ok (.istore_n 3, 1) := by decide +kernel
theorem dX5_placeNamed_34 : decode cX5_placeNamed 34 = .ok (.iload_n 3, 1) := by decide +kernel
theorem dX5_placeNamed_35 : decode cX5_placeNamed 35 = .ok (.aload_n 0, 1) := by decide +kernel
theorem dX5_placeNamed_36 : decode cX5_placeNamed 36 = .ok (.getfield 18, 3) := by decide +kernel
theorem dX5_placeNamed_39 : decode cX5_placeNamed 39 = .ok (.if_icmp .ge 25, 3) := by decide +kernel
theorem dX5_placeNamed_42 : decode cX5_placeNamed 42 = .ok (.aload_n 0, 1) := by decide +kernel
theorem dX5_placeNamed_43 : decode cX5_placeNamed 43 = .ok (.getfield 9, 3) := by decide +kernel
theorem dX5_placeNamed_46 : decode cX5_placeNamed 46 = .ok (.iload_n 3, 1) := by decide +kernel
theorem dX5_placeNamed_47 : decode cX5_placeNamed 47 = .ok (.laload, 1) := by decide +kernel
theorem dX5_placeNamed_48 : decode cX5_placeNamed 48 = .ok (.lload_n 1, 1) := by decide +kernel
theorem dX5_placeNamed_49 : decode cX5_placeNamed 49 = .ok (.lcmp, 1) := by decide +kernel
theorem dX5_placeNamed_50 : decode cX5_placeNamed 50 = .ok (.ifCond .ne 8, 3) := by decide +kernel
theorem dX5_placeNamed_53 : decode cX5_placeNamed 53 = .ok (.bipush 16, 2) := by decide +kernel
theorem dX5_placeNamed_55 : decode cX5_placeNamed 55 = .ok (.iload_n 3, 1) := by decide +kernel
theorem dX5_placeNamed_56 : decode cX5_placeNamed 56 = .ok (.iadd, 1) := by decide +kernel
theorem dX5_placeNamed_57 : decode cX5_placeNamed 57 = .ok (.ireturn, 1) := by decide +kernel
theorem dX5_placeNamed_58 : decode cX5_placeNamed 58 = .ok (.iinc 3 1, 3) := by decide +kernel
theorem dX5_placeNamed_61 : decode cX5_placeNamed 61 = .ok (.goto (-27), 3) := by decide +kernel
theorem dX5_placeNamed_64 : decode cX5_placeNamed 64 = .ok (.aload_n 0, 1) := by decide +kernel
theorem dX5_placeNamed_65 : decode cX5_placeNamed 65 = .ok (.getfield 32, 3) := by decide +kernel
theorem dX5_placeNamed_68 : decode cX5_placeNamed 68 = .ok (.lload_n 1, 1) := by decide +kernel
theorem dX5_placeNamed_69 : decode cX5_placeNamed 69 = .ok (.invokevirtual 36, 3) := by decide +kernel
theorem dX5_placeNamed_72 : decode cX5_placeNamed 72 = .ok (.ireturn, 1) := by decide +kernel
theorem dX7_wipe_0 : decode cX7_wipe 0 = .ok (.aload_n 0, 1) := by decide +kernel
theorem dX7_wipe_1 : decode cX7_wipe 1 = .ok (.iconst 0, 1) := by decide +kernel
theorem dX7_wipe_2 : decode cX7_wipe 2 = .ok (.putfield 58, 3) := by decide +kernel
theorem dX7_wipe_5 : decode cX7_wipe 5 = .ok (.aload_n 0, 1) := by decide +kernel
theorem dX7_wipe_6 : decode cX7_wipe 6 = .ok (.iconst 0, 1) := by decide +kernel
theorem dX7_wipe_7 : decode cX7_wipe 7 = .ok (.putfield 62, 3) := by decide +kernel
theorem dX7_wipe_10 : decode cX7_wipe 10 = .ok (.aload_n 0, 1) := by decide +kernel
theorem dX7_wipe_11 : decode cX7_wipe 11 = .ok (.iconst 0, 1) := by decide +kernel
theorem dX7_wipe_12 : decode cX7_wipe 12 = .ok (.putfield 65, 3) := by decide +kernel
theorem dX7_wipe_15 : decode cX7_wipe 15 = .ok (.aload_n 0, 1) := by decide +kernel
theorem dX7_wipe_16 : decode cX7_wipe 16 = .ok (.iconst 0, 1) := by decide +kernel
theorem dX7_wipe_17 : decode cX7_wipe 17 = .ok (.putfield 68, 3) := by decide +kernel
theorem dX7_wipe_20 : decode cX7_wipe 20 = .ok (.aload_n 0, 1) := by decide +kernel
theorem dX7_wipe_21 : decode cX7_wipe 21 = .ok (.iconst 0, 1) := by decide +kernel
theorem dX7_wipe_22 : decode cX7_wipe 22 = .ok (.putfield 71, 3) := by decide +kernel
theorem dX7_wipe_25 : decode cX7_wipe 25 = .ok (.aload_n 0, 1) := by decide +kernel
theorem dX7_wipe_26 : decode cX7_wipe 26 = .ok (.iconst 0, 1) := by decide +kernel
theorem dX7_wipe_27 : decode cX7_wipe 27 = .ok (.putfield 74, 3) := by decide +kernel
theorem dX7_wipe_30 : decode cX7_wipe 30 = .ok (.aload_n 0, 1) := by decide +kernel
theorem dX7_wipe_31 : decode cX7_wipe 31 = .ok (.iconst 0, 1) := by decide +kernel
theorem dX7_wipe_32 : decode cX7_wipe 32 = .ok (.putfield 77, 3) := by decide +kernel
theorem dX7_wipe_35 : decode cX7_wipe 35 = .ok (.return_, 1) := by decide +kernel
theorem dX7_classNamed_0 : decode cX7_classNamed 0 = .ok (.iconst 0, 1) := by decide +kernel
theorem dX7_classNamed_1 : decode cX7_classNamed 1 = .ok (.istore_n 3, 1) := by decide +kernel
theorem dX7_classNamed_2 : decode cX7_classNamed 2 = .ok (.iload_n 3, 1) := by decide +kernel
theorem dX7_classNamed_3 : decode cX7_classNamed 3 = .ok (.aload_n 0, 1) := by decide +kernel
theorem dX7_classNamed_4 : decode cX7_classNamed 4 = .ok (.getfield 58, 3) := by decide +kernel
theorem dX7_classNamed_7 : decode cX7_classNamed 7 = .ok (.if_icmp .ge 25, 3) := by decide +kernel
theorem dX7_classNamed_10 : decode cX7_classNamed 10 = .ok (.aload_n 0, 1) := by decide +kernel
theorem dX7_classNamed_11 : decode cX7_classNamed 11 = .ok (.getfield 13, 3) := by decide +kernel
theorem dX7_classNamed_14 : decode cX7_classNamed 14 = .ok (.iload_n 3, 1) := by decide +kernel
theorem dX7_classNamed_15 : decode cX7_classNamed 15 = .ok (.aaload, 1) := by decide +kernel
theorem dX7_classNamed_16 : decode cX7_classNamed 16 = .ok (.getfield 90, 3) := by decide +kernel
theorem dX7_classNamed_19 : decode cX7_classNamed 19 = .ok (.lload_n 1, 1) := by decide +kernel
theorem dX7_classNamed_20 : decode cX7_classNamed 20 = .ok (.lcmp, 1) := by decide +kernel
theorem dX7_classNamed_21 : decode cX7_classNamed 21 = .ok (.ifCond .ne 5, 3) := by decide +kernel
theorem dX7_classNamed_24 : decode cX7_classNamed 24 = .ok (.iload_n 3, 1) := by decide +kernel
theorem dX7_classNamed_25 : decode cX7_classNamed 25 = .ok (.ireturn, 1) := by decide +kernel
theorem dX7_classNamed_26 : decode cX7_classNamed 26 = .ok (.iinc 3 1, 3) := by decide +kernel
theorem dX7_classNamed_29 : decode cX7_classNamed 29 = .ok (.goto (-27), 3) := by decide +kernel
theorem dX7_classNamed_32 : decode cX7_classNamed 32 = .ok (.iconst (-1), 1) := by decide +kernel
theorem dX7_classNamed_33 : decode cX7_classNamed 33 = .ok (.ireturn, 1) := by decide +kernel
theorem dX7_emit_0 : decode cX7_emit 0 = .ok (.aload_n 0, 1) := by decide +kernel
theorem dX7_emit_1 : decode cX7_emit 1 = .ok (.getfield 65, 3) := by decide +kernel
theorem dX7_emit_4 : decode cX7_emit 4 = .ok (.sipush 2000, 3) := by decide +kernel
theorem dX7_emit_7 : decode cX7_emit 7 = .ok (.if_icmp .ge 33, 3) := by decide +kernel
theorem dX7_emit_10 : decode cX7_emit 10 = .ok (.aload_n 0, 1) := by decide +kernel
theorem dX7_emit_11 : decode cX7_emit 11 = .ok (.getfield 25, 3) := by decide +kernel
theorem dX7_emit_14 : decode cX7_emit 14 = .ok (.aload_n 0, 1) := by decide +kernel
theorem dX7_emit_15 : decode cX7_emit 15 = .ok (.getfield 65, 3) := by decide +kernel
theorem dX7_emit_18 : decode cX7_emit 18 = .ok (.iload_n 1, 1) := by decide +kernel
theorem dX7_emit_19 : decode cX7_emit 19 = .ok (.iastore, 1) := by decide +kernel
theorem dX7_emit_20 : decode cX7_emit 20 = .ok (.aload_n 0, 1) := by decide +kernel
theorem dX7_emit_21 : decode cX7_emit 21 = .ok (.getfield 29, 3) := by decide +kernel
theorem dX7_emit_24 : decode cX7_emit 24 = .ok (.aload_n 0, 1) := by decide +kernel
theorem dX7_emit_25 : decode cX7_emit 25 = .ok (.getfield 65, 3) := by decide +kernel
theorem dX7_emit_28 : decode cX7_emit 28 = .ok (.iload_n 2, 1) := by decide +kernel
theorem dX7_emit_29 : decode cX7_emit 29 = .ok (.iastore, 1) := by decide +kernel
theorem dX7_emit_30 : decode cX7_emit 30 = .ok (.aload_n 0, 1) := by decide +kernel
theorem dX7_emit_31 : decode cX7_emit 31 = .ok (.dup, 1) := by decide +kernel
theorem dX7_emit_32 : decode cX7_emit 32 = .ok (.getfield 65, 3) := by decide +kernel
theorem dX7_emit_35 : decode cX7_emit 35 = .ok (.iconst 1, 1) := by decide +kernel
theorem dX7_emit_36 : decode cX7_emit 36 = .ok (.iadd, 1) := by decide +kernel
theorem dX7_emit_37 : decode cX7_emit 37 = .ok (.putfield 65, 3) := by decide +kernel
theorem dX7_emit_40 : decode cX7_emit 40 = .ok (.return_, 1) := by decide +kernel
theorem dX7_leadHere_0 : decode cX7_leadHere 0 = .ok (.iload_n 1, 1) := by decide +kernel
theorem dX7_leadHere_1 : decode cX7_leadHere 1 = .ok (.ifCond .lt 21, 3) := by decide +kernel
theorem dX7_leadHere_4 : decode cX7_leadHere 4 = .ok (.iload_n 1, 1) := by decide +kernel
theorem dX7_leadHere_5 : decode cX7_leadHere 5 = .ok (.aload_n 0, 1) := by decide +kernel
theorem dX7_leadHere_6 : decode cX7_leadHere 6 = .ok (.getfield 65, 3) := by decide +kernel
theorem dX7_leadHere_9 : decode cX7_leadHere 9 = .ok (.if_icmp .ge 13, 3) := by decide +kernel
theorem dX7_leadHere_12 : decode cX7_leadHere 12 = .ok (.aload_n 0, 1) := by decide +kernel
theorem dX7_leadHere_13 : decode cX7_leadHere 13 = .ok (.getfield 29, 3) := by decide +kernel
theorem dX7_leadHere_16 : decode cX7_leadHere 16 = .ok (.iload_n 1, 1) := by decide +kernel
theorem dX7_leadHere_17 : decode cX7_leadHere 17 = .ok (.aload_n 0, 1) := by decide +kernel
theorem dX7_leadHere_18 : decode cX7_leadHere 18 = .ok (.getfield 65, 3) := by decide +kernel
theorem dX7_leadHere_21 : decode cX7_leadHere 21 = .ok (.iastore, 1) := by decide +kernel
theorem dX7_leadHere_22 : decode cX7_leadHere 22 = .ok (.return_, 1) := by decide +kernel
theorem dX7_addMark_0 : decode cX7_addMark 0 = .ok (.aload_n 0, 1) := by decide +kernel
theorem dX7_addMark_1 : decode cX7_addMark 1 = .ok (.getfield 68, 3) := by decide +kernel
theorem dX7_addMark_4 : decode cX7_addMark 4 = .ok (.sipush 499, 3) := by decide +kernel
theorem dX7_addMark_7 : decode cX7_addMark 7 = .ok (.invokestatic 102, 3) := by decide +kernel
theorem dX7_addMark_10 : decode cX7_addMark 10 = .ok (.istore 4, 2) := by decide +kernel
theorem dX7_addMark_12 : decode cX7_addMark 12 = .ok (.aload_n 0, 1) := by decide +kernel
theorem dX7_addMark_13 : decode cX7_addMark 13 = .ok (.getfield 32, 3) := by decide +kernel
theorem dX7_addMark_16 : decode cX7_addMark 16 = .ok (.iload 4, 2) := by decide +kernel
theorem dX7_addMark_18 : decode cX7_addMark 18 = .ok (.iload_n 1, 1) := by decide +kernel
theorem dX7_addMark_19 : decode cX7_addMark 19 = .ok (.iastore, 1) := by decide +kernel
theorem dX7_addMark_20 : decode cX7_addMark 20 = .ok (.aload_n 0, 1) := by decide +kernel
theorem dX7_addMark_21 : decode cX7_addMark 21 = .ok (.getfield 44, 3) := by decide +kernel
theorem dX7_addMark_24 : decode cX7_addMark 24 = .ok (.iload 4, 2) := by decide +kernel
theorem dX7_addMark_26 : decode cX7_addMark 26 = .ok (.iload_n 2, 1) := by decide +kernel
theorem dX7_addMark_27 : decode cX7_addMark 27 = .ok (.iastore, 1) := by decide +kernel
theorem dX7_addMark_28 : decode cX7_addMark 28 = .ok (.aload_n 0, 1) := by decide +kernel
theorem dX7_addMark_29 : decode cX7_addMark 29 = .ok (.getfield 38, 3) := by decide +kernel
theorem dX7_addMark_32 : decode cX7_addMark 32 = .ok (.iload 4, 2) := by decide +kernel
theorem dX7_addMark_34 : decode cX7_addMark 34 = .ok (.iload_n 3, 1) := by decide +kernel
theorem dX7_addMark_35 : decode cX7_addMark 35 = .ok (.iastore, 1) := by decide +kernel
theorem dX7_addMark_36 : decode cX7_addMark 36 = .ok (.aload_n 0, 1) := by decide +kernel
theorem dX7_addMark_37 : decode cX7_addMark 37 = .ok (.getfield 35, 3) := by decide +kernel
theorem dX7_addMark_40 : decode cX7_addMark 40 = .ok (.iload 4, 2) := by decide +kernel
theorem dX7_addMark_42 : decode cX7_addMark 42 = .ok (.aload_n 0, 1) := by decide +kernel
theorem dX7_addMark_43 : decode cX7_addMark 43 = .ok (.getfield 65, 3) := by decide +kernel
theorem dX7_addMark_46 : decode cX7_addMark 46 = .ok (.iastore, 1) := by decide +kernel
theorem dX7_addMark_47 : decode cX7_addMark 47 = .ok (.aload_n 0, 1) := by decide +kernel
theorem dX7_addMark_48 : decode cX7_addMark 48 = .ok (.getfield 41, 3) := by decide +kernel
theorem dX7_addMark_51 : decode cX7_addMark 51 = .ok (.iload 4, 2) := by decide +kernel
theorem dX7_addMark_53 : decode cX7_addMark 53 = .ok (.iconst 0, 1) := by decide +kernel
theorem dX7_addMark_54 : decode cX7_addMark 54 = .ok (.iastore, 1) := by decide +kernel
theorem dX7_addMark_55 : decode cX7_addMark 55 = .ok (.aload_n 0, 1) := by decide +kernel
theorem dX7_addMark_56 : decode cX7_addMark 56 = .ok (.getfield 47, 3) := by decide +kernel
theorem dX7_addMark_59 : decode cX7_addMark 59 = .ok (.iload 4, 2) := by decide +kernel
theorem dX7_addMark_61 : decode cX7_addMark 61 = .ok (.lconst 0, 1) := by decide +kernel
theorem dX7_addMark_62 : decode cX7_addMark 62 = .ok (.lastore, 1) := by decide +kernel
theorem dX7_addMark_63 : decode cX7_addMark 63 = .ok (.aload_n 0, 1) := by decide +kernel
theorem dX7_addMark_64 : decode cX7_addMark 64 = .ok (.iload 4, 2) := by decide +kernel
theorem dX7_addMark_66 : decode cX7_addMark 66 = .ok (.iconst 1, 1) := by decide +kernel
theorem dX7_addMark_67 : decode cX7_addMark 67 = .ok (.iadd, 1) := by decide +kernel
theorem dX7_addMark_68 : decode cX7_addMark 68 = .ok (.putfield 68, 3) := by decide +kernel
theorem dX7_addMark_71 : decode cX7_addMark 71 = .ok (.iload 4, 2) := by decide +kernel
theorem dX7_addMark_73 : decode cX7_addMark 73 = .ok (.ireturn, 1) := by decide +kernel
theorem dX7_addStatement_0 : decode cX7_addStatement 0 = .ok (.aload_n 0, 1) := by decide +kernel
theorem dX7_addStatement_1 : decode cX7_addStatement 1 = .ok (.getfield 71, 3) := by decide +kernel
theorem dX7_addStatement_4 : decode cX7_addStatement 4 = .ok (.sipush 419, 3) := by decide +kernel
theorem dX7_addStatement_7 : decode cX7_addStatement 7 = .ok (.invokestatic 102, 3) := by decide +kernel
theorem dX7_addStatement_10 : decode cX7_addStatement 10 = .ok (.istore_n 1, 1) := by decide +kernel
theorem dX7_addStatement_11 : decode cX7_addStatement 11 = .ok (.aload_n 0, 1) := by decide +kernel
theorem dX7_addStatement_12 : decode cX7_addStatement 12 = .ok (.getfield 51, 3) := by decide +kernel
theorem dX7_addStatement_15 : decode cX7_addStatement 15 = .ok (.iload_n 1, 1) := by decide +kernel
theorem dX7_addStatement_16 : decode cX7_addStatement 16 = .ok (.iconst 0, 1) := by decide +kernel
theorem dX7_addStatement_17 : decode cX7_addStatement 17 = .ok (.bastore, 1) := by decide +kernel
theorem dX7_addStatement_18 : decode cX7_addStatement 18 = .ok (.aload_n 0, 1) := by decide +kernel
theorem dX7_addStatement_19 : decode cX7_addStatement 19 = .ok (.iload_n 1, 1) := by decide +kernel
theorem dX7_addStatement_20 : decode cX7_addStatement 20 = .ok (.iconst 1, 1) := by decide +kernel
theorem dX7_addStatement_21 : decode cX7_addStatement 21 = .ok (.iadd, 1) := by decide +kernel
theorem dX7_addStatement_22 : decode cX7_addStatement 22 = .ok (.putfield 71, 3) := by decide +kernel
theorem dX7_addStatement_25 : decode cX7_addStatement 25 = .ok (.iload_n 1, 1) := by decide +kernel
theorem dX7_addStatement_26 : decode cX7_addStatement 26 = .ok (.ireturn, 1) := by decide +kernel
theorem dX7_addWord_0 : decode cX7_addWord 0 = .ok (.aload_n 0, 1) := by decide +kernel
theorem dX7_addWord_1 : decode cX7_addWord 1 = .ok (.getfield 74, 3) := by decide +kernel
theorem dX7_addWord_4 : decode cX7_addWord 4 = .ok (.sipush 419, 3) := by decide +kernel
theorem dX7_addWord_7 : decode cX7_addWord 7 = .ok (.invokestatic 102, 3) := by decide +kernel
theorem dX7_addWord_10 : decode cX7_addWord 10 = .ok (.istore_n 3, 1) := by decide +kernel
theorem dX7_addWord_11 : decode cX7_addWord 11 = .ok (.aload_n 0, 1) := by decide +kernel
theorem dX7_addWord_12 : decode cX7_addWord 12 = .ok (.getfield 55, 3) := by decide +kernel
theorem dX7_addWord_15 : decode cX7_addWord 15 = .ok (.iload_n 3, 1) := by decide +kernel
theorem dX7_addWord_16 : decode cX7_addWord 16 = .ok (.lload_n 1, 1) := by decide +kernel
theorem dX7_addWord_17 : decode cX7_addWord 17 = .ok (.lastore, 1) := by decide +kernel
theorem dX7_addWord_18 : decode cX7_addWord 18 = .ok (.aload_n 0, 1) := by decide +kernel
theorem dX7_addWord_19 : decode cX7_addWord 19 = .ok (.iload_n 3, 1) := by decide +kernel
theorem dX7_addWord_20 : decode cX7_addWord 20 = .ok (.iconst 1, 1) := by decide +kernel
theorem dX7_addWord_21 : decode cX7_addWord 21 = .ok (.iadd, 1) := by decide +kernel
theorem dX7_addWord_22 : decode cX7_addWord 22 = .ok (.putfield 74, 3) := by decide +kernel
theorem dX7_addWord_25 : decode cX7_addWord 25 = .ok (.iload_n 3, 1) := by decide +kernel
theorem dX7_addWord_26 : decode cX7_addWord 26 = .ok (.ireturn, 1) := by decide +kernel
theorem dX8_codeOf_0 : decode cX8_codeOf 0 = .ok (.iload_n 0, 1) := by decide +kernel
theorem dX8_codeOf_1 : decode cX8_codeOf 1 = .ok (.bipush 97, 2) := by decide +kernel
theorem dX8_codeOf_3 : decode cX8_codeOf 3 = .ok (.if_icmp .lt 16, 3) := by decide +kernel
theorem dX8_codeOf_6 : decode cX8_codeOf 6 = .ok (.iload_n 0, 1) := by decide +kernel
theorem dX8_codeOf_7 : decode cX8_codeOf 7 = .ok (.bipush 122, 2) := by decide +kernel
theorem dX8_codeOf_9 : decode cX8_codeOf 9 = .ok (.if_icmp .gt 10, 3) := by decide +kernel
theorem dX8_codeOf_12 : decode cX8_codeOf 12 = .ok (.iload_n 0, 1) := by decide +kernel
theorem dX8_codeOf_13 : decode cX8_codeOf 13 = .ok (.bipush 97, 2) := by decide +kernel
theorem dX8_codeOf_15 : decode cX8_codeOf 15 = .ok (.isub, 1) := by decide +kernel
theorem dX8_codeOf_16 : decode cX8_codeOf 16 = .ok (.iconst 1, 1) := by decide +kernel
theorem dX8_codeOf_17 : decode cX8_codeOf 17 = .ok (.iadd, 1) := by decide +kernel
theorem dX8_codeOf_18 : decode cX8_codeOf 18 = .ok (.ireturn, 1) := by decide +kernel
theorem dX8_codeOf_19 : decode cX8_codeOf 19 = .ok (.iload_n 0, 1) := by decide +kernel
theorem dX8_codeOf_20 : decode cX8_codeOf 20 = .ok (.bipush 48, 2) := by decide +kernel
theorem dX8_codeOf_22 : decode cX8_codeOf 22 = .ok (.if_icmp .lt 17, 3) := by decide +kernel
theorem dX8_codeOf_25 : decode cX8_codeOf 25 = .ok (.iload_n 0, 1) := by decide +kernel
theorem dX8_codeOf_26 : decode cX8_codeOf 26 = .ok (.bipush 57, 2) := by decide +kernel
theorem dX8_codeOf_28 : decode cX8_codeOf 28 = .ok (.if_icmp .gt 11, 3) := by decide +kernel
theorem dX8_codeOf_31 : decode cX8_codeOf 31 = .ok (.iload_n 0, 1) := by decide +kernel
theorem dX8_codeOf_32 : decode cX8_codeOf 32 = .ok (.bipush 48, 2) := by decide +kernel
theorem dX8_codeOf_34 : decode cX8_codeOf 34 = .ok (.isub, 1) := by decide +kernel
theorem dX8_codeOf_35 : decode cX8_codeOf 35 = .ok (.bipush 27, 2) := by decide +kernel
theorem dX8_codeOf_37 : decode cX8_codeOf 37 = .ok (.iadd, 1) := by decide +kernel
theorem dX8_codeOf_38 : decode cX8_codeOf 38 = .ok (.ireturn, 1) := by decide +kernel
theorem dX8_codeOf_39 : decode cX8_codeOf 39 = .ok (.iload_n 0, 1) := by decide +kernel
theorem dX8_codeOf_40 : decode cX8_codeOf 40 = .ok (.bipush 95, 2) := by decide +kernel
theorem dX8_codeOf_42 : decode cX8_codeOf 42 = .ok (.if_icmp .ne 8, 3) := by decide +kernel
theorem dX8_codeOf_45 : decode cX8_codeOf 45 = .ok (.bipush 37, 2) := by decide +kernel
theorem dX8_codeOf_47 : decode cX8_codeOf 47 = .ok (.goto 4, 3) := by decide +kernel
theorem dX8_codeOf_50 : decode cX8_codeOf 50 = .ok (.iconst 0, 1) := by decide +kernel
theorem dX8_codeOf_51 : decode cX8_codeOf 51 = .ok (.ireturn, 1) := by decide +kernel
theorem dX8_takeApart_0 : decode cX8_takeApart 0 = .ok (.aload_n 0, 1) := by decide +kernel
theorem dX8_takeApart_1 : decode cX8_takeApart 1 = .ok (.aload_n 1, 1) := by decide +kernel
theorem dX8_takeApart_2 : decode cX8_takeApart 2 = .ok (.putfield 25, 3) := by decide +kernel
theorem dX8_takeApart_5 : decode cX8_takeApart 5 = .ok (.aload_n 0, 1) := by decide +kernel
theorem dX8_takeApart_6 : decode cX8_takeApart 6 = .ok (.iload_n 2, 1) := by decide +kernel
theorem dX8_takeApart_7 : decode cX8_takeApart 7 = .ok (.aload_n 1, 1) := by decide +kernel
theorem dX8_takeApart_8 : decode cX8_takeApart 8 = .ok (.arraylength, 1) := by decide +kernel
theorem dX8_takeApart_9 : decode cX8_takeApart 9 = .ok (.invokestatic 57, 3) := by decide +kernel
theorem dX8_takeApart_12 : decode cX8_takeApart 12 = .ok (.putfield 63, 3) := by decide +kernel
theorem dX8_takeApart_15 : decode cX8_takeApart 15 = .ok (.aload_n 0, 1) := by decide +kernel
theorem dX8_takeApart_16 : decode cX8_takeApart 16 = .ok (.iconst 0, 1) := by decide +kernel
theorem dX8_takeApart_17 : decode cX8_takeApart 17 = .ok (.putfield 65, 3) := by decide +kernel
theorem dX8_takeApart_20 : decode cX8_takeApart 20 = .ok (.aload_n 0, 1) := by decide +kernel
theorem dX8_takeApart_21 : decode cX8_takeApart 21 = .ok (.iconst 0, 1) := by decide +kernel
theorem dX8_takeApart_22 : decode cX8_takeApart 22 = .ok (.putfield 68, 3) := by decide +kernel
theorem dX8_takeApart_25 : decode cX8_takeApart 25 = .ok (.aload_n 0, 1) := by decide +kernel
theorem dX8_takeApart_26 : decode cX8_takeApart 26 = .ok (.iconst (-1), 1) := by decide +kernel
theorem dX8_takeApart_27 : decode cX8_takeApart 27 = .ok (.putfield 29, 3) := by decide +kernel
theorem dX8_takeApart_30 : decode cX8_takeApart 30 = .ok (.iconst 0, 1) := by decide +kernel
theorem dX8_takeApart_31 : decode cX8_takeApart 31 = .ok (.istore_n 3, 1) := by decide +kernel
theorem dX8_takeApart_32 : decode cX8_takeApart 32 = .ok (.iconst 0, 1) := by decide +kernel
theorem dX8_takeApart_33 : decode cX8_takeApart 33 = .ok (.istore 4, 2) := by decide +kernel
theorem dX8_takeApart_35 : decode cX8_takeApart 35 = .ok (.iconst 0, 1) := by decide +kernel
theorem dX8_takeApart_36 : decode cX8_takeApart 36 = .ok (.istore 5, 2) := by decide +kernel
theorem dX8_takeApart_38 : decode cX8_takeApart 38 = .ok (.iload 5, 2) := by decide +kernel
theorem dX8_takeApart_40 : decode cX8_takeApart 40 = .ok (.sipush 1200, 3) := by decide +kernel
theorem dX8_takeApart_43 : decode cX8_takeApart 43 = .ok (.if_icmp .gt 46, 3) := by decide +kernel
theorem dX8_takeApart_46 : decode cX8_takeApart 46 = .ok (.iload 4, 2) := by decide +kernel
theorem dX8_takeApart_48 : decode cX8_takeApart 48 = .ok (.iconst 1, 1) := by decide +kernel
theorem dX8_takeApart_49 : decode cX8_takeApart 49 = .ok (.if_icmp .eq 40, 3) := by decide +kernel
theorem dX8_takeApart_52 : decode cX8_takeApart 52 = .ok (.iload 4, 2) := by decide +kernel
theorem dX8_takeApart_54 : decode cX8_takeApart 54 = .ok (.iconst 2, 1) := by decide +kernel
theorem dX8_takeApart_55 : decode cX8_takeApart 55 = .ok (.if_icmp .eq 34, 3) := by decide +kernel
theorem dX8_takeApart_58 : decode cX8_takeApart 58 = .ok (.aload_n 0, 1) := by decide +kernel
theorem dX8_takeApart_59 : decode cX8_takeApart 59 = .ok (.iload_n 3, 1) := by decide +kernel
theorem dX8_takeApart_60 : decode cX8_takeApart 60 = .ok (.invokevirtual 71, 3) := by decide +kernel
theorem dX8_takeApart_63 : decode cX8_takeApart 63 = .ok (.istore_n 3, 1) := by decide +kernel
theorem dX8_takeApart_64 : decode cX8_takeApart 64 = .ok (.iload_n 3, 1) := by decide +kernel
theorem dX8_takeApart_65 : decode cX8_takeApart 65 = .ok (.aload_n 0, 1) := by decide +kernel
theorem dX8_takeApart_66 : decode cX8_takeApart 66 = .ok (.iload 5, 2) := by decide +kernel
theorem dX8_takeApart_68 : decode cX8_takeApart 68 = .ok (.iload_n 3, 1) := by decide +kernel
theorem dX8_takeApart_69 : decode cX8_takeApart 69 = .ok (.invokevirtual 74, 3) := by decide +kernel
theorem dX8_takeApart_72 : decode cX8_takeApart 72 = .ok (.iadd, 1) := by decide +kernel
theorem dX8_takeApart_73 : decode cX8_takeApart 73 = .ok (.istore_n 3, 1) := by decide +kernel
theorem dX8_takeApart_74 : decode cX8_takeApart 74 = .ok (.aload_n 0, 1) := by decide +kernel
theorem dX8_takeApart_75 : decode cX8_takeApart 75 = .ok (.getfield 11, 3) := by decide +kernel
theorem dX8_takeApart_78 : decode cX8_takeApart 78 = .ok (.iload 5, 2) := by decide +kernel
theorem dX8_takeApart_80 : decode cX8_takeApart 80 = .ok (.iaload, 1) := by decide +kernel
theorem dX8_takeApart_81 : decode cX8_takeApart 81 = .ok (.istore 4, 2) := by decide +kernel
theorem dX8_takeApart_83 : decode cX8_takeApart 83 = .ok (.iinc 5 1, 3) := by decide +kernel
theorem dX8_takeApart_86 : decode cX8_takeApart 86 = .ok (.goto (-48), 3) := by decide +kernel
theorem dX8_takeApart_89 : decode cX8_takeApart 89 = .ok (.aload_n 0, 1) := by decide +kernel
theorem dX8_takeApart_90 : decode cX8_takeApart 90 = .ok (.getfield 11, 3) := by decide +kernel
theorem dX8_takeApart_93 : decode cX8_takeApart 93 = .ok (.sipush 1201, 3) := by decide +kernel
theorem dX8_takeApart_96 : decode cX8_takeApart 96 = .ok (.iconst 0, 1) := by decide +kernel
theorem dX8_takeApart_97 : decode cX8_takeApart 97 = .ok (.iastore, 1) := by decide +kernel
theorem dX8_takeApart_98 : decode cX8_takeApart 98 = .ok (.aload_n 0, 1) := by decide +kernel
theorem dX8_takeApart_99 : decode cX8_takeApart 99 = .ok (.getfield 15, 3) := by decide +kernel
theorem dX8_takeApart_102 : decode cX8_takeApart 102 = .ok (.sipush 1201, 3) := by decide +kernel
theorem dX8_takeApart_105 : decode cX8_takeApart 105 = .ok (.aload_n 0, 1) := by decide +kernel
theorem dX8_takeApart_106 : decode cX8_takeApart 106 = .ok (.getfield 63, 3) := by decide +kernel
theorem dX8_takeApart_109 : decode cX8_takeApart 109 = .ok (.iastore, 1) := by decide +kernel
theorem dX8_takeApart_110 : decode cX8_takeApart 110 = .ok (.aload_n 0, 1) := by decide +kernel
theorem dX8_takeApart_111 : decode cX8_takeApart 111 = .ok (.aload_n 0, 1) := by decide +kernel
theorem dX8_takeApart_112 : decode cX8_takeApart 112 = .ok (.aload_n 0, 1) := by decide +kernel
theorem dX8_takeApart_113 : decode cX8_takeApart 113 = .ok (.iload_n 3, 1) := by decide +kernel
theorem dX8_takeApart_114 : decode cX8_takeApart 114 = .ok (.invokevirtual 71, 3) := by decide +kernel
theorem dX8_takeApart_117 : decode cX8_takeApart 117 = .ok (.invokevirtual 77, 3) := by decide +kernel
theorem dX8_takeApart_120 : decode cX8_takeApart 120 = .ok (.bipush 40, 2) := by decide +kernel
theorem dX8_takeApart_122 : decode cX8_takeApart 122 = .ok (.if_icmp .ne 7, 3) := by decide +kernel
theorem dX8_takeApart_125 : decode cX8_takeApart 125 = .ok (.iconst 1, 1) := by decide +kernel
theorem dX8_takeApart_126 : decode cX8_takeApart 126 = .ok (.goto 4, 3) := by decide +kernel
theorem dX8_takeApart_129 : decode cX8_takeApart 129 = .ok (.iconst 0, 1) := by decide +kernel
theorem dX8_takeApart_130 : decode cX8_takeApart 130 = .ok (.putfield 80, 3) := by decide +kernel
theorem dX8_takeApart_133 : decode cX8_takeApart 133 = .ok (.return_, 1) := by decide +kernel
theorem dX8_behindBlanks_0 : decode cX8_behindBlanks 0 = .ok (.iload_n 1, 1) := by decide +kernel
theorem dX8_behindBlanks_1 : decode cX8_behindBlanks 1 = .ok (.istore_n 2, 1) := by decide +kernel
theorem dX8_behindBlanks_2 : decode cX8_behindBlanks 2 = .ok (.iload_n 2, 1) := by decide +kernel
theorem dX8_behindBlanks_3 : decode cX8_behindBlanks 3 = .ok (.aload_n 0, 1) := by decide +kernel
theorem dX8_behindBlanks_4 : decode cX8_behindBlanks 4 = .ok (.getfield 63, 3) := by decide +kernel
theorem dX8_behindBlanks_7 : decode cX8_behindBlanks 7 = .ok (.if_icmp .ge 29, 3) := by decide +kernel
theorem dX8_behindBlanks_10 : decode cX8_behindBlanks 10 = .ok (.aload_n 0, 1) := by decide +kernel
theorem dX8_behindBlanks_11 : decode cX8_behindBlanks 11 = .ok (.iload_n 2, 1) := by decide +kernel
theorem dX8_behindBlanks_12 : decode cX8_behindBlanks 12 = .ok (.invokevirtual 77, 3) := by decide +kernel
theorem dX8_behindBlanks_15 : decode cX8_behindBlanks 15 = .ok (.bipush 32, 2) := by decide +kernel
theorem dX8_behindBlanks_17 : decode cX8_behindBlanks 17 = .ok (.if_icmp .eq 13, 3) := by decide +kernel
theorem dX8_behindBlanks_20 : decode cX8_behindBlanks 20 = .ok (.aload_n 0, 1) := by decide +kernel
theorem dX8_behindBlanks_21 : decode cX8_behindBlanks 21 = .ok (.iload_n 2, 1) := by decide +kernel
theorem dX8_behindBlanks_22 : decode cX8_behindBlanks 22 = .ok (.invokevirtual 77, 3) := by decide +kernel
theorem dX8_behindBlanks_25 : decode cX8_behindBlanks 25 = .ok (.bipush 10, 2) := by decide +kernel
theorem dX8_behindBlanks_27 : decode cX8_behindBlanks 27 = .ok (.if_icmp .ne 9, 3) := by decide +kernel
theorem dX8_behindBlanks_30 : decode cX8_behindBlanks 30 = .ok (.iinc 2 1, 3) := by decide +kernel
theorem dX8_behindBlanks_33 : decode cX8_behindBlanks 33 = .ok (.goto (-31), 3) := by decide +kernel
theorem dX8_behindBlanks_36 : decode cX8_behindBlanks 36 = .ok (.iload_n 2, 1) := by decide +kernel
theorem dX8_behindBlanks_37 : decode cX8_behindBlanks 37 = .ok (.ireturn, 1) := by decide +kernel
theorem dX8_byteAt_0 : decode cX8_byteAt 0 = .ok (.iload_n 1, 1) := by decide +kernel
theorem dX8_byteAt_1 : decode cX8_byteAt 1 = .ok (.ifCond .lt 24, 3) := by decide +kernel
theorem dX8_byteAt_4 : decode cX8_byteAt 4 = .ok (.iload_n 1, 1) := by decide +kernel
theorem dX8_byteAt_5 : decode cX8_byteAt 5 = .ok (.aload_n 0, 1) := by decide +kernel
theorem dX8_byteAt_6 : decode cX8_byteAt 6 = .ok (.getfield 63, 3) := by decide +kernel
theorem dX8_byteAt_9 : decode cX8_byteAt 9 = .ok (.if_icmp .ge 16, 3) := by decide +kernel
theorem dX8_byteAt_12 : decode cX8_byteAt 12 = .ok (.aload_n 0, 1) := by decide +kernel
theorem dX8_byteAt_13 : decode cX8_byteAt 13 = .ok (.getfield 25, 3) := by decide +kernel
theorem dX8_byteAt_16 : decode cX8_byteAt 16 = .ok (.iload_n 1, 1) := by decide +kernel
theorem dX8_byteAt_17 : decode cX8_byteAt 17 = .ok (.baload, 1) := by decide +kernel
theorem dX8_byteAt_18 : decode cX8_byteAt 18 = .ok (.sipush 255, 3) := by decide +kernel
theorem dX8_byteAt_21 : decode cX8_byteAt 21 = .ok (.iand, 1) := by decide +kernel
theorem dX8_byteAt_22 : decode cX8_byteAt 22 = .ok (.goto 4, 3) := by decide +kernel
theorem dX8_byteAt_25 : decode cX8_byteAt 25 = .ok (.iconst 0, 1) := by decide +kernel
theorem dX8_byteAt_26 : decode cX8_byteAt 26 = .ok (.ireturn, 1) := by decide +kernel
theorem dX8_takeToken_0 : decode cX8_takeToken 0 = .ok (.aload_n 0, 1) := by decide +kernel
theorem dX8_takeToken_1 : decode cX8_takeToken 1 = .ok (.getfield 15, 3) := by decide +kernel
theorem dX8_takeToken_4 : decode cX8_takeToken 4 = .ok (.iload_n 1, 1) := by decide +kernel
theorem dX8_takeToken_5 : decode cX8_takeToken 5 = .ok (.iload_n 2, 1) := by decide +kernel
theorem dX8_takeToken_6 : decode cX8_takeToken 6 = .ok (.iastore, 1) := by decide +kernel
theorem dX8_takeToken_7 : decode cX8_takeToken 7 = .ok (.aload_n 0, 1) := by decide +kernel
theorem dX8_takeToken_8 : decode cX8_takeToken 8 = .ok (.getfield 18, 3) := by decide +kernel
theorem dX8_takeToken_11 : decode cX8_takeToken 11 = .ok (.iload_n 1, 1) := by decide +kernel
theorem dX8_takeToken_12 : decode cX8_takeToken 12 = .ok (.lconst 0, 1) := by decide +kernel
theorem dX8_takeToken_13 : decode cX8_takeToken 13 = .ok (.lastore, 1) := by decide +kernel
theorem dX8_takeToken_14 : decode cX8_takeToken 14 = .ok (.aload_n 0, 1) := by decide +kernel
theorem dX8_takeToken_15 : decode cX8_takeToken 15 = .ok (.iload_n 2, 1) := by decide +kernel
theorem dX8_takeToken_16 : decode cX8_takeToken 16 = .ok (.invokevirtual 77, 3) := by decide +kernel
theorem dX8_takeToken_19 : decode cX8_takeToken 19 = .ok (.istore_n 3, 1) := by decide +kernel
theorem dX8_takeToken_20 : decode cX8_takeToken 20 = .ok (.iload_n 2, 1) := by decide +kernel
theorem dX8_takeToken_21 : decode cX8_takeToken 21 = .ok (.aload_n 0, 1) := by decide +kernel
theorem dX8_takeToken_22 : decode cX8_takeToken 22 = .ok (.getfield 63, 3) := by decide +kernel
theorem dX8_takeToken_25 : decode cX8_takeToken 25 = .ok (.if_icmp .lt 12, 3) := by decide +kernel
theorem dX8_takeToken_28 : decode cX8_takeToken 28 = .ok (.aload_n 0, 1) := by decide +kernel
theorem dX8_takeToken_29 : decode cX8_takeToken 29 = .ok (.getfield 11, 3) := by decide +kernel
theorem dX8_takeToken_32 : decode cX8_takeToken 32 = .ok (.iload_n 1, 1) := by decide +kernel
theorem dX8_takeToken_33 : decode cX8_takeToken 33 = .ok (.iconst 1, 1) := by decide +kernel
theorem dX8_takeToken_34 : decode cX8_takeToken 34 = .ok (.iastore, 1) := by decide +kernel
theorem dX8_takeToken_35 : decode cX8_takeToken 35 = .ok (.iconst 0, 1) := by decide +kernel
theorem dX8_takeToken_36 : decode cX8_takeToken 36 = .ok (.ireturn, 1) := by decide +kernel
theorem dX8_takeToken_37 : decode cX8_takeToken 37 = .ok (.iload_n 3, 1) := by decide +kernel
theorem dX8_takeToken_38 : decode cX8_takeToken 38 = .ok (.bipush 97, 2) := by decide +kernel
theorem dX8_takeToken_40 : decode cX8_takeToken 40 = .ok (.if_icmp .lt 16, 3) := by decide +kernel
theorem dX8_takeToken_43 : decode cX8_takeToken 43 = .ok (.iload_n 3, 1) := by decide +kernel
theorem dX8_takeToken_44 : decode cX8_takeToken 44 = .ok (.bipush 122, 2) := by decide +kernel
theorem dX8_takeToken_46 : decode cX8_takeToken 46 = .ok (.if_icmp .gt 10, 3) := by decide +kernel
theorem dX8_takeToken_49 : decode cX8_takeToken 49 = .ok (.aload_n 0, 1) := by decide +kernel
theorem dX8_takeToken_50 : decode cX8_takeToken 50 = .ok (.iload_n 1, 1) := by decide +kernel
theorem dX8_takeToken_51 : decode cX8_takeToken 51 = .ok (.iload_n 2, 1) := by decide +kernel
theorem dX8_takeToken_52 : decode cX8_takeToken 52 = .ok (.invokevirtual 84, 3) := by decide +kernel
theorem dX8_takeToken_55 : decode cX8_takeToken 55 = .ok (.ireturn, 1) := by decide +kernel
theorem dX8_takeToken_56 : decode cX8_takeToken 56 = .ok (.iload_n 3, 1) := by decide +kernel
theorem dX8_takeToken_57 : decode cX8_takeToken 57 = .ok (.bipush 48, 2) := by decide +kernel
theorem dX8_takeToken_59 : decode cX8_takeToken 59 = .ok (.if_icmp .lt 16, 3) := by decide +kernel
theorem dX8_takeToken_62 : decode cX8_takeToken 62 = .ok (.iload_n 3, 1) := by decide +kernel
theorem dX8_takeToken_63 : decode cX8_takeToken 63 = .ok (.bipush 57, 2) := by decide +kernel
theorem dX8_takeToken_65 : decode cX8_takeToken 65 = .ok (.if_icmp .gt 10, 3) := by decide +kernel
theorem dX8_takeToken_68 : decode cX8_takeToken 68 = .ok (.aload_n 0, 1) := by decide +kernel
theorem dX8_takeToken_69 : decode cX8_takeToken 69 = .ok (.iload_n 1, 1) := by decide +kernel
theorem dX8_takeToken_70 : decode cX8_takeToken 70 = .ok (.iload_n 2, 1) := by decide +kernel
theorem dX8_takeToken_71 : decode cX8_takeToken 71 = .ok (.invokevirtual 87, 3) := by decide +kernel
theorem dX8_takeToken_74 : decode cX8_takeToken 74 = .ok (.ireturn, 1) := by decide +kernel
theorem dX8_takeToken_75 : decode cX8_takeToken 75 = .ok (.aload_n 0, 1) := by decide +kernel
theorem dX8_takeToken_76 : decode cX8_takeToken 76 = .ok (.getfield 11, 3) := by decide +kernel
theorem dX8_takeToken_79 : decode cX8_takeToken 79 = .ok (.iload_n 1, 1) := by decide +kernel
theorem dX8_takeToken_80 : decode cX8_takeToken 80 = .ok (.iload_n 3, 1) := by decide +kernel
theorem dX8_takeToken_81 : decode cX8_takeToken 81 = .ok (.aload_n 0, 1) := by decide +kernel
theorem dX8_takeToken_82 : decode cX8_takeToken 82 = .ok (.iload_n 2, 1) := by decide +kernel
theorem dX8_takeToken_83 : decode cX8_takeToken 83 = .ok (.iconst 1, 1) := by decide +kernel
theorem dX8_takeToken_84 : decode cX8_takeToken 84 = .ok (.iadd, 1) := by decide +kernel
theorem dX8_takeToken_85 : decode cX8_takeToken 85 = .ok (.invokevirtual 77, 3) := by decide +kernel
theorem dX8_takeToken_88 : decode cX8_takeToken 88 = .ok (.invokestatic 90, 3) := by decide +kernel
theorem dX8_takeToken_91 : decode cX8_takeToken 91 = .ok (.iastore, 1) := by decide +kernel
theorem dX8_takeToken_92 : decode cX8_takeToken 92 = .ok (.aload_n 0, 1) := by decide +kernel
theorem dX8_takeToken_93 : decode cX8_takeToken 93 = .ok (.getfield 11, 3) := by decide +kernel
theorem dX8_takeToken_96 : decode cX8_takeToken 96 = .ok (.iload_n 1, 1) := by decide +kernel
theorem dX8_takeToken_97 : decode cX8_takeToken 97 = .ok (.iaload, 1) := by decide +kernel
theorem dX8_takeToken_98 : decode cX8_takeToken 98 = .ok (.iconst 2, 1) := by decide +kernel
theorem dX8_takeToken_99 : decode cX8_takeToken 99 = .ok (.if_icmp .eq 5, 3) := by decide +kernel
theorem dX8_takeToken_102 : decode cX8_takeToken 102 = .ok (.iconst 2, 1) := by decide +kernel
theorem dX8_takeToken_103 : decode cX8_takeToken 103 = .ok (.ireturn, 1) := by decide +kernel
theorem dX8_takeToken_104 : decode cX8_takeToken 104 = .ok (.ldc 93, 2) := by decide +kernel
theorem dX8_takeToken_106 : decode cX8_takeToken 106 = .ok (.iload_n 3, 1) := by decide +kernel
theorem dX8_takeToken_107 : decode cX8_takeToken 107 = .ok (.i2c, 1) := by decide +kernel
theorem dX8_takeToken_108 : decode cX8_takeToken 108 = .ok (.invokevirtual 95, 3) := by decide +kernel
theorem dX8_takeToken_111 : decode cX8_takeToken 111 = .ok (.ifCond .lt 10, 3) := by decide +kernel
theorem dX8_takeToken_114 : decode cX8_takeToken 114 = .ok (.aload_n 0, 1) := by decide +kernel
theorem dX8_takeToken_115 : decode cX8_takeToken 115 = .ok (.getfield 11, 3) := by decide +kernel
theorem dX8_takeToken_118 : decode cX8_takeToken 118 = .ok (.iload_n 1, 1) := by decide +kernel
theorem dX8_takeToken_119 : decode cX8_takeToken 119 = .ok (.iload_n 3, 1) := by decide +kernel
theorem dX8_takeToken_120 : decode cX8_takeToken 120 = .ok (.iastore, 1) := by decide +kernel
theorem dX8_takeToken_121 : decode cX8_takeToken 121 = .ok (.iconst 1, 1) := by decide +kernel
theorem dX8_takeToken_122 : decode cX8_takeToken 122 = .ok (.ireturn, 1) := by decide +kernel
theorem dX8_takeWord_0 : decode cX8_takeWord 0 = .ok (.iconst 0, 1) := by decide +kernel
theorem dX8_takeWord_1 : decode cX8_takeWord 1 = .ok (.istore_n 3, 1) := by decide +kernel
theorem dX8_takeWord_2 : decode cX8_takeWord 2 = .ok (.lconst 0, 1) := by decide +kernel
theorem dX8_takeWord_3 : decode cX8_takeWord 3 = .ok (.lstore 4, 2) := by decide +kernel
theorem dX8_takeWord_5 : decode cX8_takeWord 5 = .ok (.iload_n 2, 1) := by decide +kernel
theorem dX8_takeWord_6 : decode cX8_takeWord 6 = .ok (.istore 6, 2) := by decide +kernel
theorem dX8_takeWord_8 : decode cX8_takeWord 8 = .ok (.iload 6, 2) := by decide +kernel
theorem dX8_takeWord_10 : decode cX8_takeWord 10 = .ok (.aload_n 0, 1) := by decide +kernel
theorem dX8_takeWord_11 : decode cX8_takeWord 11 = .ok (.getfield 63, 3) := by decide +kernel
theorem dX8_takeWord_14 : decode cX8_takeWord 14 = .ok (.if_icmp .ge 54, 3) := by decide +kernel
theorem dX8_takeWord_17 : decode cX8_takeWord 17 = .ok (.aload_n 0, 1) := by decide +kernel
theorem dX8_takeWord_18 : decode cX8_takeWord 18 = .ok (.iload 6, 2) := by decide +kernel
theorem dX8_takeWord_20 : decode cX8_takeWord 20 = .ok (.invokevirtual 77, 3) := by decide +kernel
theorem dX8_takeWord_23 : decode cX8_takeWord 23 = .ok (.invokestatic 51, 3) := by decide +kernel
theorem dX8_takeWord_26 : decode cX8_takeWord 26 = .ok (.ifCond .le 42, 3) := by decide +kernel
theorem dX8_takeWord_29 : decode cX8_takeWord 29 = .ok (.iload_n 3, 1) := by decide +kernel
theorem dX8_takeWord_30 : decode cX8_takeWord 30 = .ok (.bipush 12, 2) := by decide +kernel
theorem dX8_takeWord_32 : decode cX8_takeWord 32 = .ok (.if_icmp .ge 23, 3) := by decide +kernel
theorem dX8_takeWord_35 : decode cX8_takeWord 35 = .ok (.lload 4, 2) := by decide +kernel
theorem dX8_takeWord_37 : decode cX8_takeWord 37 = .ok (.ldc2_w 55, 3) := by decide +kernel
theorem dX8_takeWord_40 : decode cX8_takeWord 40 = .ok (.lmul, 1) := by decide +kernel
theorem dX8_takeWord_41 : decode cX8_takeWord 41 = .ok (.aload_n 0, 1) := by decide +kernel
theorem dX8_takeWord_42 : decode cX8_takeWord 42 = .ok (.iload 6, 2) := by decide +kernel
theorem dX8_takeWord_44 : decode cX8_takeWord 44 = .ok (.invokevirtual 77, 3) := by decide +kernel
theorem dX8_takeWord_47 : decode cX8_takeWord 47 = .ok (.invokestatic 51, 3) := by decide +kernel
theorem dX8_takeWord_50 : decode cX8_takeWord 50 = .ok (.i2l, 1) := by decide +kernel
theorem dX8_takeWord_51 : decode cX8_takeWord 51 = .ok (.ladd, 1) := by decide +kernel
theorem dX8_takeWord_52 : decode cX8_takeWord 52 = .ok (.goto 5, 3) := by decide +kernel
theorem dX8_takeWord_55 : decode cX8_takeWord 55 = .ok (.lload 4, 2) := by decide +kernel
theorem dX8_takeWord_57 : decode cX8_takeWord 57 = .ok (.lstore 4, 2) := by decide +kernel
theorem dX8_takeWord_59 : decode cX8_takeWord 59 = .ok (.iinc 3 1, 3) := by decide +kernel
theorem dX8_takeWord_62 : decode cX8_takeWord 62 = .ok (.iinc 6 1, 3) := by decide +kernel
theorem dX8_takeWord_65 : decode cX8_takeWord 65 = .ok (.goto (-57), 3) := by decide +kernel
theorem dX8_takeWord_68 : decode cX8_takeWord 68 = .ok (.aload_n 0, 1) := by decide +kernel
theorem dX8_takeWord_69 : decode cX8_takeWord 69 = .ok (.getfield 18, 3) := by decide +kernel
theorem dX8_takeWord_72 : decode cX8_takeWord 72 = .ok (.iload_n 1, 1) := by decide +kernel
theorem dX8_takeWord_73 : decode cX8_takeWord 73 = .ok (.lload 4, 2) := by decide +kernel
theorem dX8_takeWord_75 : decode cX8_takeWord 75 = .ok (.lastore, 1) := by decide +kernel
theorem dX8_takeWord_76 : decode cX8_takeWord 76 = .ok (.aload_n 0, 1) := by decide +kernel
theorem dX8_takeWord_77 : decode cX8_takeWord 77 = .ok (.getfield 11, 3) := by decide +kernel
theorem dX8_takeWord_80 : decode cX8_takeWord 80 = .ok (.iload_n 1, 1) := by decide +kernel
theorem dX8_takeWord_81 : decode cX8_takeWord 81 = .ok (.iload_n 3, 1) := by decide +kernel
theorem dX8_takeWord_82 : decode cX8_takeWord 82 = .ok (.bipush 12, 2) := by decide +kernel
theorem dX8_takeWord_84 : decode cX8_takeWord 84 = .ok (.if_icmp .le 7, 3) := by decide +kernel
theorem dX8_takeWord_87 : decode cX8_takeWord 87 = .ok (.iconst 2, 1) := by decide +kernel
theorem dX8_takeWord_88 : decode cX8_takeWord 88 = .ok (.goto 4, 3) := by decide +kernel
theorem dX8_takeWord_91 : decode cX8_takeWord 91 = .ok (.iconst 3, 1) := by decide +kernel
theorem dX8_takeWord_92 : decode cX8_takeWord 92 = .ok (.iastore, 1) := by decide +kernel
theorem dX8_takeWord_93 : decode cX8_takeWord 93 = .ok (.iconst 0, 1) := by decide +kernel
theorem dX8_takeWord_94 : decode cX8_takeWord 94 = .ok (.istore 6, 2) := by decide +kernel
theorem dX8_takeWord_96 : decode cX8_takeWord 96 = .ok (.iload 6, 2) := by decide +kernel
theorem dX8_takeWord_98 : decode cX8_takeWord 98 = .ok (.bipush 21, 2) := by decide +kernel
theorem dX8_takeWord_100 : decode cX8_takeWord 100 = .ok (.if_icmp .ge 43, 3) := by decide +kernel
theorem dX8_takeWord_103 : decode cX8_takeWord 103 = .ok (.aload_n 0, 1) := by decide +kernel
theorem dX8_takeWord_104 : decode cX8_takeWord 104 = .ok (.getfield 11, 3) := by decide +kernel
theorem dX8_takeWord_107 : decode cX8_takeWord 107 = .ok (.iload_n 1, 1) := by decide +kernel
theorem dX8_takeWord_108 : decode cX8_takeWord 108 = .ok (.iaload, 1) := by decide +kernel
theorem dX8_takeWord_109 : decode cX8_takeWord 109 = .ok (.iconst 3, 1) := by decide +kernel
theorem dX8_takeWord_110 : decode cX8_takeWord 110 = .ok (.if_icmp .ne 33, 3) := by decide +kernel
theorem dX8_takeWord_113 : decode cX8_takeWord 113 = .ok (.aload_n 0, 1) := by decide +kernel
theorem dX8_takeWord_114 : decode cX8_takeWord 114 = .ok (.getfield 22, 3) := by decide +kernel
theorem dX8_takeWord_117 : decode cX8_takeWord 117 = .ok (.iload 6, 2) := by decide +kernel
theorem dX8_takeWord_119 : decode cX8_takeWord 119 = .ok (.laload, 1) := by decide +kernel
theorem dX8_takeWord_120 : decode cX8_takeWord 120 = .ok (.lload 4, 2) := by decide +kernel
theorem dX8_takeWord_122 : decode cX8_takeWord 122 = .ok (.lcmp, 1) := by decide +kernel
theorem dX8_takeWord_123 : decode cX8_takeWord 123 = .ok (.ifCond .ne 14, 3) := by decide +kernel
theorem dX8_takeWord_126 : decode cX8_takeWord 126 = .ok (.aload_n 0, 1) := by decide +kernel
theorem dX8_takeWord_127 : decode cX8_takeWord 127 = .ok (.getfield 11, 3) := by decide +kernel
theorem dX8_takeWord_130 : decode cX8_takeWord 130 = .ok (.iload_n 1, 1) := by decide +kernel
theorem dX8_takeWord_131 : decode cX8_takeWord 131 = .ok (.bipush 10, 2) := by decide +kernel
theorem dX8_takeWord_133 : decode cX8_takeWord 133 = .ok (.iload 6, 2) := by decide +kernel
theorem dX8_takeWord_135 : decode cX8_takeWord 135 = .ok (.iadd, 1) := by decide +kernel
theorem dX8_takeWord_136 : decode cX8_takeWord 136 = .ok (.iastore, 1) := by decide +kernel
theorem dX8_takeWord_137 : decode cX8_takeWord 137 = .ok (.iinc 6 1, 3) := by decide +kernel
theorem dX8_takeWord_140 : decode cX8_takeWord 140 = .ok (.goto (-44), 3) := by decide +kernel
theorem dX8_takeWord_143 : decode cX8_takeWord 143 = .ok (.iload_n 3, 1) := by decide +kernel
theorem dX8_takeWord_144 : decode cX8_takeWord 144 = .ok (.ireturn, 1) := by decide +kernel
theorem dX8_takeNumber_0 : decode cX8_takeNumber 0 = .ok (.iconst 0, 1) := by decide +kernel
theorem dX8_takeNumber_1 : decode cX8_takeNumber 1 = .ok (.istore_n 3, 1) := by decide +kernel
theorem dX8_takeNumber_2 : decode cX8_takeNumber 2 = .ok (.lconst 0, 1) := by decide +kernel
theorem dX8_takeNumber_3 : decode cX8_takeNumber 3 = .ok (.lstore 4, 2) := by decide +kernel
theorem dX8_takeNumber_5 : decode cX8_takeNumber 5 = .ok (.iload_n 2, 1) := by decide +kernel
theorem dX8_takeNumber_6 : decode cX8_takeNumber 6 = .ok (.istore 6, 2) := by decide +kernel
theorem dX8_takeNumber_8 : decode cX8_takeNumber 8 = .ok (.iload 6, 2) := by decide +kernel
theorem dX8_takeNumber_10 : decode cX8_takeNumber 10 = .ok (.aload_n 0, 1) := by decide +kernel
theorem dX8_takeNumber_11 : decode cX8_takeNumber 11 = .ok (.getfield 63, 3) := by decide +kernel
theorem dX8_takeNumber_14 : decode cX8_takeNumber 14 = .ok (.if_icmp .ge 64, 3) := by decide +kernel
theorem dX8_takeNumber_17 : decode cX8_takeNumber 17 = .ok (.aload_n 0, 1) := by decide +kernel
theorem dX8_takeNumber_18 : decode cX8_takeNumber 18 = .ok (.iload 6, 2) := by decide +kernel
theorem dX8_takeNumber_20 : decode cX8_takeNumber 20 = .ok (.invokevirtual 77, 3) := by decide +kernel
theorem dX8_takeNumber_23 : decode cX8_takeNumber 23 = .ok (.bipush 48, 2) := by decide +kernel
theorem dX8_takeNumber_25 : decode cX8_takeNumber 25 = .ok (.if_icmp .lt 53, 3) := by decide +kernel
theorem dX8_takeNumber_28 : decode cX8_takeNumber 28 = .ok (.aload_n 0, 1) := by decide +kernel
theorem dX8_takeNumber_29 : decode cX8_takeNumber 29 = .ok (.iload 6, 2) := by decide +kernel
theorem dX8_takeNumber_31 : decode cX8_takeNumber 31 = .ok (.invokevirtual 77, 3) := by decide +kernel
theorem dX8_takeNumber_34 : decode cX8_takeNumber 34 = .ok (.bipush 57, 2) := by decide +kernel
theorem dX8_takeNumber_36 : decode cX8_takeNumber 36 = .ok (.if_icmp .gt 42, 3) := by decide +kernel
theorem dX8_takeNumber_39 : decode cX8_takeNumber 39 = .ok (.iload_n 3, 1) := by decide +kernel
theorem dX8_takeNumber_40 : decode cX8_takeNumber 40 = .ok (.bipush 9, 2) := by decide +kernel
theorem dX8_takeNumber_42 : decode cX8_takeNumber 42 = .ok (.if_icmp .ge 23, 3) := by decide +kernel
theorem dX8_takeNumber_45 : decode cX8_takeNumber 45 = .ok (.lload 4, 2) := by decide +kernel
theorem dX8_takeNumber_47 : decode cX8_takeNumber 47 = .ok (.ldc2_w 98, 3) := by decide +kernel
theorem dX8_takeNumber_50 : decode cX8_takeNumber 50 = .ok (.lmul, 1) := by decide +kernel
theorem dX8_takeNumber_51 : decode cX8_takeNumber 51 = .ok (.aload_n 0, 1) := by decide +kernel
theorem dX8_takeNumber_52 : decode cX8_takeNumber 52 = .ok (.iload 6, 2) := by decide +kernel
theorem dX8_takeNumber_54 : decode cX8_takeNumber 54 = .ok (.invokevirtual 77, 3) := by decide +kernel
theorem dX8_takeNumber_57 : decode cX8_takeNumber 57 = .ok (.bipush 48, 2) := by decide +kernel
theorem dX8_takeNumber_59 : decode cX8_takeNumber 59 = .ok (.isub, 1) := by decide +kernel
theorem dX8_takeNumber_60 : decode cX8_takeNumber 60 = .ok (.i2l, 1) := by decide +kernel
theorem dX8_takeNumber_61 : decode cX8_takeNumber 61 = .ok (.ladd, 1) := by decide +kernel
theorem dX8_takeNumber_62 : decode cX8_takeNumber 62 = .ok (.goto 5, 3) := by decide +kernel
theorem dX8_takeNumber_65 : decode cX8_takeNumber 65 = .ok (.lload 4, 2) := by decide +kernel
theorem dX8_takeNumber_67 : decode cX8_takeNumber 67 = .ok (.lstore 4, 2) := by decide +kernel
theorem dX8_takeNumber_69 : decode cX8_takeNumber 69 = .ok (.iinc 3 1, 3) := by decide +kernel
theorem dX8_takeNumber_72 : decode cX8_takeNumber 72 = .ok (.iinc 6 1, 3) := by decide +kernel
theorem dX8_takeNumber_75 : decode cX8_takeNumber 75 = .ok (.goto (-67), 3) := by decide +kernel
theorem dX8_takeNumber_78 : decode cX8_takeNumber 78 = .ok (.aload_n 0, 1) := by decide +kernel
theorem dX8_takeNumber_79 : decode cX8_takeNumber 79 = .ok (.getfield 18, 3) := by decide +kernel
theorem dX8_takeNumber_82 : decode cX8_takeNumber 82 = .ok (.iload_n 1, 1) := by decide +kernel
theorem dX8_takeNumber_83 : decode cX8_takeNumber 83 = .ok (.lload 4, 2) := by decide +kernel
theorem dX8_takeNumber_85 : decode cX8_takeNumber 85 = .ok (.lastore, 1) := by decide +kernel
theorem dX8_takeNumber_86 : decode cX8_takeNumber 86 = .ok (.aload_n 0, 1) := by decide +kernel
theorem dX8_takeNumber_87 : decode cX8_takeNumber 87 = .ok (.getfield 11, 3) := by decide +kernel
theorem dX8_takeNumber_90 : decode cX8_takeNumber 90 = .ok (.iload_n 1, 1) := by decide +kernel
theorem dX8_takeNumber_91 : decode cX8_takeNumber 91 = .ok (.iload_n 3, 1) := by decide +kernel
theorem dX8_takeNumber_92 : decode cX8_takeNumber 92 = .ok (.bipush 9, 2) := by decide +kernel
theorem dX8_takeNumber_94 : decode cX8_takeNumber 94 = .ok (.if_icmp .le 7, 3) := by decide +kernel
theorem dX8_takeNumber_97 : decode cX8_takeNumber 97 = .ok (.iconst 2, 1) := by decide +kernel
theorem dX8_takeNumber_98 : decode cX8_takeNumber 98 = .ok (.goto 4, 3) := by decide +kernel
theorem dX8_takeNumber_101 : decode cX8_takeNumber 101 = .ok (.iconst 4, 1) := by decide +kernel
theorem dX8_takeNumber_102 : decode cX8_takeNumber 102 = .ok (.iastore, 1) := by decide +kernel
theorem dX8_takeNumber_103 : decode cX8_takeNumber 103 = .ok (.iload_n 3, 1) := by decide +kernel
theorem dX8_takeNumber_104 : decode cX8_takeNumber 104 = .ok (.ireturn, 1) := by decide +kernel
theorem dX8_pairKind_0 : decode cX8_pairKind 0 = .ok (.iload_n 1, 1) := by decide +kernel
theorem dX8_pairKind_1 : decode cX8_pairKind 1 = .ok (.bipush 61, 2) := by decide +kernel
theorem dX8_pairKind_3 : decode cX8_pairKind 3 = .ok (.if_icmp .ne 63, 3) := by decide +kernel
theorem dX8_pairKind_6 : decode cX8_pairKind 6 = .ok (.iload_n 0, 1) := by decide +kernel
theorem dX8_pairKind_7 : decode cX8_pairKind 7 = .ok (.lookupswitch 57 #[(33, 45), (60, 49), (61, 41), (62, 53)], 41) := by decide +kernel
theorem dX8_pairKind_48 : decode cX8_pairKind 48 = .ok (.sipush 201, 3) := by decide +kernel
theorem dX8_pairKind_51 : decode cX8_pairKind 51 = .ok (.ireturn, 1) := by decide +kernel
theorem dX8_pairKind_52 : decode cX8_pairKind 52 = .ok (.sipush 202, 3) := by decide +kernel
theorem dX8_pairKind_55 : decode cX8_pairKind 55 = .ok (.ireturn, 1) := by decide +kernel
theorem dX8_pairKind_56 : decode cX8_pairKind 56 = .ok (.sipush 203, 3) := by decide +kernel
theorem dX8_pairKind_59 : decode cX8_pairKind 59 = .ok (.ireturn, 1) := by decide +kernel
theorem dX8_pairKind_60 : decode cX8_pairKind 60 = .ok (.sipush 204, 3) := by decide +kernel
theorem dX8_pairKind_63 : decode cX8_pairKind 63 = .ok (.ireturn, 1) := by decide +kernel
theorem dX8_pairKind_64 : decode cX8_pairKind 64 = .ok (.iconst 2, 1) := by decide +kernel
theorem dX8_pairKind_65 : decode cX8_pairKind 65 = .ok (.ireturn, 1) := by decide +kernel
theorem dX8_pairKind_66 : decode cX8_pairKind 66 = .ok (.iload_n 0, 1) := by decide +kernel
theorem dX8_pairKind_67 : decode cX8_pairKind 67 = .ok (.iload_n 1, 1) := by decide +kernel
theorem dX8_pairKind_68 : decode cX8_pairKind 68 = .ok (.if_icmp .eq 5, 3) := by decide +kernel
theorem dX8_pairKind_71 : decode cX8_pairKind 71 = .ok (.iconst 2, 1) := by decide +kernel
theorem dX8_pairKind_72 : decode cX8_pairKind 72 = .ok (.ireturn, 1) := by decide +kernel
theorem dX8_pairKind_73 : decode cX8_pairKind 73 = .ok (.iload_n 0, 1) := by decide +kernel
theorem dX8_pairKind_74 : decode cX8_pairKind 74 = .ok (.lookupswitch 46 #[(38, 38), (46, 34), (124, 42)], 34) := by decide +kernel
theorem dX8_pairKind_108 : decode cX8_pairKind 108 = .ok (.sipush 200, 3) := by decide +kernel
theorem dX8_pairKind_111 : decode cX8_pairKind 111 = .ok (.ireturn, 1) := by decide +kernel
theorem dX8_pairKind_112 : decode cX8_pairKind 112 = .ok (.sipush 205, 3) := by decide +kernel
theorem dX8_pairKind_115 : decode cX8_pairKind 115 = .ok (.ireturn, 1) := by decide +kernel
theorem dX8_pairKind_116 : decode cX8_pairKind 116 = .ok (.sipush 206, 3) := by decide +kernel
theorem dX8_pairKind_119 : decode cX8_pairKind 119 = .ok (.ireturn, 1) := by decide +kernel
theorem dX8_pairKind_120 : decode cX8_pairKind 120 = .ok (.iconst 2, 1) := by decide +kernel
theorem dX8_pairKind_121 : decode cX8_pairKind 121 = .ok (.ireturn, 1) := by decide +kernel
theorem dX8_kind_0 : decode cX8_kind 0 = .ok (.aload_n 0, 1) := by decide +kernel
theorem dX8_kind_1 : decode cX8_kind 1 = .ok (.getfield 11, 3) := by decide +kernel
theorem dX8_kind_4 : decode cX8_kind 4 = .ok (.aload_n 0, 1) := by decide +kernel
theorem dX8_kind_5 : decode cX8_kind 5 = .ok (.getfield 65, 3) := by decide +kernel
theorem dX8_kind_8 : decode cX8_kind 8 = .ok (.iaload, 1) := by decide +kernel
theorem dX8_kind_9 : decode cX8_kind 9 = .ok (.ireturn, 1) := by decide +kernel
theorem dX8_place_0 : decode cX8_place 0 = .ok (.aload_n 0, 1) := by decide +kernel
theorem dX8_place_1 : decode cX8_place 1 = .ok (.getfield 15, 3) := by decide +kernel
theorem dX8_place_4 : decode cX8_place 4 = .ok (.aload_n 0, 1) := by decide +kernel
theorem dX8_place_5 : decode cX8_place 5 = .ok (.getfield 65, 3) := by decide +kernel
theorem dX8_place_8 : decode cX8_place 8 = .ok (.iaload, 1) := by decide +kernel
theorem dX8_place_9 : decode cX8_place 9 = .ok (.ireturn, 1) := by decide +kernel
theorem dX8_value_0 : decode cX8_value 0 = .ok (.aload_n 0, 1) := by decide +kernel
theorem dX8_value_1 : decode cX8_value 1 = .ok (.getfield 18, 3) := by decide +kernel
theorem dX8_value_4 : decode cX8_value 4 = .ok (.aload_n 0, 1) := by decide +kernel
theorem dX8_value_5 : decode cX8_value 5 = .ok (.getfield 65, 3) := by decide +kernel
theorem dX8_value_8 : decode cX8_value 8 = .ok (.laload, 1) := by decide +kernel
theorem dX8_value_9 : decode cX8_value 9 = .ok (.lreturn, 1) := by decide +kernel
theorem dX8_atBracket_0 : decode cX8_atBracket 0 = .ok (.aload_n 0, 1) := by decide +kernel
theorem dX8_atBracket_1 : decode cX8_atBracket 1 = .ok (.getfield 65, 3) := by decide +kernel
theorem dX8_atBracket_4 : decode cX8_atBracket 4 = .ok (.sipush 1200, 3) := by decide +kernel
theorem dX8_atBracket_7 : decode cX8_atBracket 7 = .ok (.if_icmp .le 10, 3) := by decide +kernel
theorem dX8_atBracket_10 : decode cX8_atBracket 10 = .ok (.aload_n 0, 1) := by decide +kernel
theorem dX8_atBracket_11 : decode cX8_atBracket 11 = .ok (.getfield 80, 3) := by decide +kernel
theorem dX8_atBracket_14 : decode cX8_atBracket 14 = .ok (.goto 22, 3) := by decide +kernel
theorem dX8_atBracket_17 : decode cX8_atBracket 17 = .ok (.aload_n 0, 1) := by decide +kernel
theorem dX8_atBracket_18 : decode cX8_atBracket 18 = .ok (.getfield 11, 3) := by decide +kernel
theorem dX8_atBracket_21 : decode cX8_atBracket 21 = .ok (.aload_n 0, 1) := by decide +kernel
theorem dX8_atBracket_22 : decode cX8_atBracket 22 = .ok (.getfield 65, 3) := by decide +kernel
theorem dX8_atBracket_25 : decode cX8_atBracket 25 = .ok (.iaload, 1) := by decide +kernel
theorem dX8_atBracket_26 : decode cX8_atBracket 26 = .ok (.bipush 40, 2) := by decide +kernel
theorem dX8_atBracket_28 : decode cX8_atBracket 28 = .ok (.if_icmp .ne 7, 3) := by decide +kernel
theorem dX8_atBracket_31 : decode cX8_atBracket 31 = .ok (.iconst 1, 1) := by decide +kernel
theorem dX8_atBracket_32 : decode cX8_atBracket 32 = .ok (.goto 4, 3) := by decide +kernel
theorem dX8_atBracket_35 : decode cX8_atBracket 35 = .ok (.iconst 0, 1) := by decide +kernel
theorem dX8_atBracket_36 : decode cX8_atBracket 36 = .ok (.ireturn, 1) := by decide +kernel
theorem dX8_next_0 : decode cX8_next 0 = .ok (.aload_n 0, 1) := by decide +kernel
theorem dX8_next_1 : decode cX8_next 1 = .ok (.getfield 65, 3) := by decide +kernel
theorem dX8_next_4 : decode cX8_next 4 = .ok (.sipush 1200, 3) := by decide +kernel
theorem dX8_next_7 : decode cX8_next 7 = .ok (.if_icmp .gt 13, 3) := by decide +kernel
theorem dX8_next_10 : decode cX8_next 10 = .ok (.aload_n 0, 1) := by decide +kernel
theorem dX8_next_11 : decode cX8_next 11 = .ok (.dup, 1) := by decide +kernel
theorem dX8_next_12 : decode cX8_next 12 = .ok (.getfield 65, 3) := by decide +kernel
theorem dX8_next_15 : decode cX8_next 15 = .ok (.iconst 1, 1) := by decide +kernel
theorem dX8_next_16 : decode cX8_next 16 = .ok (.iadd, 1) := by decide +kernel
theorem dX8_next_17 : decode cX8_next 17 = .ok (.putfield 65, 3) := by decide +kernel
theorem dX8_next_20 : decode cX8_next 20 = .ok (.return_, 1) := by decide +kernel
theorem dX8_fail_0 : decode cX8_fail 0 = .ok (.aload_n 0, 1) := by decide +kernel
theorem dX8_fail_1 : decode cX8_fail 1 = .ok (.getfield 65, 3) := by decide +kernel
theorem dX8_fail_4 : decode cX8_fail 4 = .ok (.sipush 1200, 3) := by decide +kernel
theorem dX8_fail_7 : decode cX8_fail 7 = .ok (.if_icmp .le 24, 3) := by decide +kernel
theorem dX8_fail_10 : decode cX8_fail 10 = .ok (.iload_n 1, 1) := by decide +kernel
theorem dX8_fail_11 : decode cX8_fail 11 = .ok (.iconst 4, 1) := by decide +kernel
theorem dX8_fail_12 : decode cX8_fail 12 = .ok (.if_icmp .gt 15, 3) := by decide +kernel
theorem dX8_fail_15 : decode cX8_fail 15 = .ok (.iload_n 2, 1) := by decide +kernel
theorem dX8_fail_16 : decode cX8_fail 16 = .ok (.aload_n 0, 1) := by decide +kernel
theorem dX8_fail_17 : decode cX8_fail 17 = .ok (.getfield 15, 3) := by decide +kernel
theorem dX8_fail_20 : decode cX8_fail 20 = .ok (.sipush 1200, 3) := by decide +kernel
theorem dX8_fail_23 : decode cX8_fail 23 = .ok (.iaload, 1) := by decide +kernel
theorem dX8_fail_24 : decode cX8_fail 24 = .ok (.if_icmp .eq 7, 3) := by decide +kernel
theorem dX8_fail_27 : decode cX8_fail 27 = .ok (.iconst 1, 1) := by decide +kernel
theorem dX8_fail_28 : decode cX8_fail 28 = .ok (.goto 4, 3) := by decide +kernel
theorem dX8_fail_31 : decode cX8_fail 31 = .ok (.iconst 0, 1) := by decide +kernel
theorem dX8_fail_32 : decode cX8_fail 32 = .ok (.istore_n 3, 1) := by decide +kernel
theorem dX8_fail_33 : decode cX8_fail 33 = .ok (.aload_n 0, 1) := by decide +kernel
theorem dX8_fail_34 : decode cX8_fail 34 = .ok (.getfield 68, 3) := by decide +kernel
theorem dX8_fail_37 : decode cX8_fail 37 = .ok (.ifCond .ne 36, 3) := by decide +kernel
theorem dX8_fail_40 : decode cX8_fail 40 = .ok (.aload_n 0, 1) := by decide +kernel
theorem dX8_fail_41 : decode cX8_fail 41 = .ok (.iload_n 3, 1) := by decide +kernel
theorem dX8_fail_42 : decode cX8_fail 42 = .ok (.ifCond .eq 7, 3) := by decide +kernel
theorem dX8_fail_45 : decode cX8_fail 45 = .ok (.iconst 4, 1) := by decide +kernel
theorem dX8_fail_46 : decode cX8_fail 46 = .ok (.goto 4, 3) := by decide +kernel
theorem dX8_fail_49 : decode cX8_fail 49 = .ok (.iload_n 1, 1) := by decide +kernel
theorem dX8_fail_50 : decode cX8_fail 50 = .ok (.putfield 68, 3) := by decide +kernel
theorem dX8_fail_53 : decode cX8_fail 53 = .ok (.aload_n 0, 1) := by decide +kernel
theorem dX8_fail_54 : decode cX8_fail 54 = .ok (.iload_n 3, 1) := by decide +kernel
theorem dX8_fail_55 : decode cX8_fail 55 = .ok (.ifCond .eq 14, 3) := by decide +kernel
theorem dX8_fail_58 : decode cX8_fail 58 = .ok (.aload_n 0, 1) := by decide +kernel
theorem dX8_fail_59 : decode cX8_fail 59 = .ok (.getfield 15, 3) := by decide +kernel
theorem dX8_fail_62 : decode cX8_fail 62 = .ok (.sipush 1200, 3) := by decide +kernel
theorem dX8_fail_65 : decode cX8_fail 65 = .ok (.iaload, 1) := by decide +kernel
theorem dX8_fail_66 : decode cX8_fail 66 = .ok (.goto 4, 3) := by decide +kernel
theorem dX8_fail_69 : decode cX8_fail 69 = .ok (.iload_n 2, 1) := by decide +kernel
theorem dX8_fail_70 : decode cX8_fail 70 = .ok (.putfield 29, 3) := by decide +kernel
theorem dX8_fail_73 : decode cX8_fail 73 = .ok (.aload_n 0, 1) := by decide +kernel
theorem dX8_fail_74 : decode cX8_fail 74 = .ok (.sipush 1201, 3) := by decide +kernel
theorem dX8_fail_77 : decode cX8_fail 77 = .ok (.putfield 65, 3) := by decide +kernel
theorem dX8_fail_80 : decode cX8_fail 80 = .ok (.return_, 1) := by decide +kernel
theorem dX8_take_0 : decode cX8_take 0 = .ok (.aload_n 0, 1) := by decide +kernel
theorem dX8_take_1 : decode cX8_take 1 = .ok (.getfield 11, 3) := by decide +kernel
theorem dX8_take_4 : decode cX8_take 4 = .ok (.aload_n 0, 1) := by decide +kernel
theorem dX8_take_5 : decode cX8_take 5 = .ok (.getfield 65, 3) := by decide +kernel
theorem dX8_take_8 : decode cX8_take 8 = .ok (.iaload, 1) := by decide +kernel
theorem dX8_take_9 : decode cX8_take 9 = .ok (.iload_n 1, 1) := by decide +kernel
theorem dX8_take_10 : decode cX8_take 10 = .ok (.if_icmp .ne 10, 3) := by decide +kernel
theorem dX8_take_13 : decode cX8_take 13 = .ok (.aload_n 0, 1) := by decide +kernel
theorem dX8_take_14 : decode cX8_take 14 = .ok (.invokevirtual 100, 3) := by decide +kernel
theorem dX8_take_17 : decode cX8_take 17 = .ok (.goto 17, 3) := by decide +kernel
theorem dX8_take_20 : decode cX8_take 20 = .ok (.aload_n 0, 1) := by decide +kernel
theorem dX8_take_21 : decode cX8_take 21 = .ok (.iconst 1, 1) := by decide +kernel
theorem dX8_take_22 : decode cX8_take 22 = .ok (.aload_n 0, 1) := by decide +kernel
theorem dX8_take_23 : decode cX8_take 23 = .ok (.getfield 15, 3) := by decide +kernel
theorem dX8_take_26 : decode cX8_take 26 = .ok (.aload_n 0, 1) := by decide +kernel
theorem dX8_take_27 : decode cX8_take 27 = .ok (.getfield 65, 3) := by decide +kernel
theorem dX8_take_30 : decode cX8_take 30 = .ok (.iaload, 1) := by decide +kernel
theorem dX8_take_31 : decode cX8_take 31 = .ok (.invokevirtual 103, 3) := by decide +kernel
theorem dX8_take_34 : decode cX8_take 34 = .ok (.return_, 1) := by decide +kernel
theorem dX9_beginAs_0 : decode cX9_beginAs 0 = .ok (.aload_n 0, 1) := by decide +kernel
theorem dX9_beginAs_1 : decode cX9_beginAs 1 = .ok (.lload_n 1, 1) := by decide +kernel
theorem dX9_beginAs_2 : decode cX9_beginAs 2 = .ok (.putfield 28, 3) := by decide +kernel
theorem dX9_beginAs_5 : decode cX9_beginAs 5 = .ok (.aload_n 0, 1) := by decide +kernel
theorem dX9_beginAs_6 : decode cX9_beginAs 6 = .ok (.iconst (-1), 1) := by decide +kernel
theorem dX9_beginAs_7 : decode cX9_beginAs 7 = .ok (.putfield 32, 3) := by decide +kernel
theorem dX9_beginAs_10 : decode cX9_beginAs 10 = .ok (.aload_n 0, 1) := by decide +kernel
theorem dX9_beginAs_11 : decode cX9_beginAs 11 = .ok (.iconst 0, 1) := by decide +kernel
theorem dX9_beginAs_12 : decode cX9_beginAs 12 = .ok (.putfield 36, 3) := by decide +kernel
theorem dX9_beginAs_15 : decode cX9_beginAs 15 = .ok (.aload_n 0, 1) := by decide +kernel
theorem dX9_beginAs_16 : decode cX9_beginAs 16 = .ok (.iconst 0, 1) := by decide +kernel
theorem dX9_beginAs_17 : decode cX9_beginAs 17 = .ok (.putfield 39, 3) := by decide +kernel
theorem dX9_beginAs_20 : decode cX9_beginAs 20 = .ok (.aload_n 0, 1) := by decide +kernel
theorem dX9_beginAs_21 : decode cX9_beginAs 21 = .ok (.iconst 0, 1) := by decide +kernel
theorem dX9_beginAs_22 : decode cX9_beginAs 22 = .ok (.putfield 42, 3) := by decide +kernel
theorem dX9_beginAs_25 : decode cX9_beginAs 25 = .ok (.aload_n 0, 1) := by decide +kernel
theorem dX9_beginAs_26 : decode cX9_beginAs 26 = .ok (.iconst 0, 1) := by decide +kernel
theorem dX9_beginAs_27 : decode cX9_beginAs 27 = .ok (.putfield 45, 3) := by decide +kernel
theorem dX9_beginAs_30 : decode cX9_beginAs 30 = .ok (.aload_n 0, 1) := by decide +kernel
theorem dX9_beginAs_31 : decode cX9_beginAs 31 = .ok (.iconst 0, 1) := by decide +kernel
theorem dX9_beginAs_32 : decode cX9_beginAs 32 = .ok (.putfield 48, 3) := by decide +kernel
theorem dX9_beginAs_35 : decode cX9_beginAs 35 = .ok (.aload_n 0, 1) := by decide +kernel
theorem dX9_beginAs_36 : decode cX9_beginAs 36 = .ok (.iconst (-1), 1) := by decide +kernel
theorem dX9_beginAs_37 : decode cX9_beginAs 37 = .ok (.putfield 51, 3) := by decide +kernel
theorem dX9_beginAs_40 : decode cX9_beginAs 40 = .ok (.return_, 1) := by decide +kernel
theorem dX9_standBelow_0 : decode cX9_standBelow 0 = .ok (.aload_n 0, 1) := by decide +kernel
theorem dX9_standBelow_1 : decode cX9_standBelow 1 = .ok (.iload_n 1, 1) := by decide +kernel
theorem dX9_standBelow_2 : decode cX9_standBelow 2 = .ok (.putfield 32, 3) := by decide +kernel
theorem dX9_standBelow_5 : decode cX9_standBelow 5 = .ok (.aload_n 0, 1) := by decide +kernel
theorem dX9_standBelow_6 : decode cX9_standBelow 6 = .ok (.aload_n 2, 1) := by decide +kernel
theorem dX9_standBelow_7 : decode cX9_standBelow 7 = .ok (.getfield 36, 3) := by decide +kernel
theorem dX9_standBelow_10 : decode cX9_standBelow 10 = .ok (.putfield 36, 3) := by decide +kernel
theorem dX9_standBelow_13 : decode cX9_standBelow 13 = .ok (.aload_n 2, 1) := by decide +kernel
theorem dX9_standBelow_14 : decode cX9_standBelow 14 = .ok (.getfield 11, 3) := by decide +kernel
theorem dX9_standBelow_17 : decode cX9_standBelow 17 = .ok (.iconst 0, 1) := by decide +kernel
theorem dX9_standBelow_18 : decode cX9_standBelow 18 = .ok (.aload_n 0, 1) := by decide +kernel
theorem dX9_standBelow_19 : decode cX9_standBelow 19 = .ok (.getfield 11, 3) := by decide +kernel
theorem dX9_standBelow_22 : decode cX9_standBelow 22 = .ok (.iconst 0, 1) := by decide +kernel
theorem dX9_standBelow_23 : decode cX9_standBelow 23 = .ok (.bipush 10, 2) := by decide +kernel
theorem dX9_standBelow_25 : decode cX9_standBelow 25 = .ok (.invokestatic 54, 3) := by decide +kernel
theorem dX9_standBelow_28 : decode cX9_standBelow 28 = .ok (.aload_n 2, 1) := by decide +kernel
theorem dX9_standBelow_29 : decode cX9_standBelow 29 = .ok (.getfield 15, 3) := by decide +kernel
theorem dX9_standBelow_32 : decode cX9_standBelow 32 = .ok (.iconst 0, 1) := by decide +kernel
theorem dX9_standBelow_33 : decode cX9_standBelow 33 = .ok (.aload_n 0, 1) := by decide +kernel
theorem dX9_standBelow_34 : decode cX9_standBelow 34 = .ok (.getfield 15, 3) := by decide +kernel
theorem dX9_standBelow_37 : decode cX9_standBelow 37 = .ok (.iconst 0, 1) := by decide +kernel
theorem dX9_standBelow_38 : decode cX9_standBelow 38 = .ok (.bipush 10, 2) := by decide +kernel
theorem dX9_standBelow_40 : decode cX9_standBelow 40 = .ok (.invokestatic 54, 3) := by decide +kernel
theorem dX9_standBelow_43 : decode cX9_standBelow 43 = .ok (.aload_n 2, 1) := by decide +kernel
theorem dX9_standBelow_44 : decode cX9_standBelow 44 = .ok (.getfield 19, 3) := by decide +kernel
theorem dX9_standBelow_47 : decode cX9_standBelow 47 = .ok (.iconst 0, 1) := by decide +kernel
theorem dX9_standBelow_48 : decode cX9_standBelow 48 = .ok (.aload_n 0, 1) := by decide +kernel
theorem dX9_standBelow_49 : decode cX9_standBelow 49 = .ok (.getfield 19, 3) := by decide +kernel
theorem dX9_standBelow_52 : decode cX9_standBelow 52 = .ok (.iconst 0, 1) := by decide +kernel
theorem dX9_standBelow_53 : decode cX9_standBelow 53 = .ok (.bipush 10, 2) := by decide +kernel
theorem dX9_standBelow_55 : decode cX9_standBelow 55 = .ok (.invokestatic 54, 3) := by decide +kernel
theorem dX9_standBelow_58 : decode cX9_standBelow 58 = .ok (.aload_n 2, 1) := by decide +kernel
theorem dX9_standBelow_59 : decode cX9_standBelow 59 = .ok (.getfield 22, 3) := by decide +kernel
theorem dX9_standBelow_62 : decode cX9_standBelow 62 = .ok (.iconst 0, 1) := by decide +kernel
theorem dX9_standBelow_63 : decode cX9_standBelow 63 = .ok (.aload_n 0, 1) := by decide +kernel
theorem dX9_standBelow_64 : decode cX9_standBelow 64 = .ok (.getfield 22, 3) := by decide +kernel
theorem dX9_standBelow_67 : decode cX9_standBelow 67 = .ok (.iconst 0, 1) := by decide +kernel
theorem dX9_standBelow_68 : decode cX9_standBelow 68 = .ok (.bipush 10, 2) := by decide +kernel
theorem dX9_standBelow_70 : decode cX9_standBelow 70 = .ok (.invokestatic 54, 3) := by decide +kernel
theorem dX9_standBelow_73 : decode cX9_standBelow 73 = .ok (.aload_n 0, 1) := by decide +kernel
theorem dX9_standBelow_74 : decode cX9_standBelow 74 = .ok (.aload_n 2, 1) := by decide +kernel
theorem dX9_standBelow_75 : decode cX9_standBelow 75 = .ok (.getfield 39, 3) := by decide +kernel
theorem dX9_standBelow_78 : decode cX9_standBelow 78 = .ok (.putfield 39, 3) := by decide +kernel
theorem dX9_standBelow_81 : decode cX9_standBelow 81 = .ok (.aload_n 0, 1) := by decide +kernel
theorem dX9_standBelow_82 : decode cX9_standBelow 82 = .ok (.aload_n 2, 1) := by decide +kernel
theorem dX9_standBelow_83 : decode cX9_standBelow 83 = .ok (.getfield 42, 3) := by decide +kernel
theorem dX9_standBelow_86 : decode cX9_standBelow 86 = .ok (.putfield 42, 3) := by decide +kernel
theorem dX9_standBelow_89 : decode cX9_standBelow 89 = .ok (.aload_n 2, 1) := by decide +kernel
theorem dX9_standBelow_90 : decode cX9_standBelow 90 = .ok (.getfield 25, 3) := by decide +kernel
theorem dX9_standBelow_93 : decode cX9_standBelow 93 = .ok (.iconst 0, 1) := by decide +kernel
theorem dX9_standBelow_94 : decode cX9_standBelow 94 = .ok (.aload_n 0, 1) := by decide +kernel
theorem dX9_standBelow_95 : decode cX9_standBelow 95 = .ok (.getfield 25, 3) := by decide +kernel
theorem dX9_standBelow_98 : decode cX9_standBelow 98 = .ok (.iconst 0, 1) := by decide +kernel
theorem dX9_standBelow_99 : decode cX9_standBelow 99 = .ok (.bipush 12, 2) := by decide +kernel
theorem dX9_standBelow_101 : decode cX9_standBelow 101 = .ok (.invokestatic 54, 3) := by decide +kernel
theorem dX9_standBelow_104 : decode cX9_standBelow 104 = .ok (.return_, 1) := by decide +kernel
theorem dX9_fieldNamed_0 : decode cX9_fieldNamed 0 = .ok (.iconst 0, 1) := by decide +kernel
theorem dX9_fieldNamed_1 : decode cX9_fieldNamed 1 = .ok (.istore_n 3, 1) := by decide +kernel
theorem dX9_fieldNamed_2 : decode cX9_fieldNamed 2 = .ok (.iload_n 3, 1) := by decide +kernel
theorem dX9_fieldNamed_3 : decode cX9_fieldNamed 3 = .ok (.aload_n 0, 1) := by decide +kernel
theorem dX9_fieldNamed_4 : decode cX9_fieldNamed 4 = .ok (.getfield 36, 3) := by decide +kernel
theorem dX9_fieldNamed_7 : decode cX9_fieldNamed 7 = .ok (.if_icmp .ge 22, 3) := by decide +kernel
theorem dX9_fieldNamed_10 : decode cX9_fieldNamed 10 = .ok (.aload_n 0, 1) := by decide +kernel
theorem dX9_fieldNamed_11 : decode cX9_fieldNamed 11 = .ok (.getfield 11, 3) := by decide +kernel
theorem dX9_fieldNamed_14 : decode cX9_fieldNamed 14 = .ok (.iload_n 3, 1) := by decide +kernel
theorem dX9_fieldNamed_15 : decode cX9_fieldNamed 15 = .ok (.laload, 1) := by decide +kernel
theorem dX9_fieldNamed_16 : decode cX9_fieldNamed 16 = .ok (.lload_n 1, 1) := by decide +kernel
theorem dX9_fieldNamed_17 : decode cX9_fieldNamed 17 = .ok (.lcmp, 1) := by decide +kernel
theorem dX9_fieldNamed_18 : decode cX9_fieldNamed 18 = .ok (.ifCond .ne 5, 3) := by decide +kernel
theorem dX9_fieldNamed_21 : decode cX9_fieldNamed 21 = .ok (.iload_n 3, 1) := by decide +kernel
theorem dX9_fieldNamed_22 : decode cX9_fieldNamed 22 = .ok (.ireturn, 1) := by decide +kernel
theorem dX9_fieldNamed_23 : decode cX9_fieldNamed 23 = .ok (.iinc 3 1, 3) := by decide +kernel
theorem dX9_fieldNamed_26 : decode cX9_fieldNamed 26 = .ok (.goto (-24), 3) := by decide +kernel
theorem dX9_fieldNamed_29 : decode cX9_fieldNamed 29 = .ok (.iconst (-1), 1) := by decide +kernel
theorem dX9_fieldNamed_30 : decode cX9_fieldNamed 30 = .ok (.ireturn, 1) := by decide +kernel
theorem dX9_isRow_0 : decode cX9_isRow 0 = .ok (.iload_n 1, 1) := by decide +kernel
theorem dX9_isRow_1 : decode cX9_isRow 1 = .ok (.ifCond .lt 24, 3) := by decide +kernel
theorem dX9_isRow_4 : decode cX9_isRow 4 = .ok (.iload_n 1, 1) := by decide +kernel
theorem dX9_isRow_5 : decode cX9_isRow 5 = .ok (.aload_n 0, 1) := by decide +kernel
theorem dX9_isRow_6 : decode cX9_isRow 6 = .ok (.getfield 36, 3) := by decide +kernel
theorem dX9_isRow_9 : decode cX9_isRow 9 = .ok (.if_icmp .ge 16, 3) := by decide +kernel
theorem dX9_isRow_12 : decode cX9_isRow 12 = .ok (.aload_n 0, 1) := by decide +kernel
theorem dX9_isRow_13 : decode cX9_isRow 13 = .ok (.getfield 19, 3) := by decide +kernel
theorem dX9_isRow_16 : decode cX9_isRow 16 = .ok (.iload_n 1, 1) := by decide +kernel
theorem dX9_isRow_17 : decode cX9_isRow 17 = .ok (.iaload, 1) := by decide +kernel
theorem dX9_isRow_18 : decode cX9_isRow 18 = .ok (.ifCond .le 7, 3) := by decide +kernel
theorem dX9_isRow_21 : decode cX9_isRow 21 = .ok (.iconst 1, 1) := by decide +kernel
theorem dX9_isRow_22 : decode cX9_isRow 22 = .ok (.goto 4, 3) := by decide +kernel
theorem dX9_isRow_25 : decode cX9_isRow 25 = .ok (.iconst 0, 1) := by decide +kernel
theorem dX9_isRow_26 : decode cX9_isRow 26 = .ok (.ireturn, 1) := by decide +kernel
theorem dX9_spanOf_0 : decode cX9_spanOf 0 = .ok (.iload_n 1, 1) := by decide +kernel
theorem dX9_spanOf_1 : decode cX9_spanOf 1 = .ok (.ifCond .lt 30, 3) := by decide +kernel
theorem dX9_spanOf_4 : decode cX9_spanOf 4 = .ok (.iload_n 1, 1) := by decide +kernel
theorem dX9_spanOf_5 : decode cX9_spanOf 5 = .ok (.aload_n 0, 1) := by decide +kernel
theorem dX9_spanOf_6 : decode cX9_spanOf 6 = .ok (.getfield 36, 3) := by decide +kernel
theorem dX9_spanOf_9 : decode cX9_spanOf 9 = .ok (.if_icmp .ge 22, 3) := by decide +kernel
theorem dX9_spanOf_12 : decode cX9_spanOf 12 = .ok (.aload_n 0, 1) := by decide +kernel
theorem dX9_spanOf_13 : decode cX9_spanOf 13 = .ok (.getfield 15, 3) := by decide +kernel
theorem dX9_spanOf_16 : decode cX9_spanOf 16 = .ok (.iload_n 1, 1) := by decide +kernel
theorem dX9_spanOf_17 : decode cX9_spanOf 17 = .ok (.iaload, 1) := by decide +kernel
theorem dX9_spanOf_18 : decode cX9_spanOf 18 = .ok (.bipush 16, 2) := by decide +kernel
theorem dX9_spanOf_20 : decode cX9_spanOf 20 = .ok (.imul, 1) := by decide +kernel
theorem dX9_spanOf_21 : decode cX9_spanOf 21 = .ok (.aload_n 0, 1) := by decide +kernel
theorem dX9_spanOf_22 : decode cX9_spanOf 22 = .ok (.getfield 19, 3) := by decide +kernel
theorem dX9_spanOf_25 : decode cX9_spanOf 25 = .ok (.iload_n 1, 1) := by decide +kernel
theorem dX9_spanOf_26 : decode cX9_spanOf 26 = .ok (.iaload, 1) := by decide +kernel
theorem dX9_spanOf_27 : decode cX9_spanOf 27 = .ok (.iadd, 1) := by decide +kernel
theorem dX9_spanOf_28 : decode cX9_spanOf 28 = .ok (.goto 4, 3) := by decide +kernel
theorem dX9_spanOf_31 : decode cX9_spanOf 31 = .ok (.iconst 0, 1) := by decide +kernel
theorem dX9_spanOf_32 : decode cX9_spanOf 32 = .ok (.ireturn, 1) := by decide +kernel
theorem dX9_addField_0 : decode cX9_addField 0 = .ok (.aload_n 0, 1) := by decide +kernel
theorem dX9_addField_1 : decode cX9_addField 1 = .ok (.getfield 36, 3) := by decide +kernel
theorem dX9_addField_4 : decode cX9_addField 4 = .ok (.bipush 10, 2) := by decide +kernel
theorem dX9_addField_6 : decode cX9_addField 6 = .ok (.if_icmp .ge 71, 3) := by decide +kernel
theorem dX9_addField_9 : decode cX9_addField 9 = .ok (.aload_n 0, 1) := by decide +kernel
theorem dX9_addField_10 : decode cX9_addField 10 = .ok (.getfield 11, 3) := by decide +kernel
theorem dX9_addField_13 : decode cX9_addField 13 = .ok (.aload_n 0, 1) := by decide +kernel
theorem dX9_addField_14 : decode cX9_addField 14 = .ok (.getfield 36, 3) := by decide +kernel
theorem dX9_addField_17 : decode cX9_addField 17 = .ok (.lload_n 1, 1) := by decide +kernel
theorem dX9_addField_18 : decode cX9_addField 18 = .ok (.lastore, 1) := by decide +kernel
theorem dX9_addField_19 : decode cX9_addField 19 = .ok (.aload_n 0, 1) := by decide +kernel
theorem dX9_addField_20 : decode cX9_addField 20 = .ok (.getfield 15, 3) := by decide +kernel
theorem dX9_addField_23 : decode cX9_addField 23 = .ok (.aload_n 0, 1) := by decide +kernel
theorem dX9_addField_24 : decode cX9_addField 24 = .ok (.getfield 36, 3) := by decide +kernel
theorem dX9_addField_27 : decode cX9_addField 27 = .ok (.aload_n 0, 1) := by decide +kernel
theorem dX9_addField_28 : decode cX9_addField 28 = .ok (.getfield 39, 3) := by decide +kernel
theorem dX9_addField_31 : decode cX9_addField 31 = .ok (.iastore, 1) := by decide +kernel
theorem dX9_addField_32 : decode cX9_addField 32 = .ok (.aload_n 0, 1) := by decide +kernel
theorem dX9_addField_33 : decode cX9_addField 33 = .ok (.getfield 19, 3) := by decide +kernel
theorem dX9_addField_36 : decode cX9_addField 36 = .ok (.aload_n 0, 1) := by decide +kernel
theorem dX9_addField_37 : decode cX9_addField 37 = .ok (.getfield 36, 3) := by decide +kernel
theorem dX9_addField_40 : decode cX9_addField 40 = .ok (.iload_n 3, 1) := by decide +kernel
theorem dX9_addField_41 : decode cX9_addField 41 = .ok (.iastore, 1) := by decide +kernel
theorem dX9_addField_42 : decode cX9_addField 42 = .ok (.aload_n 0, 1) := by decide +kernel
theorem dX9_addField_43 : decode cX9_addField 43 = .ok (.getfield 22, 3) := by decide +kernel
theorem dX9_addField_46 : decode cX9_addField 46 = .ok (.aload_n 0, 1) := by decide +kernel
theorem dX9_addField_47 : decode cX9_addField 47 = .ok (.getfield 36, 3) := by decide +kernel
theorem dX9_addField_50 : decode cX9_addField 50 = .ok (.iload 4, 2) := by decide +kernel
theorem dX9_addField_52 : decode cX9_addField 52 = .ok (.iastore, 1) := by decide +kernel
theorem dX9_addField_53 : decode cX9_addField 53 = .ok (.aload_n 0, 1) := by decide +kernel
theorem dX9_addField_54 : decode cX9_addField 54 = .ok (.dup, 1) := by decide +kernel
theorem dX9_addField_55 : decode cX9_addField 55 = .ok (.getfield 39, 3) := by decide +kernel
theorem dX9_addField_58 : decode cX9_addField 58 = .ok (.iload_n 3, 1) := by decide +kernel
theorem dX9_addField_59 : decode cX9_addField 59 = .ok (.iconst 1, 1) := by decide +kernel
theorem dX9_addField_60 : decode cX9_addField 60 = .ok (.invokestatic 60, 3) := by decide +kernel
theorem dX9_addField_63 : decode cX9_addField 63 = .ok (.iadd, 1) := by decide +kernel
theorem dX9_addField_64 : decode cX9_addField 64 = .ok (.putfield 39, 3) := by decide +kernel
theorem dX9_addField_67 : decode cX9_addField 67 = .ok (.aload_n 0, 1) := by decide +kernel
theorem dX9_addField_68 : decode cX9_addField 68 = .ok (.dup, 1) := by decide +kernel
theorem dX9_addField_69 : decode cX9_addField 69 = .ok (.getfield 36, 3) := by decide +kernel
theorem dX9_addField_72 : decode cX9_addField 72 = .ok (.iconst 1, 1) := by decide +kernel
theorem dX9_addField_73 : decode cX9_addField 73 = .ok (.iadd, 1) := by decide +kernel
theorem dX9_addField_74 : decode cX9_addField 74 = .ok (.putfield 36, 3) := by decide +kernel
theorem dX9_addField_77 : decode cX9_addField 77 = .ok (.return_, 1) := by decide +kernel
theorem dX10_useText_0 : decode cX10_useText 0 = .ok (.aload_n 0, 1) := by decide +kernel
theorem dX10_useText_1 : decode cX10_useText 1 = .ok (.aload_n 1, 1) := by decide +kernel
theorem dX10_useText_2 : decode cX10_useText 2 = .ok (.putfield 9, 3) := by decide +kernel
theorem dX10_useText_5 : decode cX10_useText 5 = .ok (.aload_n 0, 1) := by decide +kernel
theorem dX10_useText_6 : decode cX10_useText 6 = .ok (.getfield 25, 3) := by decide +kernel
theorem dX10_useText_9 : decode cX10_useText 9 = .ok (.invokevirtual 42, 3) := by decide +kernel
theorem dX10_useText_12 : decode cX10_useText 12 = .ok (.aload_n 0, 1) := by decide +kernel
theorem dX10_useText_13 : decode cX10_useText 13 = .ok (.getfield 35, 3) := by decide +kernel
theorem dX10_useText_16 : decode cX10_useText 16 = .ok (.invokevirtual 45, 3) := by decide +kernel
theorem dX10_useText_19 : decode cX10_useText 19 = .ok (.aload_n 0, 1) := by decide +kernel
theorem dX10_useText_20 : decode cX10_useText 20 = .ok (.iconst 0, 1) := by decide +kernel
theorem dX10_useText_21 : decode cX10_useText 21 = .ok (.putfield 46, 3) := by decide +kernel
theorem dX10_useText_24 : decode cX10_useText 24 = .ok (.aload_n 0, 1) := by decide +kernel
theorem dX10_useText_25 : decode cX10_useText 25 = .ok (.iconst 0, 1) := by decide +kernel
theorem dX10_useText_26 : decode cX10_useText 26 = .ok (.putfield 50, 3) := by decide +kernel
theorem dX10_useText_29 : decode cX10_useText 29 = .ok (.aload_n 0, 1) := by decide +kernel
theorem dX10_useText_30 : decode cX10_useText 30 = .ok (.iconst 0, 1) := by decide +kernel
theorem dX10_useText_31 : decode cX10_useText 31 = .ok (.putfield 53, 3) := by decide +kernel
theorem dX10_useText_34 : decode cX10_useText 34 = .ok (.return_, 1) := by decide +kernel
theorem dX11_classes_0 : decode cX11_classes 0 = .ok (.aload_n 0, 1) := by decide +kernel
theorem dX11_classes_1 : decode cX11_classes 1 = .ok (.getfield 20, 3) := by decide +kernel
theorem dX11_classes_4 : decode cX11_classes 4 = .ok (.aload_n 0, 1) := by decide +kernel
theorem dX11_classes_5 : decode cX11_classes 5 = .ok (.getfield 9, 3) := by decide +kernel
theorem dX11_classes_8 : decode cX11_classes 8 = .ok (.aload_n 0, 1) := by decide +kernel
theorem dX11_classes_9 : decode cX11_classes 9 = .ok (.getfield 13, 3) := by decide +kernel
theorem dX11_classes_12 : decode cX11_classes 12 = .ok (.aload_n 0, 1) := by decide +kernel
theorem dX11_classes_13 : decode cX11_classes 13 = .ok (.getfield 31, 3) := by decide +kernel
theorem dX11_classes_16 : decode cX11_classes 16 = .ok (.invokevirtual 53, 3) := by decide +kernel
theorem dX11_classes_19 : decode cX11_classes 19 = .ok (.aload_n 0, 1) := by decide +kernel
theorem dX11_classes_20 : decode cX11_classes 20 = .ok (.getfield 20, 3) := by decide +kernel
theorem dX11_classes_23 : decode cX11_classes 23 = .ok (.invokevirtual 57, 3) := by decide +kernel
theorem dX11_classes_26 : decode cX11_classes 26 = .ok (.iconst 0, 1) := by decide +kernel
theorem dX11_classes_27 : decode cX11_classes 27 = .ok (.istore_n 1, 1) := by decide +kernel
theorem dX11_classes_28 : decode cX11_classes 28 = .ok (.iload_n 1, 1) := by decide +kernel
theorem dX11_classes_29 : decode cX11_classes 29 = .ok (.bipush 8, 2) := by decide +kernel
theorem dX11_classes_31 : decode cX11_classes 31 = .ok (.if_icmp .gt 26, 3) := by decide +kernel
theorem dX11_classes_34 : decode cX11_classes 34 = .ok (.aload_n 0, 1) := by decide +kernel
theorem dX11_classes_35 : decode cX11_classes 35 = .ok (.getfield 20, 3) := by decide +kernel
theorem dX11_classes_38 : decode cX11_classes 38 = .ok (.invokevirtual 60, 3) := by decide +kernel
theorem dX11_classes_41 : decode cX11_classes 41 = .ok (.ifCond .eq 16, 3) := by decide +kernel
theorem dX11_classes_44 : decode cX11_classes 44 = .ok (.aload_n 0, 1) := by decide +kernel
theorem dX11_classes_45 : decode cX11_classes 45 = .ok (.getfield 20, 3) := by decide +kernel
theorem dX11_classes_48 : decode cX11_classes 48 = .ok (.invokevirtual 57, 3) := by decide +kernel
theorem dX11_classes_51 : decode cX11_classes 51 = .ok (.iinc 1 1, 3) := by decide +kernel
theorem dX11_classes_54 : decode cX11_classes 54 = .ok (.goto (-26), 3) := by decide +kernel
theorem dX11_classes_57 : decode cX11_classes 57 = .ok (.aload_n 0, 1) := by decide +kernel
theorem dX11_classes_58 : decode cX11_classes 58 = .ok (.getfield 20, 3) := by decide +kernel
theorem dX11_classes_61 : decode cX11_classes 61 = .ok (.invokevirtual 64, 3) := by decide +kernel
theorem dX11_classes_64 : decode cX11_classes 64 = .ok (.aload_n 0, 1) := by decide +kernel
theorem dX11_classes_65 : decode cX11_classes 65 = .ok (.iconst 0, 1) := by decide +kernel
theorem dX11_classes_66 : decode cX11_classes 66 = .ok (.putfield 13, 3) := by decide +kernel
theorem dX11_classes_69 : decode cX11_classes 69 = .ok (.aload_n 0, 1) := by decide +kernel
theorem dX11_classes_70 : decode cX11_classes 70 = .ok (.aload_n 0, 1) := by decide +kernel
theorem dX11_classes_71 : decode cX11_classes 71 = .ok (.getfield 20, 3) := by decide +kernel
theorem dX11_classes_74 : decode cX11_classes 74 = .ok (.invokevirtual 67, 3) := by decide +kernel
theorem dX11_classes_77 : decode cX11_classes 77 = .ok (.putfield 43, 3) := by decide +kernel
theorem dX11_classes_80 : decode cX11_classes 80 = .ok (.aload_n 0, 1) := by decide +kernel
theorem dX11_classes_81 : decode cX11_classes 81 = .ok (.aload_n 0, 1) := by decide +kernel
theorem dX11_classes_82 : decode cX11_classes 82 = .ok (.getfield 20, 3) := by decide +kernel
theorem dX11_classes_85 : decode cX11_classes 85 = .ok (.invokevirtual 70, 3) := by decide +kernel
theorem dX11_classes_88 : decode cX11_classes 88 = .ok (.putfield 46, 3) := by decide +kernel
theorem dX11_classes_91 : decode cX11_classes 91 = .ok (.aload_n 0, 1) := by decide +kernel
theorem dX11_classes_92 : decode cX11_classes 92 = .ok (.getfield 43, 3) := by decide +kernel
theorem dX11_classes_95 : decode cX11_classes 95 = .ok (.ifCond .eq 5, 3) := by decide +kernel
theorem dX11_classes_98 : decode cX11_classes 98 = .ok (.iconst (-1), 1) := by decide +kernel
theorem dX11_classes_99 : decode cX11_classes 99 = .ok (.ireturn, 1) := by decide +kernel
theorem dX11_classes_100 : decode cX11_classes 100 = .ok (.aload_n 0, 1) := by decide +kernel
theorem dX11_classes_101 : decode cX11_classes 101 = .ok (.getfield 31, 3) := by decide +kernel
theorem dX11_classes_104 : decode cX11_classes 104 = .ok (.astore_n 1, 1) := by decide +kernel
theorem dX11_classes_105 : decode cX11_classes 105 = .ok (.aload_n 0, 1) := by decide +kernel
theorem dX11_classes_106 : decode cX11_classes 106 = .ok (.aload_n 0, 1) := by decide +kernel
theorem dX11_classes_107 : decode cX11_classes 107 = .ok (.getfield 27, 3) := by decide +kernel
theorem dX11_classes_110 : decode cX11_classes 110 = .ok (.putfield 31, 3) := by decide +kernel
theorem dX11_classes_113 : decode cX11_classes 113 = .ok (.aload_n 0, 1) := by decide +kernel
theorem dX11_classes_114 : decode cX11_classes 114 = .ok (.aload_n 1, 1) := by decide +kernel
theorem dX11_classes_115 : decode cX11_classes 115 = .ok (.putfield 27, 3) := by decide +kernel
theorem dX11_classes_118 : decode cX11_classes 118 = .ok (.aload_n 0, 1) := by decide +kernel
theorem dX11_classes_119 : decode cX11_classes 119 = .ok (.getfield 39, 3) := by decide +kernel
theorem dX11_classes_122 : decode cX11_classes 122 = .ok (.aload_n 0, 1) := by decide +kernel
theorem dX11_classes_123 : decode cX11_classes 123 = .ok (.getfield 27, 3) := by decide +kernel
theorem dX11_classes_126 : decode cX11_classes 126 = .ok (.invokevirtual 72, 3) := by decide +kernel
theorem dX11_classes_129 : decode cX11_classes 129 = .ok (.aload_n 0, 1) := by decide +kernel
theorem dX11_classes_130 : decode cX11_classes 130 = .ok (.getfield 27, 3) := by decide +kernel
theorem dX11_classes_133 : decode cX11_classes 133 = .ok (.getfield 75, 3) := by decide +kernel
theorem dX11_classes_136 : decode cX11_classes 136 = .ok (.ireturn, 1) := by decide +kernel
theorem dJ0_indexOf_0f7a4_0 : decode cJ0_indexOf_0f7a4 0 = .ok (.aload_n 0, 1) := by decide +kernel
theorem dJ0_indexOf_0f7a4_1 : decode cJ0_indexOf_0f7a4 1 = .ok (.iload_n 1, 1) := by decide +kernel
theorem dJ0_indexOf_0f7a4_2 : decode cJ0_indexOf_0f7a4 2 = .ok (.iconst 0, 1) := by decide +kernel
theorem dJ0_indexOf_0f7a4_3 : decode cJ0_indexOf_0f7a4 3 = .ok (.invokevirtual 633, 3) := by decide +kernel
theorem dJ0_indexOf_0f7a4_6 : decode cJ0_indexOf_0f7a4 6 = .ok (.ireturn, 1) := by decide +kernel
theorem dJ0_indexOf_7cf53_0 : decode cJ0_indexOf_7cf53 0 = .ok (.aload_n 0, 1) := by decide +kernel
theorem dJ0_indexOf_7cf53_1 : decode cJ0_indexOf_7cf53 1 = .ok (.invokevirtual 492, 3) := by decide +kernel
theorem dJ0_indexOf_7cf53_4 : decode cJ0_indexOf_7cf53 4 = .ok (.ifCond .eq 19, 3) := by decide +kernel
theorem dJ0_indexOf_7cf53_7 : decode cJ0_indexOf_7cf53 7 = .ok (.aload_n 0, 1) := by decide +kernel
theorem dJ0_indexOf_7cf53_8 : decode cJ0_indexOf_7cf53 8 = .ok (.getfield 9, 3) := by decide +kernel
theorem dJ0_indexOf_7cf53_11 : decode cJ0_indexOf_7cf53 11 = .ok (.iload_n 1, 1) := by decide +kernel
theorem dJ0_indexOf_7cf53_12 : decode cJ0_indexOf_7cf53 12 = .ok (.iload_n 2, 1) := by decide +kernel
theorem dJ0_indexOf_7cf53_13 : decode cJ0_indexOf_7cf53 13 = .ok (.aload_n 0, 1) := by decide +kernel
theorem dJ0_indexOf_7cf53_14 : decode cJ0_indexOf_7cf53 14 = .ok (.invokevirtual 505, 3) := by decide +kernel
theorem dJ0_indexOf_7cf53_17 : decode cJ0_indexOf_7cf53 17 = .ok (.invokestatic 637, 3) := by decide +kernel
theorem dJ0_indexOf_7cf53_20 : decode cJ0_indexOf_7cf53 20 = .ok (.goto 16, 3) := by decide +kernel
theorem dJ0_indexOf_7cf53_23 : decode cJ0_indexOf_7cf53 23 = .ok (.aload_n 0, 1) := by decide +kernel
theorem dJ0_indexOf_7cf53_24 : decode cJ0_indexOf_7cf53 24 = .ok (.getfield 9, 3) := by decide +kernel
theorem dJ0_indexOf_7cf53_27 : decode cJ0_indexOf_7cf53 27 = .ok (.iload_n 1, 1) := by decide +kernel
theorem dJ0_indexOf_7cf53_28 : decode cJ0_indexOf_7cf53 28 = .ok (.iload_n 2, 1) := by decide +kernel
theorem dJ0_indexOf_7cf53_29 : decode cJ0_indexOf_7cf53 29 = .ok (.aload_n 0, 1) := by decide +kernel
theorem dJ0_indexOf_7cf53_30 : decode cJ0_indexOf_7cf53 30 = .ok (.invokevirtual 505, 3) := by decide +kernel
theorem dJ0_indexOf_7cf53_33 : decode cJ0_indexOf_7cf53 33 = .ok (.invokestatic 640, 3) := by decide +kernel
theorem dJ0_indexOf_7cf53_36 : decode cJ0_indexOf_7cf53 36 = .ok (.ireturn, 1) := by decide +kernel
theorem dJ1_canEncode_9a6ad_0 : decode cJ1_canEncode_9a6ad 0 = .ok (.iload_n 0, 1) := by decide +kernel
theorem dJ1_canEncode_9a6ad_1 : decode cJ1_canEncode_9a6ad 1 = .ok (.ifCond .lt 14, 3) := by decide +kernel
theorem dJ1_canEncode_9a6ad_4 : decode cJ1_canEncode_9a6ad 4 = .ok (.iload_n 0, 1) := by decide +kernel
theorem dJ1_canEncode_9a6ad_5 : decode cJ1_canEncode_9a6ad 5 = .ok (.sipush 255, 3) := by decide +kernel
theorem dJ1_canEncode_9a6ad_8 : decode cJ1_canEncode_9a6ad 8 = .ok (.if_icmp .gt 7, 3) := by decide +kernel
theorem dJ1_canEncode_9a6ad_11 : decode cJ1_canEncode_9a6ad 11 = .ok (.iconst 1, 1) := by decide +kernel
theorem dJ1_canEncode_9a6ad_12 : decode cJ1_canEncode_9a6ad 12 = .ok (.goto 4, 3) := by decide +kernel
theorem dJ1_canEncode_9a6ad_15 : decode cJ1_canEncode_9a6ad 15 = .ok (.iconst 0, 1) := by decide +kernel
theorem dJ1_canEncode_9a6ad_16 : decode cJ1_canEncode_9a6ad 16 = .ok (.ireturn, 1) := by decide +kernel
theorem dJ1_indexOf_4cfef_0 : decode cJ1_indexOf_4cfef 0 = .ok (.iload_n 1, 1) := by decide +kernel
theorem dJ1_indexOf_4cfef_1 : decode cJ1_indexOf_4cfef 1 = .ok (.invokestatic 88, 3) := by decide +kernel
theorem dJ1_indexOf_4cfef_4 : decode cJ1_indexOf_4cfef 4 = .ok (.ifCond .ne 5, 3) := by decide +kernel
theorem dJ1_indexOf_4cfef_7 : decode cJ1_indexOf_4cfef 7 = .ok (.iconst (-1), 1) := by decide +kernel
theorem dJ1_indexOf_4cfef_8 : decode cJ1_indexOf_4cfef 8 = .ok (.ireturn, 1) := by decide +kernel
theorem dJ1_indexOf_4cfef_9 : decode cJ1_indexOf_4cfef 9 = .ok (.iload_n 2, 1) := by decide +kernel
theorem dJ1_indexOf_4cfef_10 : decode cJ1_indexOf_4cfef 10 = .ok (.iconst 0, 1) := by decide +kernel
theorem dJ1_indexOf_4cfef_11 : decode cJ1_indexOf_4cfef 11 = .ok (.invokestatic 92, 3) := by decide +kernel
theorem dJ1_indexOf_4cfef_14 : decode cJ1_indexOf_4cfef 14 = .ok (.istore_n 2, 1) := by decide +kernel
theorem dJ1_indexOf_4cfef_15 : decode cJ1_indexOf_4cfef 15 = .ok (.iload_n 3, 1) := by decide +kernel
theorem dJ1_indexOf_4cfef_16 : decode cJ1_indexOf_4cfef 16 = .ok (.aload_n 0, 1) := by decide +kernel
theorem dJ1_indexOf_4cfef_17 : decode cJ1_indexOf_4cfef 17 = .ok (.arraylength, 1) := by decide +kernel
theorem dJ1_indexOf_4cfef_18 : decode cJ1_indexOf_4cfef 18 = .ok (.invokestatic 38, 3) := by decide +kernel
theorem dJ1_indexOf_4cfef_21 : decode cJ1_indexOf_4cfef 21 = .ok (.istore_n 3, 1) := by decide +kernel
theorem dJ1_indexOf_4cfef_22 : decode cJ1_indexOf_4cfef 22 = .ok (.iload_n 2, 1) := by decide +kernel
theorem dJ1_indexOf_4cfef_23 : decode cJ1_indexOf_4cfef 23 = .ok (.iload_n 3, 1) := by decide +kernel
theorem dJ1_indexOf_4cfef_24 : decode cJ1_indexOf_4cfef 24 = .ok (.if_icmp .lt 5, 3) := by decide +kernel
theorem dJ1_indexOf_4cfef_27 : decode cJ1_indexOf_4cfef 27 = .ok (.iconst (-1), 1) := by decide +kernel
theorem dJ1_indexOf_4cfef_28 : decode cJ1_indexOf_4cfef 28 = .ok (.ireturn, 1) := by decide +kernel
theorem dJ1_indexOf_4cfef_29 : decode cJ1_indexOf_4cfef 29 = .ok (.aload_n 0, 1) := by decide +kernel
theorem dJ1_indexOf_4cfef_30 : decode cJ1_indexOf_4cfef 30 = .ok (.iload_n 1, 1) := by decide +kernel
theorem dJ1_indexOf_4cfef_31 : decode cJ1_indexOf_4cfef 31 = .ok (.iload_n 2, 1) := by decide +kernel
theorem dJ1_indexOf_4cfef_32 : decode cJ1_indexOf_4cfef 32 = .ok (.iload_n 3, 1) := by decide +kernel
theorem dJ1_indexOf_4cfef_33 : decode cJ1_indexOf_4cfef 33 = .ok (.invokestatic 95, 3) := by decide +kernel
theorem dJ1_indexOf_4cfef_36 : decode cJ1_indexOf_4cfef 36 = .ok (.ireturn, 1) := by decide +kernel
theorem dJ1_indexOfChar_4cfef_0 : decode cJ1_indexOfChar_4cfef 0 = .ok (.iload_n 1, 1) := by decide +kernel
theorem dJ1_indexOfChar_4cfef_1 : decode cJ1_indexOfChar_4cfef 1 = .ok (.i2b, 1) := by decide +kernel
theorem dJ1_indexOfChar_4cfef_2 : decode cJ1_indexOfChar_4cfef 2 = .ok (.istore 4, 2) := by decide +kernel
theorem dJ1_indexOfChar_4cfef_4 : decode cJ1_indexOfChar_4cfef 4 = .ok (.iload_n 2, 1) := by decide +kernel
theorem dJ1_indexOfChar_4cfef_5 : decode cJ1_indexOfChar_4cfef 5 = .ok (.istore 5, 2) := by decide +kernel
theorem dJ1_indexOfChar_4cfef_7 : decode cJ1_indexOfChar_4cfef 7 = .ok (.iload 5, 2) := by decide +kernel
theorem dJ1_indexOfChar_4cfef_9 : decode cJ1_indexOfChar_4cfef 9 = .ok (.iload_n 3, 1) := by decide +kernel
theorem dJ1_indexOfChar_4cfef_10 : decode cJ1_indexOfChar_4cfef 10 = .ok (.if_icmp .ge 21, 3) := by decide +kernel
theorem dJ1_indexOfChar_4cfef_13 : decode cJ1_indexOfChar_4cfef 13 = .ok (.aload_n 0, 1) := by decide +kernel
theorem dJ1_indexOfChar_4cfef_14 : decode cJ1_indexOfChar_4cfef 14 = .ok (.iload 5, 2) := by decide +kernel
theorem dJ1_indexOfChar_4cfef_16 : decode cJ1_indexOfChar_4cfef 16 = .ok (.baload, 1) := by decide +kernel
theorem dJ1_indexOfChar_4cfef_17 : decode cJ1_indexOfChar_4cfef 17 = .ok (.iload 4, 2) := by decide +kernel
theorem dJ1_indexOfChar_4cfef_19 : decode cJ1_indexOfChar_4cfef 19 = .ok (.if_icmp .ne 6, 3) := by decide +kernel
theorem dJ1_indexOfChar_4cfef_22 : decode cJ1_indexOfChar_4cfef 22 = .ok (.iload 5, 2) := by decide +kernel
theorem dJ1_indexOfChar_4cfef_24 : decode cJ1_indexOfChar_4cfef 24 = .ok (.ireturn, 1) := by decide +kernel
theorem dJ1_indexOfChar_4cfef_25 : decode cJ1_indexOfChar_4cfef 25 = .ok (.iinc 5 1, 3) := by decide +kernel
theorem dJ1_indexOfChar_4cfef_28 : decode cJ1_indexOfChar_4cfef 28 = .ok (.goto (-21), 3) := by decide +kernel
theorem dJ1_indexOfChar_4cfef_31 : decode cJ1_indexOfChar_4cfef 31 = .ok (.iconst (-1), 1) := by decide +kernel
theorem dJ1_indexOfChar_4cfef_32 : decode cJ1_indexOfChar_4cfef 32 = .ok (.ireturn, 1) := by decide +kernel
