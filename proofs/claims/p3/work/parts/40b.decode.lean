theorem dX14_all_0 : decode cX14_all 0 = .ok (.aload_n 0, 1) := by decide +kernel
theorem dX14_all_1 : decode cX14_all 1 = .ok (.iload_n 1, 1) := by decide +kernel
theorem dX14_all_2 : decode cX14_all 2 = .ok (.invokevirtual 544, 3) := by decide +kernel
theorem dX14_all_5 : decode cX14_all 5 = .ok (.ifCond .eq 15, 3) := by decide +kernel
theorem dX14_all_8 : decode cX14_all 8 = .ok (.iload_n 2, 1) := by decide +kernel
theorem dX14_all_9 : decode cX14_all 9 = .ok (.i2l, 1) := by decide +kernel
theorem dX14_all_10 : decode cX14_all 10 = .ok (.lconst 1, 1) := by decide +kernel
theorem dX14_all_11 : decode cX14_all 11 = .ok (.ldc2_w 727, 3) := by decide +kernel
theorem dX14_all_14 : decode cX14_all 14 = .ok (.invokestatic 395, 3) := by decide +kernel
theorem dX14_all_17 : decode cX14_all 17 = .ok (.ifCond .ne 6, 3) := by decide +kernel
theorem dX14_all_20 : decode cX14_all 20 = .ok (.bipush (-2), 2) := by decide +kernel
theorem dX14_all_22 : decode cX14_all 22 = .ok (.ireturn, 1) := by decide +kernel
theorem dX14_all_23 : decode cX14_all 23 = .ok (.aload_n 0, 1) := by decide +kernel
theorem dX14_all_24 : decode cX14_all 24 = .ok (.iconst 0, 1) := by decide +kernel
theorem dX14_all_25 : decode cX14_all 25 = .ok (.putfield 538, 3) := by decide +kernel
theorem dX14_all_28 : decode cX14_all 28 = .ok (.aload_n 0, 1) := by decide +kernel
theorem dX14_all_29 : decode cX14_all 29 = .ok (.iconst 0, 1) := by decide +kernel
theorem dX14_all_30 : decode cX14_all 30 = .ok (.putfield 541, 3) := by decide +kernel
theorem dX14_all_33 : decode cX14_all 33 = .ok (.aload_n 0, 1) := by decide +kernel
theorem dX14_all_34 : decode cX14_all 34 = .ok (.iconst 0, 1) := by decide +kernel
theorem dX14_all_35 : decode cX14_all 35 = .ok (.putfield 711, 3) := by decide +kernel
theorem dX14_all_38 : decode cX14_all 38 = .ok (.iconst 1, 1) := by decide +kernel
theorem dX14_all_39 : decode cX14_all 39 = .ok (.istore_n 3, 1) := by decide +kernel
theorem dX14_all_40 : decode cX14_all 40 = .ok (.iload_n 3, 1) := by decide +kernel
theorem dX14_all_41 : decode cX14_all 41 = .ok (.iload_n 2, 1) := by decide +kernel
theorem dX14_all_42 : decode cX14_all 42 = .ok (.if_icmp .gt 41, 3) := by decide +kernel
theorem dX14_all_45 : decode cX14_all 45 = .ok (.aload_n 0, 1) := by decide +kernel
theorem dX14_all_46 : decode cX14_all 46 = .ok (.invokevirtual 697, 3) := by decide +kernel
theorem dX14_all_49 : decode cX14_all 49 = .ok (.istore 4, 2) := by decide +kernel
theorem dX14_all_51 : decode cX14_all 51 = .ok (.aload_n 0, 1) := by decide +kernel
theorem dX14_all_52 : decode cX14_all 52 = .ok (.iload_n 1, 1) := by decide +kernel
theorem dX14_all_53 : decode cX14_all 53 = .ok (.iload_n 3, 1) := by decide +kernel
theorem dX14_all_54 : decode cX14_all 54 = .ok (.invokevirtual 717, 3) := by decide +kernel
theorem dX14_all_57 : decode cX14_all 57 = .ok (.ifCond .ne 6, 3) := by decide +kernel
theorem dX14_all_60 : decode cX14_all 60 = .ok (.goto 17, 3) := by decide +kernel
theorem dX14_all_63 : decode cX14_all 63 = .ok (.aload_n 0, 1) := by decide +kernel
theorem dX14_all_64 : decode cX14_all 64 = .ok (.getfield 711, 3) := by decide +kernel
theorem dX14_all_67 : decode cX14_all 67 = .ok (.ifCond .le 8, 3) := by decide +kernel
theorem dX14_all_70 : decode cX14_all 70 = .ok (.aload_n 0, 1) := by decide +kernel
theorem dX14_all_71 : decode cX14_all 71 = .ok (.getfield 711, 3) := by decide +kernel
theorem dX14_all_74 : decode cX14_all 74 = .ok (.ireturn, 1) := by decide +kernel
theorem dX14_all_75 : decode cX14_all 75 = .ok (.iload_n 2, 1) := by decide +kernel
theorem dX14_all_76 : decode cX14_all 76 = .ok (.istore_n 3, 1) := by decide +kernel
theorem dX14_all_77 : decode cX14_all 77 = .ok (.iinc 3 1, 3) := by decide +kernel
theorem dX14_all_80 : decode cX14_all 80 = .ok (.goto (-40), 3) := by decide +kernel
theorem dX14_all_83 : decode cX14_all 83 = .ok (.aload_n 0, 1) := by decide +kernel
theorem dX14_all_84 : decode cX14_all 84 = .ok (.invokevirtual 729, 3) := by decide +kernel
theorem dX14_all_87 : decode cX14_all 87 = .ok (.iconst 0, 1) := by decide +kernel
theorem dX14_all_88 : decode cX14_all 88 = .ok (.ireturn, 1) := by decide +kernel
theorem dX14_takeRow_0 : decode cX14_takeRow 0 = .ok (.aload_n 0, 1) := by decide +kernel
theorem dX14_takeRow_1 : decode cX14_takeRow 1 = .ok (.iconst 0, 1) := by decide +kernel
theorem dX14_takeRow_2 : decode cX14_takeRow 2 = .ok (.putfield 529, 3) := by decide +kernel
theorem dX14_takeRow_5 : decode cX14_takeRow 5 = .ok (.aload_n 0, 1) := by decide +kernel
theorem dX14_takeRow_6 : decode cX14_takeRow 6 = .ok (.iconst 0, 1) := by decide +kernel
theorem dX14_takeRow_7 : decode cX14_takeRow 7 = .ok (.putfield 532, 3) := by decide +kernel
theorem dX14_takeRow_10 : decode cX14_takeRow 10 = .ok (.iconst 0, 1) := by decide +kernel
theorem dX14_takeRow_11 : decode cX14_takeRow 11 = .ok (.istore_n 1, 1) := by decide +kernel
theorem dX14_takeRow_12 : decode cX14_takeRow 12 = .ok (.iload_n 1, 1) := by decide +kernel
theorem dX14_takeRow_13 : decode cX14_takeRow 13 = .ok (.aload_n 0, 1) := by decide +kernel
theorem dX14_takeRow_14 : decode cX14_takeRow 14 = .ok (.getfield 732, 3) := by decide +kernel
theorem dX14_takeRow_17 : decode cX14_takeRow 17 = .ok (.if_icmp .ge 78, 3) := by decide +kernel
theorem dX14_takeRow_20 : decode cX14_takeRow 20 = .ok (.aload_n 0, 1) := by decide +kernel
theorem dX14_takeRow_21 : decode cX14_takeRow 21 = .ok (.getfield 90, 3) := by decide +kernel
theorem dX14_takeRow_24 : decode cX14_takeRow 24 = .ok (.iload_n 1, 1) := by decide +kernel
theorem dX14_takeRow_25 : decode cX14_takeRow 25 = .ok (.iaload, 1) := by decide +kernel
theorem dX14_takeRow_26 : decode cX14_takeRow 26 = .ok (.iconst (-1), 1) := by decide +kernel
theorem dX14_takeRow_27 : decode cX14_takeRow 27 = .ok (.if_icmp .ne 18, 3) := by decide +kernel
theorem dX14_takeRow_30 : decode cX14_takeRow 30 = .ok (.aload_n 0, 1) := by decide +kernel
theorem dX14_takeRow_31 : decode cX14_takeRow 31 = .ok (.aload_n 0, 1) := by decide +kernel
theorem dX14_takeRow_32 : decode cX14_takeRow 32 = .ok (.getfield 93, 3) := by decide +kernel
theorem dX14_takeRow_35 : decode cX14_takeRow 35 = .ok (.iconst 3, 1) := by decide +kernel
theorem dX14_takeRow_36 : decode cX14_takeRow 36 = .ok (.iload_n 1, 1) := by decide +kernel
theorem dX14_takeRow_37 : decode cX14_takeRow 37 = .ok (.imul, 1) := by decide +kernel
theorem dX14_takeRow_38 : decode cX14_takeRow 38 = .ok (.iaload, 1) := by decide +kernel
theorem dX14_takeRow_39 : decode cX14_takeRow 39 = .ok (.invokevirtual 677, 3) := by decide +kernel
theorem dX14_takeRow_42 : decode cX14_takeRow 42 = .ok (.goto 47, 3) := by decide +kernel
theorem dX14_takeRow_45 : decode cX14_takeRow 45 = .ok (.aload_n 0, 1) := by decide +kernel
theorem dX14_takeRow_46 : decode cX14_takeRow 46 = .ok (.aload_n 0, 1) := by decide +kernel
theorem dX14_takeRow_47 : decode cX14_takeRow 47 = .ok (.getfield 87, 3) := by decide +kernel
theorem dX14_takeRow_50 : decode cX14_takeRow 50 = .ok (.iload_n 1, 1) := by decide +kernel
theorem dX14_takeRow_51 : decode cX14_takeRow 51 = .ok (.iaload, 1) := by decide +kernel
theorem dX14_takeRow_52 : decode cX14_takeRow 52 = .ok (.aload_n 0, 1) := by decide +kernel
theorem dX14_takeRow_53 : decode cX14_takeRow 53 = .ok (.getfield 90, 3) := by decide +kernel
theorem dX14_takeRow_56 : decode cX14_takeRow 56 = .ok (.iload_n 1, 1) := by decide +kernel
theorem dX14_takeRow_57 : decode cX14_takeRow 57 = .ok (.iaload, 1) := by decide +kernel
theorem dX14_takeRow_58 : decode cX14_takeRow 58 = .ok (.aload_n 0, 1) := by decide +kernel
theorem dX14_takeRow_59 : decode cX14_takeRow 59 = .ok (.getfield 93, 3) := by decide +kernel
theorem dX14_takeRow_62 : decode cX14_takeRow 62 = .ok (.iconst 3, 1) := by decide +kernel
theorem dX14_takeRow_63 : decode cX14_takeRow 63 = .ok (.iload_n 1, 1) := by decide +kernel
theorem dX14_takeRow_64 : decode cX14_takeRow 64 = .ok (.imul, 1) := by decide +kernel
theorem dX14_takeRow_65 : decode cX14_takeRow 65 = .ok (.iaload, 1) := by decide +kernel
theorem dX14_takeRow_66 : decode cX14_takeRow 66 = .ok (.aload_n 0, 1) := by decide +kernel
theorem dX14_takeRow_67 : decode cX14_takeRow 67 = .ok (.getfield 93, 3) := by decide +kernel
theorem dX14_takeRow_70 : decode cX14_takeRow 70 = .ok (.iconst 3, 1) := by decide +kernel
theorem dX14_takeRow_71 : decode cX14_takeRow 71 = .ok (.iload_n 1, 1) := by decide +kernel
theorem dX14_takeRow_72 : decode cX14_takeRow 72 = .ok (.imul, 1) := by decide +kernel
theorem dX14_takeRow_73 : decode cX14_takeRow 73 = .ok (.iconst 1, 1) := by decide +kernel
theorem dX14_takeRow_74 : decode cX14_takeRow 74 = .ok (.iadd, 1) := by decide +kernel
theorem dX14_takeRow_75 : decode cX14_takeRow 75 = .ok (.iaload, 1) := by decide +kernel
theorem dX14_takeRow_76 : decode cX14_takeRow 76 = .ok (.aload_n 0, 1) := by decide +kernel
theorem dX14_takeRow_77 : decode cX14_takeRow 77 = .ok (.getfield 93, 3) := by decide +kernel
theorem dX14_takeRow_80 : decode cX14_takeRow 80 = .ok (.iconst 3, 1) := by decide +kernel
theorem dX14_takeRow_81 : decode cX14_takeRow 81 = .ok (.iload_n 1, 1) := by decide +kernel
theorem dX14_takeRow_82 : decode cX14_takeRow 82 = .ok (.imul, 1) := by decide +kernel
theorem dX14_takeRow_83 : decode cX14_takeRow 83 = .ok (.iconst 2, 1) := by decide +kernel
theorem dX14_takeRow_84 : decode cX14_takeRow 84 = .ok (.iadd, 1) := by decide +kernel
theorem dX14_takeRow_85 : decode cX14_takeRow 85 = .ok (.iaload, 1) := by decide +kernel
theorem dX14_takeRow_86 : decode cX14_takeRow 86 = .ok (.invokevirtual 683, 3) := by decide +kernel
theorem dX14_takeRow_89 : decode cX14_takeRow 89 = .ok (.iinc 1 1, 3) := by decide +kernel
theorem dX14_takeRow_92 : decode cX14_takeRow 92 = .ok (.goto (-80), 3) := by decide +kernel
theorem dX14_takeRow_95 : decode cX14_takeRow 95 = .ok (.return_, 1) := by decide +kernel
theorem dX14_backToLast_0 : decode cX14_backToLast 0 = .ok (.aload_n 0, 1) := by decide +kernel
theorem dX14_backToLast_1 : decode cX14_backToLast 1 = .ok (.invokevirtual 738, 3) := by decide +kernel
theorem dX14_backToLast_4 : decode cX14_backToLast 4 = .ok (.aload_n 0, 1) := by decide +kernel
theorem dX14_backToLast_5 : decode cX14_backToLast 5 = .ok (.invokevirtual 687, 3) := by decide +kernel
theorem dX14_backToLast_8 : decode cX14_backToLast 8 = .ok (.istore_n 1, 1) := by decide +kernel
theorem dX14_backToLast_9 : decode cX14_backToLast 9 = .ok (.return_, 1) := by decide +kernel
theorem dX14_without_0 : decode cX14_without 0 = .ok (.aload_n 0, 1) := by decide +kernel
theorem dX14_without_1 : decode cX14_without 1 = .ok (.iconst 0, 1) := by decide +kernel
theorem dX14_without_2 : decode cX14_without 2 = .ok (.putfield 529, 3) := by decide +kernel
theorem dX14_without_5 : decode cX14_without 5 = .ok (.aload_n 0, 1) := by decide +kernel
theorem dX14_without_6 : decode cX14_without 6 = .ok (.iconst 0, 1) := by decide +kernel
theorem dX14_without_7 : decode cX14_without 7 = .ok (.putfield 532, 3) := by decide +kernel
theorem dX14_without_10 : decode cX14_without 10 = .ok (.aload_n 0, 1) := by decide +kernel
theorem dX14_without_11 : decode cX14_without 11 = .ok (.getfield 90, 3) := by decide +kernel
theorem dX14_without_14 : decode cX14_without 14 = .ok (.iload_n 1, 1) := by decide +kernel
theorem dX14_without_15 : decode cX14_without 15 = .ok (.iaload, 1) := by decide +kernel
theorem dX14_without_16 : decode cX14_without 16 = .ok (.iconst (-1), 1) := by decide +kernel
theorem dX14_without_17 : decode cX14_without 17 = .ok (.if_icmp .ne 12, 3) := by decide +kernel
theorem dX14_without_20 : decode cX14_without 20 = .ok (.aload_n 0, 1) := by decide +kernel
theorem dX14_without_21 : decode cX14_without 21 = .ok (.getfield 87, 3) := by decide +kernel
theorem dX14_without_24 : decode cX14_without 24 = .ok (.iload_n 1, 1) := by decide +kernel
theorem dX14_without_25 : decode cX14_without 25 = .ok (.iaload, 1) := by decide +kernel
theorem dX14_without_26 : decode cX14_without 26 = .ok (.goto 4, 3) := by decide +kernel
theorem dX14_without_29 : decode cX14_without 29 = .ok (.iconst (-1), 1) := by decide +kernel
theorem dX14_without_30 : decode cX14_without 30 = .ok (.istore_n 2, 1) := by decide +kernel
theorem dX14_without_31 : decode cX14_without 31 = .ok (.iconst 0, 1) := by decide +kernel
theorem dX14_without_32 : decode cX14_without 32 = .ok (.istore_n 3, 1) := by decide +kernel
theorem dX14_without_33 : decode cX14_without 33 = .ok (.iload_n 3, 1) := by decide +kernel
theorem dX14_without_34 : decode cX14_without 34 = .ok (.aload_n 0, 1) := by decide +kernel
theorem dX14_without_35 : decode cX14_without 35 = .ok (.getfield 732, 3) := by decide +kernel
theorem dX14_without_38 : decode cX14_without 38 = .ok (.if_icmp .ge 126, 3) := by decide +kernel
theorem dX14_without_41 : decode cX14_without 41 = .ok (.iload_n 3, 1) := by decide +kernel
theorem dX14_without_42 : decode cX14_without 42 = .ok (.iload_n 1, 1) := by decide +kernel
theorem dX14_without_43 : decode cX14_without 43 = .ok (.if_icmp .eq 115, 3) := by decide +kernel
theorem dX14_without_46 : decode cX14_without 46 = .ok (.iload_n 2, 1) := by decide +kernel
theorem dX14_without_47 : decode cX14_without 47 = .ok (.iconst (-1), 1) := by decide +kernel
theorem dX14_without_48 : decode cX14_without 48 = .ok (.if_icmp .eq 16, 3) := by decide +kernel
theorem dX14_without_51 : decode cX14_without 51 = .ok (.aload_n 0, 1) := by decide +kernel
theorem dX14_without_52 : decode cX14_without 52 = .ok (.getfield 87, 3) := by decide +kernel
theorem dX14_without_55 : decode cX14_without 55 = .ok (.iload_n 3, 1) := by decide +kernel
theorem dX14_without_56 : decode cX14_without 56 = .ok (.iaload, 1) := by decide +kernel
theorem dX14_without_57 : decode cX14_without 57 = .ok (.iload_n 2, 1) := by decide +kernel
theorem dX14_without_58 : decode cX14_without 58 = .ok (.if_icmp .ne 6, 3) := by decide +kernel
theorem dX14_without_61 : decode cX14_without 61 = .ok (.goto 97, 3) := by decide +kernel
theorem dX14_without_64 : decode cX14_without 64 = .ok (.aload_n 0, 1) := by decide +kernel
theorem dX14_without_65 : decode cX14_without 65 = .ok (.getfield 87, 3) := by decide +kernel
theorem dX14_without_68 : decode cX14_without 68 = .ok (.iload_n 3, 1) := by decide +kernel
theorem dX14_without_69 : decode cX14_without 69 = .ok (.iaload, 1) := by decide +kernel
theorem dX14_without_70 : decode cX14_without 70 = .ok (.iload_n 2, 1) := by decide +kernel
theorem dX14_without_71 : decode cX14_without 71 = .ok (.iconst (-1), 1) := by decide +kernel
theorem dX14_without_72 : decode cX14_without 72 = .ok (.if_icmp .eq 17, 3) := by decide +kernel
theorem dX14_without_75 : decode cX14_without 75 = .ok (.aload_n 0, 1) := by decide +kernel
theorem dX14_without_76 : decode cX14_without 76 = .ok (.getfield 87, 3) := by decide +kernel
theorem dX14_without_79 : decode cX14_without 79 = .ok (.iload_n 3, 1) := by decide +kernel
theorem dX14_without_80 : decode cX14_without 80 = .ok (.iaload, 1) := by decide +kernel
theorem dX14_without_81 : decode cX14_without 81 = .ok (.iload_n 2, 1) := by decide +kernel
theorem dX14_without_82 : decode cX14_without 82 = .ok (.if_icmp .le 7, 3) := by decide +kernel
theorem dX14_without_85 : decode cX14_without 85 = .ok (.iconst 1, 1) := by decide +kernel
theorem dX14_without_86 : decode cX14_without 86 = .ok (.goto 4, 3) := by decide +kernel
theorem dX14_without_89 : decode cX14_without 89 = .ok (.iconst 0, 1) := by decide +kernel
theorem dX14_without_90 : decode cX14_without 90 = .ok (.isub, 1) := by decide +kernel
theorem dX14_without_91 : decode cX14_without 91 = .ok (.istore 4, 2) := by decide +kernel
theorem dX14_without_93 : decode cX14_without 93 = .ok (.aload_n 0, 1) := by decide +kernel
theorem dX14_without_94 : decode cX14_without 94 = .ok (.getfield 90, 3) := by decide +kernel
theorem dX14_without_97 : decode cX14_without 97 = .ok (.iload_n 3, 1) := by decide +kernel
theorem dX14_without_98 : decode cX14_without 98 = .ok (.iaload, 1) := by decide +kernel
theorem dX14_without_99 : decode cX14_without 99 = .ok (.iconst (-1), 1) := by decide +kernel
theorem dX14_without_100 : decode cX14_without 100 = .ok (.if_icmp .ne 18, 3) := by decide +kernel
theorem dX14_without_103 : decode cX14_without 103 = .ok (.aload_n 0, 1) := by decide +kernel
theorem dX14_without_104 : decode cX14_without 104 = .ok (.aload_n 0, 1) := by decide +kernel
theorem dX14_without_105 : decode cX14_without 105 = .ok (.getfield 93, 3) := by decide +kernel
theorem dX14_without_108 : decode cX14_without 108 = .ok (.iconst 3, 1) := by decide +kernel
theorem dX14_without_109 : decode cX14_without 109 = .ok (.iload_n 3, 1) := by decide +kernel
theorem dX14_without_110 : decode cX14_without 110 = .ok (.imul, 1) := by decide +kernel
theorem dX14_without_111 : decode cX14_without 111 = .ok (.iaload, 1) := by decide +kernel
theorem dX14_without_112 : decode cX14_without 112 = .ok (.invokevirtual 677, 3) := by decide +kernel
theorem dX14_without_115 : decode cX14_without 115 = .ok (.goto 43, 3) := by decide +kernel
theorem dX14_without_118 : decode cX14_without 118 = .ok (.aload_n 0, 1) := by decide +kernel
theorem dX14_without_119 : decode cX14_without 119 = .ok (.iload 4, 2) := by decide +kernel
theorem dX14_without_121 : decode cX14_without 121 = .ok (.aload_n 0, 1) := by decide +kernel
theorem dX14_without_122 : decode cX14_without 122 = .ok (.getfield 90, 3) := by decide +kernel
theorem dX14_without_125 : decode cX14_without 125 = .ok (.iload_n 3, 1) := by decide +kernel
theorem dX14_without_126 : decode cX14_without 126 = .ok (.iaload, 1) := by decide +kernel
theorem dX14_without_127 : decode cX14_without 127 = .ok (.aload_n 0, 1) := by decide +kernel
theorem dX14_without_128 : decode cX14_without 128 = .ok (.getfield 93, 3) := by decide +kernel
theorem dX14_without_131 : decode cX14_without 131 = .ok (.iconst 3, 1) := by decide +kernel
theorem dX14_without_132 : decode cX14_without 132 = .ok (.iload_n 3, 1) := by decide +kernel
theorem dX14_without_133 : decode cX14_without 133 = .ok (.imul, 1) := by decide +kernel
theorem dX14_without_134 : decode cX14_without 134 = .ok (.iaload, 1) := by decide +kernel
theorem dX14_without_135 : decode cX14_without 135 = .ok (.aload_n 0, 1) := by decide +kernel
theorem dX14_without_136 : decode cX14_without 136 = .ok (.getfield 93, 3) := by decide +kernel
theorem dX14_without_139 : decode cX14_without 139 = .ok (.iconst 3, 1) := by decide +kernel
theorem dX14_without_140 : decode cX14_without 140 = .ok (.iload_n 3, 1) := by decide +kernel
theorem dX14_without_141 : decode cX14_without 141 = .ok (.imul, 1) := by decide +kernel
theorem dX14_without_142 : decode cX14_without 142 = .ok (.iconst 1, 1) := by decide +kernel
theorem dX14_without_143 : decode cX14_without 143 = .ok (.iadd, 1) := by decide +kernel
theorem dX14_without_144 : decode cX14_without 144 = .ok (.iaload, 1) := by decide +kernel
theorem dX14_without_145 : decode cX14_without 145 = .ok (.aload_n 0, 1) := by decide +kernel
theorem dX14_without_146 : decode cX14_without 146 = .ok (.getfield 93, 3) := by decide +kernel
theorem dX14_without_149 : decode cX14_without 149 = .ok (.iconst 3, 1) := by decide +kernel
theorem dX14_without_150 : decode cX14_without 150 = .ok (.iload_n 3, 1) := by decide +kernel
theorem dX14_without_151 : decode cX14_without 151 = .ok (.imul, 1) := by decide +kernel
theorem dX14_without_152 : decode cX14_without 152 = .ok (.iconst 2, 1) := by decide +kernel
theorem dX14_without_153 : decode cX14_without 153 = .ok (.iadd, 1) := by decide +kernel
theorem dX14_without_154 : decode cX14_without 154 = .ok (.iaload, 1) := by decide +kernel
theorem dX14_without_155 : decode cX14_without 155 = .ok (.invokevirtual 683, 3) := by decide +kernel
theorem dX14_without_158 : decode cX14_without 158 = .ok (.iinc 3 1, 3) := by decide +kernel
theorem dX14_without_161 : decode cX14_without 161 = .ok (.goto (-128), 3) := by decide +kernel
theorem dX14_without_164 : decode cX14_without 164 = .ok (.aload_n 0, 1) := by decide +kernel
theorem dX14_without_165 : decode cX14_without 165 = .ok (.getfield 529, 3) := by decide +kernel
theorem dX14_without_168 : decode cX14_without 168 = .ok (.ifCond .le 7, 3) := by decide +kernel
theorem dX14_without_171 : decode cX14_without 171 = .ok (.iconst 1, 1) := by decide +kernel
theorem dX14_without_172 : decode cX14_without 172 = .ok (.goto 4, 3) := by decide +kernel
theorem dX14_without_175 : decode cX14_without 175 = .ok (.iconst 0, 1) := by decide +kernel
theorem dX14_without_176 : decode cX14_without 176 = .ok (.ireturn, 1) := by decide +kernel
theorem dX14_breaksAlike_0 : decode cX14_breaksAlike 0 = .ok (.aload_n 0, 1) := by decide +kernel
theorem dX14_breaksAlike_1 : decode cX14_breaksAlike 1 = .ok (.invokevirtual 687, 3) := by decide +kernel
theorem dX14_breaksAlike_4 : decode cX14_breaksAlike 4 = .ok (.iload_n 1, 1) := by decide +kernel
theorem dX14_breaksAlike_5 : decode cX14_breaksAlike 5 = .ok (.if_icmp .ne 17, 3) := by decide +kernel
theorem dX14_breaksAlike_8 : decode cX14_breaksAlike 8 = .ok (.aload_n 0, 1) := by decide +kernel
theorem dX14_breaksAlike_9 : decode cX14_breaksAlike 9 = .ok (.getfield 81, 3) := by decide +kernel
theorem dX14_breaksAlike_12 : decode cX14_breaksAlike 12 = .ok (.iconst 2, 1) := by decide +kernel
theorem dX14_breaksAlike_13 : decode cX14_breaksAlike 13 = .ok (.iaload, 1) := by decide +kernel
theorem dX14_breaksAlike_14 : decode cX14_breaksAlike 14 = .ok (.iload_n 2, 1) := by decide +kernel
theorem dX14_breaksAlike_15 : decode cX14_breaksAlike 15 = .ok (.if_icmp .ne 7, 3) := by decide +kernel
theorem dX14_breaksAlike_18 : decode cX14_breaksAlike 18 = .ok (.iconst 1, 1) := by decide +kernel
theorem dX14_breaksAlike_19 : decode cX14_breaksAlike 19 = .ok (.goto 4, 3) := by decide +kernel
theorem dX14_breaksAlike_22 : decode cX14_breaksAlike 22 = .ok (.iconst 0, 1) := by decide +kernel
theorem dX14_breaksAlike_23 : decode cX14_breaksAlike 23 = .ok (.ireturn, 1) := by decide +kernel
theorem dX14_isLess_0 : decode cX14_isLess 0 = .ok (.aload_n 0, 1) := by decide +kernel
theorem dX14_isLess_1 : decode cX14_isLess 1 = .ok (.invokevirtual 714, 3) := by decide +kernel
theorem dX14_isLess_4 : decode cX14_isLess 4 = .ok (.iconst 0, 1) := by decide +kernel
theorem dX14_isLess_5 : decode cX14_isLess 5 = .ok (.istore_n 3, 1) := by decide +kernel
theorem dX14_isLess_6 : decode cX14_isLess 6 = .ok (.iload_n 3, 1) := by decide +kernel
theorem dX14_isLess_7 : decode cX14_isLess 7 = .ok (.aload_n 0, 1) := by decide +kernel
theorem dX14_isLess_8 : decode cX14_isLess 8 = .ok (.getfield 732, 3) := by decide +kernel
theorem dX14_isLess_11 : decode cX14_isLess 11 = .ok (.if_icmp .ge 28, 3) := by decide +kernel
theorem dX14_isLess_14 : decode cX14_isLess 14 = .ok (.aload_n 0, 1) := by decide +kernel
theorem dX14_isLess_15 : decode cX14_isLess 15 = .ok (.iload_n 3, 1) := by decide +kernel
theorem dX14_isLess_16 : decode cX14_isLess 16 = .ok (.invokevirtual 741, 3) := by decide +kernel
theorem dX14_isLess_19 : decode cX14_isLess 19 = .ok (.ifCond .eq 14, 3) := by decide +kernel
theorem dX14_isLess_22 : decode cX14_isLess 22 = .ok (.aload_n 0, 1) := by decide +kernel
theorem dX14_isLess_23 : decode cX14_isLess 23 = .ok (.iload_n 1, 1) := by decide +kernel
theorem dX14_isLess_24 : decode cX14_isLess 24 = .ok (.iload_n 2, 1) := by decide +kernel
theorem dX14_isLess_25 : decode cX14_isLess 25 = .ok (.invokevirtual 744, 3) := by decide +kernel
theorem dX14_isLess_28 : decode cX14_isLess 28 = .ok (.ifCond .eq 5, 3) := by decide +kernel
theorem dX14_isLess_31 : decode cX14_isLess 31 = .ok (.iconst 1, 1) := by decide +kernel
theorem dX14_isLess_32 : decode cX14_isLess 32 = .ok (.ireturn, 1) := by decide +kernel
theorem dX14_isLess_33 : decode cX14_isLess 33 = .ok (.iinc 3 1, 3) := by decide +kernel
theorem dX14_isLess_36 : decode cX14_isLess 36 = .ok (.goto (-30), 3) := by decide +kernel
theorem dX14_isLess_39 : decode cX14_isLess 39 = .ok (.aload_n 0, 1) := by decide +kernel
theorem dX14_isLess_40 : decode cX14_isLess 40 = .ok (.invokevirtual 738, 3) := by decide +kernel
theorem dX14_isLess_43 : decode cX14_isLess 43 = .ok (.iconst 0, 1) := by decide +kernel
theorem dX14_isLess_44 : decode cX14_isLess 44 = .ok (.istore_n 3, 1) := by decide +kernel
theorem dX14_isLess_45 : decode cX14_isLess 45 = .ok (.iload_n 3, 1) := by decide +kernel
theorem dX14_isLess_46 : decode cX14_isLess 46 = .ok (.aload_n 0, 1) := by decide +kernel
theorem dX14_isLess_47 : decode cX14_isLess 47 = .ok (.getfield 732, 3) := by decide +kernel
theorem dX14_isLess_50 : decode cX14_isLess 50 = .ok (.if_icmp .ge 250, 3) := by decide +kernel
theorem dX14_isLess_53 : decode cX14_isLess 53 = .ok (.aload_n 0, 1) := by decide +kernel
theorem dX14_isLess_54 : decode cX14_isLess 54 = .ok (.getfield 90, 3) := by decide +kernel
theorem dX14_isLess_57 : decode cX14_isLess 57 = .ok (.iload_n 3, 1) := by decide +kernel
theorem dX14_isLess_58 : decode cX14_isLess 58 = .ok (.iaload, 1) := by decide +kernel
theorem dX14_isLess_59 : decode cX14_isLess 59 = .ok (.iconst (-1), 1) := by decide +kernel
theorem dX14_isLess_60 : decode cX14_isLess 60 = .ok (.if_icmp .ne 6, 3) := by decide +kernel
theorem dX14_isLess_63 : decode cX14_isLess 63 = .ok (.goto 231, 3) := by decide +kernel
theorem dX14_isLess_66 : decode cX14_isLess 66 = .ok (.aload_n 0, 1) := by decide +kernel
theorem dX14_isLess_67 : decode cX14_isLess 67 = .ok (.getfield 19, 3) := by decide +kernel
theorem dX14_isLess_70 : decode cX14_isLess 70 = .ok (.getfield 477, 3) := by decide +kernel
theorem dX14_isLess_73 : decode cX14_isLess 73 = .ok (.bipush 12, 2) := by decide +kernel
theorem dX14_isLess_75 : decode cX14_isLess 75 = .ok (.aload_n 0, 1) := by decide +kernel
theorem dX14_isLess_76 : decode cX14_isLess 76 = .ok (.getfield 78, 3) := by decide +kernel
theorem dX14_isLess_79 : decode cX14_isLess 79 = .ok (.aload_n 0, 1) := by decide +kernel
theorem dX14_isLess_80 : decode cX14_isLess 80 = .ok (.getfield 87, 3) := by decide +kernel
theorem dX14_isLess_83 : decode cX14_isLess 83 = .ok (.iload_n 3, 1) := by decide +kernel
theorem dX14_isLess_84 : decode cX14_isLess 84 = .ok (.iaload, 1) := by decide +kernel
theorem dX14_isLess_85 : decode cX14_isLess 85 = .ok (.iaload, 1) := by decide +kernel
theorem dX14_isLess_86 : decode cX14_isLess 86 = .ok (.imul, 1) := by decide +kernel
theorem dX14_isLess_87 : decode cX14_isLess 87 = .ok (.aload_n 0, 1) := by decide +kernel
theorem dX14_isLess_88 : decode cX14_isLess 88 = .ok (.getfield 90, 3) := by decide +kernel
theorem dX14_isLess_91 : decode cX14_isLess 91 = .ok (.iload_n 3, 1) := by decide +kernel
theorem dX14_isLess_92 : decode cX14_isLess 92 = .ok (.iaload, 1) := by decide +kernel
theorem dX14_isLess_93 : decode cX14_isLess 93 = .ok (.iadd, 1) := by decide +kernel
theorem dX14_isLess_94 : decode cX14_isLess 94 = .ok (.iaload, 1) := by decide +kernel
theorem dX14_isLess_95 : decode cX14_isLess 95 = .ok (.istore 4, 2) := by decide +kernel
theorem dX14_isLess_97 : decode cX14_isLess 97 = .ok (.iconst 0, 1) := by decide +kernel
theorem dX14_isLess_98 : decode cX14_isLess 98 = .ok (.istore 5, 2) := by decide +kernel
theorem dX14_isLess_100 : decode cX14_isLess 100 = .ok (.iload 5, 2) := by decide +kernel
theorem dX14_isLess_102 : decode cX14_isLess 102 = .ok (.aload_n 0, 1) := by decide +kernel
theorem dX14_isLess_103 : decode cX14_isLess 103 = .ok (.getfield 19, 3) := by decide +kernel
theorem dX14_isLess_106 : decode cX14_isLess 106 = .ok (.getfield 324, 3) := by decide +kernel
theorem dX14_isLess_109 : decode cX14_isLess 109 = .ok (.iload 4, 2) := by decide +kernel
theorem dX14_isLess_111 : decode cX14_isLess 111 = .ok (.iaload, 1) := by decide +kernel
theorem dX14_isLess_112 : decode cX14_isLess 112 = .ok (.if_icmp .ge 182, 3) := by decide +kernel
theorem dX14_isLess_115 : decode cX14_isLess 115 = .ok (.aload_n 0, 1) := by decide +kernel
theorem dX14_isLess_116 : decode cX14_isLess 116 = .ok (.getfield 93, 3) := by decide +kernel
theorem dX14_isLess_119 : decode cX14_isLess 119 = .ok (.iconst 3, 1) := by decide +kernel
theorem dX14_isLess_120 : decode cX14_isLess 120 = .ok (.iload_n 3, 1) := by decide +kernel
theorem dX14_isLess_121 : decode cX14_isLess 121 = .ok (.imul, 1) := by decide +kernel
theorem dX14_isLess_122 : decode cX14_isLess 122 = .ok (.iload 5, 2) := by decide +kernel
theorem dX14_isLess_124 : decode cX14_isLess 124 = .ok (.iadd, 1) := by decide +kernel
theorem dX14_isLess_125 : decode cX14_isLess 125 = .ok (.iaload, 1) := by decide +kernel
theorem dX14_isLess_126 : decode cX14_isLess 126 = .ok (.istore 6, 2) := by decide +kernel
theorem dX14_isLess_128 : decode cX14_isLess 128 = .ok (.lconst 0, 1) := by decide +kernel
theorem dX14_isLess_129 : decode cX14_isLess 129 = .ok (.aload_n 0, 1) := by decide +kernel
theorem dX14_isLess_130 : decode cX14_isLess 130 = .ok (.getfield 19, 3) := by decide +kernel
theorem dX14_isLess_133 : decode cX14_isLess 133 = .ok (.getfield 490, 3) := by decide +kernel
theorem dX14_isLess_136 : decode cX14_isLess 136 = .ok (.iconst 3, 1) := by decide +kernel
theorem dX14_isLess_137 : decode cX14_isLess 137 = .ok (.iload 4, 2) := by decide +kernel
theorem dX14_isLess_139 : decode cX14_isLess 139 = .ok (.imul, 1) := by decide +kernel
theorem dX14_isLess_140 : decode cX14_isLess 140 = .ok (.iload 5, 2) := by decide +kernel
theorem dX14_isLess_142 : decode cX14_isLess 142 = .ok (.iadd, 1) := by decide +kernel
theorem dX14_isLess_143 : decode cX14_isLess 143 = .ok (.iaload, 1) := by decide +kernel
theorem dX14_isLess_144 : decode cX14_isLess 144 = .ok (.i2l, 1) := by decide +kernel
theorem dX14_isLess_145 : decode cX14_isLess 145 = .ok (.aload_n 0, 1) := by decide +kernel
theorem dX14_isLess_146 : decode cX14_isLess 146 = .ok (.getfield 19, 3) := by decide +kernel
theorem dX14_isLess_149 : decode cX14_isLess 149 = .ok (.getfield 493, 3) := by decide +kernel
theorem dX14_isLess_152 : decode cX14_isLess 152 = .ok (.iconst 3, 1) := by decide +kernel
theorem dX14_isLess_153 : decode cX14_isLess 153 = .ok (.iload 4, 2) := by decide +kernel
theorem dX14_isLess_155 : decode cX14_isLess 155 = .ok (.imul, 1) := by decide +kernel
theorem dX14_isLess_156 : decode cX14_isLess 156 = .ok (.iload 5, 2) := by decide +kernel
theorem dX14_isLess_158 : decode cX14_isLess 158 = .ok (.iadd, 1) := by decide +kernel
theorem dX14_isLess_159 : decode cX14_isLess 159 = .ok (.iaload, 1) := by decide +kernel
theorem dX14_isLess_160 : decode cX14_isLess 160 = .ok (.i2l, 1) := by decide +kernel
theorem dX14_isLess_161 : decode cX14_isLess 161 = .ok (.invokestatic 395, 3) := by decide +kernel
theorem dX14_isLess_164 : decode cX14_isLess 164 = .ok (.ifCond .eq 7, 3) := by decide +kernel
theorem dX14_isLess_167 : decode cX14_isLess 167 = .ok (.iconst 0, 1) := by decide +kernel
theorem dX14_isLess_168 : decode cX14_isLess 168 = .ok (.goto 18, 3) := by decide +kernel
theorem dX14_isLess_171 : decode cX14_isLess 171 = .ok (.aload_n 0, 1) := by decide +kernel
theorem dX14_isLess_172 : decode cX14_isLess 172 = .ok (.getfield 19, 3) := by decide +kernel
theorem dX14_isLess_175 : decode cX14_isLess 175 = .ok (.getfield 490, 3) := by decide +kernel
theorem dX14_isLess_178 : decode cX14_isLess 178 = .ok (.iconst 3, 1) := by decide +kernel
theorem dX14_isLess_179 : decode cX14_isLess 179 = .ok (.iload 4, 2) := by decide +kernel
theorem dX14_isLess_181 : decode cX14_isLess 181 = .ok (.imul, 1) := by decide +kernel
theorem dX14_isLess_182 : decode cX14_isLess 182 = .ok (.iload 5, 2) := by decide +kernel
theorem dX14_isLess_184 : decode cX14_isLess 184 = .ok (.iadd, 1) := by decide +kernel
theorem dX14_isLess_185 : decode cX14_isLess 185 = .ok (.iaload, 1) := by decide +kernel
theorem dX14_isLess_186 : decode cX14_isLess 186 = .ok (.istore 7, 2) := by decide +kernel
theorem dX14_isLess_188 : decode cX14_isLess 188 = .ok (.iload 7, 2) := by decide +kernel
theorem dX14_isLess_190 : decode cX14_isLess 190 = .ok (.i2l, 1) := by decide +kernel
theorem dX14_isLess_191 : decode cX14_isLess 191 = .ok (.iload 6, 2) := by decide +kernel
theorem dX14_isLess_193 : decode cX14_isLess 193 = .ok (.i2l, 1) := by decide +kernel
theorem dX14_isLess_194 : decode cX14_isLess 194 = .ok (.iload 7, 2) := by decide +kernel
theorem dX14_isLess_196 : decode cX14_isLess 196 = .ok (.i2l, 1) := by decide +kernel
theorem dX14_isLess_197 : decode cX14_isLess 197 = .ok (.lsub, 1) := by decide +kernel
theorem dX14_isLess_198 : decode cX14_isLess 198 = .ok (.ldc2_w 747, 3) := by decide +kernel
theorem dX14_isLess_201 : decode cX14_isLess 201 = .ok (.ldiv, 1) := by decide +kernel
theorem dX14_isLess_202 : decode cX14_isLess 202 = .ok (.ladd, 1) := by decide +kernel
theorem dX14_isLess_203 : decode cX14_isLess 203 = .ok (.l2i, 1) := by decide +kernel
theorem dX14_isLess_204 : decode cX14_isLess 204 = .ok (.istore 8, 2) := by decide +kernel
theorem dX14_isLess_206 : decode cX14_isLess 206 = .ok (.aload_n 0, 1) := by decide +kernel
theorem dX14_isLess_207 : decode cX14_isLess 207 = .ok (.getfield 69, 3) := by decide +kernel
theorem dX14_isLess_210 : decode cX14_isLess 210 = .ok (.iconst 3, 1) := by decide +kernel
theorem dX14_isLess_211 : decode cX14_isLess 211 = .ok (.iload_n 3, 1) := by decide +kernel
theorem dX14_isLess_212 : decode cX14_isLess 212 = .ok (.imul, 1) := by decide +kernel
theorem dX14_isLess_213 : decode cX14_isLess 213 = .ok (.iload 5, 2) := by decide +kernel
theorem dX14_isLess_215 : decode cX14_isLess 215 = .ok (.iadd, 1) := by decide +kernel
theorem dX14_isLess_216 : decode cX14_isLess 216 = .ok (.iload 7, 2) := by decide +kernel
theorem dX14_isLess_218 : decode cX14_isLess 218 = .ok (.iastore, 1) := by decide +kernel
theorem dX14_isLess_219 : decode cX14_isLess 219 = .ok (.iload 7, 2) := by decide +kernel
theorem dX14_isLess_221 : decode cX14_isLess 221 = .ok (.iload 6, 2) := by decide +kernel
theorem dX14_isLess_223 : decode cX14_isLess 223 = .ok (.if_icmp .eq 14, 3) := by decide +kernel
theorem dX14_isLess_226 : decode cX14_isLess 226 = .ok (.aload_n 0, 1) := by decide +kernel
theorem dX14_isLess_227 : decode cX14_isLess 227 = .ok (.iload_n 1, 1) := by decide +kernel
theorem dX14_isLess_228 : decode cX14_isLess 228 = .ok (.iload_n 2, 1) := by decide +kernel
theorem dX14_isLess_229 : decode cX14_isLess 229 = .ok (.invokevirtual 744, 3) := by decide +kernel
theorem dX14_isLess_232 : decode cX14_isLess 232 = .ok (.ifCond .eq 5, 3) := by decide +kernel
theorem dX14_isLess_235 : decode cX14_isLess 235 = .ok (.iconst 1, 1) := by decide +kernel
theorem dX14_isLess_236 : decode cX14_isLess 236 = .ok (.ireturn, 1) := by decide +kernel
theorem dX14_isLess_237 : decode cX14_isLess 237 = .ok (.aload_n 0, 1) := by decide +kernel
theorem dX14_isLess_238 : decode cX14_isLess 238 = .ok (.getfield 69, 3) := by decide +kernel
theorem dX14_isLess_241 : decode cX14_isLess 241 = .ok (.iconst 3, 1) := by decide +kernel
theorem dX14_isLess_242 : decode cX14_isLess 242 = .ok (.iload_n 3, 1) := by decide +kernel
theorem dX14_isLess_243 : decode cX14_isLess 243 = .ok (.imul, 1) := by decide +kernel
theorem dX14_isLess_244 : decode cX14_isLess 244 = .ok (.iload 5, 2) := by decide +kernel
theorem dX14_isLess_246 : decode cX14_isLess 246 = .ok (.iadd, 1) := by decide +kernel
theorem dX14_isLess_247 : decode cX14_isLess 247 = .ok (.iload 8, 2) := by decide +kernel
theorem dX14_isLess_249 : decode cX14_isLess 249 = .ok (.iastore, 1) := by decide +kernel
theorem dX14_isLess_250 : decode cX14_isLess 250 = .ok (.iload 8, 2) := by decide +kernel
theorem dX14_isLess_252 : decode cX14_isLess 252 = .ok (.iload 6, 2) := by decide +kernel
theorem dX14_isLess_254 : decode cX14_isLess 254 = .ok (.if_icmp .eq 21, 3) := by decide +kernel
theorem dX14_isLess_257 : decode cX14_isLess 257 = .ok (.iload 8, 2) := by decide +kernel
theorem dX14_isLess_259 : decode cX14_isLess 259 = .ok (.iload 7, 2) := by decide +kernel
theorem dX14_isLess_261 : decode cX14_isLess 261 = .ok (.if_icmp .eq 14, 3) := by decide +kernel
theorem dX14_isLess_264 : decode cX14_isLess 264 = .ok (.aload_n 0, 1) := by decide +kernel
theorem dX14_isLess_265 : decode cX14_isLess 265 = .ok (.iload_n 1, 1) := by decide +kernel
theorem dX14_isLess_266 : decode cX14_isLess 266 = .ok (.iload_n 2, 1) := by decide +kernel
theorem dX14_isLess_267 : decode cX14_isLess 267 = .ok (.invokevirtual 744, 3) := by decide +kernel
theorem dX14_isLess_270 : decode cX14_isLess 270 = .ok (.ifCond .eq 5, 3) := by decide +kernel
theorem dX14_isLess_273 : decode cX14_isLess 273 = .ok (.iconst 1, 1) := by decide +kernel
theorem dX14_isLess_274 : decode cX14_isLess 274 = .ok (.ireturn, 1) := by decide +kernel
theorem dX14_isLess_275 : decode cX14_isLess 275 = .ok (.aload_n 0, 1) := by decide +kernel
theorem dX14_isLess_276 : decode cX14_isLess 276 = .ok (.getfield 69, 3) := by decide +kernel
theorem dX14_isLess_279 : decode cX14_isLess 279 = .ok (.iconst 3, 1) := by decide +kernel
theorem dX14_isLess_280 : decode cX14_isLess 280 = .ok (.iload_n 3, 1) := by decide +kernel
theorem dX14_isLess_281 : decode cX14_isLess 281 = .ok (.imul, 1) := by decide +kernel
theorem dX14_isLess_282 : decode cX14_isLess 282 = .ok (.iload 5, 2) := by decide +kernel
theorem dX14_isLess_284 : decode cX14_isLess 284 = .ok (.iadd, 1) := by decide +kernel
theorem dX14_isLess_285 : decode cX14_isLess 285 = .ok (.iload 6, 2) := by decide +kernel
theorem dX14_isLess_287 : decode cX14_isLess 287 = .ok (.iastore, 1) := by decide +kernel
theorem dX14_isLess_288 : decode cX14_isLess 288 = .ok (.iinc 5 1, 3) := by decide +kernel
theorem dX14_isLess_291 : decode cX14_isLess 291 = .ok (.goto (-191), 3) := by decide +kernel
theorem dX14_isLess_294 : decode cX14_isLess 294 = .ok (.iinc 3 1, 3) := by decide +kernel
theorem dX14_isLess_297 : decode cX14_isLess 297 = .ok (.goto (-252), 3) := by decide +kernel
theorem dX14_isLess_300 : decode cX14_isLess 300 = .ok (.iconst 0, 1) := by decide +kernel
theorem dX14_isLess_301 : decode cX14_isLess 301 = .ok (.ireturn, 1) := by decide +kernel
theorem dX14_shrink_0 : decode cX14_shrink 0 = .ok (.aload_n 0, 1) := by decide +kernel
theorem dX14_shrink_1 : decode cX14_shrink 1 = .ok (.getfield 618, 3) := by decide +kernel
theorem dX14_shrink_4 : decode cX14_shrink 4 = .ok (.ifCond .le 10, 3) := by decide +kernel
theorem dX14_shrink_7 : decode cX14_shrink 7 = .ok (.aload_n 0, 1) := by decide +kernel
theorem dX14_shrink_8 : decode cX14_shrink 8 = .ok (.getfield 668, 3) := by decide +kernel
theorem dX14_shrink_11 : decode cX14_shrink 11 = .ok (.ifCond .eq 6, 3) := by decide +kernel
theorem dX14_shrink_14 : decode cX14_shrink 14 = .ok (.bipush (-2), 2) := by decide +kernel
theorem dX14_shrink_16 : decode cX14_shrink 16 = .ok (.ireturn, 1) := by decide +kernel
theorem dX14_shrink_17 : decode cX14_shrink 17 = .ok (.aload_n 0, 1) := by decide +kernel
theorem dX14_shrink_18 : decode cX14_shrink 18 = .ok (.getfield 618, 3) := by decide +kernel
theorem dX14_shrink_21 : decode cX14_shrink 21 = .ok (.istore_n 1, 1) := by decide +kernel
theorem dX14_shrink_22 : decode cX14_shrink 22 = .ok (.aload_n 0, 1) := by decide +kernel
theorem dX14_shrink_23 : decode cX14_shrink 23 = .ok (.getfield 81, 3) := by decide +kernel
theorem dX14_shrink_26 : decode cX14_shrink 26 = .ok (.iconst 2, 1) := by decide +kernel
theorem dX14_shrink_27 : decode cX14_shrink 27 = .ok (.iaload, 1) := by decide +kernel
theorem dX14_shrink_28 : decode cX14_shrink 28 = .ok (.istore_n 2, 1) := by decide +kernel
theorem dX14_shrink_29 : decode cX14_shrink 29 = .ok (.iconst 0, 1) := by decide +kernel
theorem dX14_shrink_30 : decode cX14_shrink 30 = .ok (.istore_n 3, 1) := by decide +kernel
theorem dX14_shrink_31 : decode cX14_shrink 31 = .ok (.aload_n 0, 1) := by decide +kernel
theorem dX14_shrink_32 : decode cX14_shrink 32 = .ok (.iload_n 1, 1) := by decide +kernel
theorem dX14_shrink_33 : decode cX14_shrink 33 = .ok (.iload_n 2, 1) := by decide +kernel
theorem dX14_shrink_34 : decode cX14_shrink 34 = .ok (.invokevirtual 749, 3) := by decide +kernel
theorem dX14_shrink_37 : decode cX14_shrink 37 = .ok (.ifCond .eq 9, 3) := by decide +kernel
theorem dX14_shrink_40 : decode cX14_shrink 40 = .ok (.iinc 3 1, 3) := by decide +kernel
theorem dX14_shrink_43 : decode cX14_shrink 43 = .ok (.goto (-12), 3) := by decide +kernel
theorem dX14_shrink_46 : decode cX14_shrink 46 = .ok (.aload_n 0, 1) := by decide +kernel
theorem dX14_shrink_47 : decode cX14_shrink 47 = .ok (.invokevirtual 738, 3) := by decide +kernel
theorem dX14_shrink_50 : decode cX14_shrink 50 = .ok (.aload_n 0, 1) := by decide +kernel
theorem dX14_shrink_51 : decode cX14_shrink 51 = .ok (.invokevirtual 687, 3) := by decide +kernel
theorem dX14_shrink_54 : decode cX14_shrink 54 = .ok (.istore 4, 2) := by decide +kernel
theorem dX14_shrink_56 : decode cX14_shrink 56 = .ok (.iload_n 3, 1) := by decide +kernel
theorem dX14_shrink_57 : decode cX14_shrink 57 = .ok (.ireturn, 1) := by decide +kernel
