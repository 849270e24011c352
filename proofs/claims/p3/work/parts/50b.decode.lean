theorem dX14_statement_0 : decode cX14_statement 0 = .ok (.aload_n 0, 1) := by decide +kernel
theorem dX14_statement_1 : decode cX14_statement 1 = .ok (.getfield 23, 3) := by decide +kernel
theorem dX14_statement_4 : decode cX14_statement 4 = .ok (.getfield 330, 3) := by decide +kernel
theorem dX14_statement_7 : decode cX14_statement 7 = .ok (.istore_n 2, 1) := by decide +kernel
theorem dX14_statement_8 : decode cX14_statement 8 = .ok (.aload_n 0, 1) := by decide +kernel
theorem dX14_statement_9 : decode cX14_statement 9 = .ok (.getfield 23, 3) := by decide +kernel
theorem dX14_statement_12 : decode cX14_statement 12 = .ok (.getfield 333, 3) := by decide +kernel
theorem dX14_statement_15 : decode cX14_statement 15 = .ok (.iload_n 2, 1) := by decide +kernel
theorem dX14_statement_16 : decode cX14_statement 16 = .ok (.iload_n 1, 1) := by decide +kernel
theorem dX14_statement_17 : decode cX14_statement 17 = .ok (.iastore, 1) := by decide +kernel
theorem dX14_statement_18 : decode cX14_statement 18 = .ok (.aload_n 0, 1) := by decide +kernel
theorem dX14_statement_19 : decode cX14_statement 19 = .ok (.getfield 23, 3) := by decide +kernel
theorem dX14_statement_22 : decode cX14_statement 22 = .ok (.getfield 336, 3) := by decide +kernel
theorem dX14_statement_25 : decode cX14_statement 25 = .ok (.iload_n 2, 1) := by decide +kernel
theorem dX14_statement_26 : decode cX14_statement 26 = .ok (.iconst (-1), 1) := by decide +kernel
theorem dX14_statement_27 : decode cX14_statement 27 = .ok (.iastore, 1) := by decide +kernel
theorem dX14_statement_28 : decode cX14_statement 28 = .ok (.aload_n 0, 1) := by decide +kernel
theorem dX14_statement_29 : decode cX14_statement 29 = .ok (.getfield 23, 3) := by decide +kernel
theorem dX14_statement_32 : decode cX14_statement 32 = .ok (.getfield 339, 3) := by decide +kernel
theorem dX14_statement_35 : decode cX14_statement 35 = .ok (.iload_n 2, 1) := by decide +kernel
theorem dX14_statement_36 : decode cX14_statement 36 = .ok (.iconst (-1), 1) := by decide +kernel
theorem dX14_statement_37 : decode cX14_statement 37 = .ok (.iastore, 1) := by decide +kernel
theorem dX14_statement_38 : decode cX14_statement 38 = .ok (.aload_n 0, 1) := by decide +kernel
theorem dX14_statement_39 : decode cX14_statement 39 = .ok (.getfield 23, 3) := by decide +kernel
theorem dX14_statement_42 : decode cX14_statement 42 = .ok (.getfield 342, 3) := by decide +kernel
theorem dX14_statement_45 : decode cX14_statement 45 = .ok (.iload_n 2, 1) := by decide +kernel
theorem dX14_statement_46 : decode cX14_statement 46 = .ok (.iconst (-1), 1) := by decide +kernel
theorem dX14_statement_47 : decode cX14_statement 47 = .ok (.iastore, 1) := by decide +kernel
theorem dX14_statement_48 : decode cX14_statement 48 = .ok (.aload_n 0, 1) := by decide +kernel
theorem dX14_statement_49 : decode cX14_statement 49 = .ok (.getfield 23, 3) := by decide +kernel
theorem dX14_statement_52 : decode cX14_statement 52 = .ok (.getfield 345, 3) := by decide +kernel
theorem dX14_statement_55 : decode cX14_statement 55 = .ok (.iload_n 2, 1) := by decide +kernel
theorem dX14_statement_56 : decode cX14_statement 56 = .ok (.iconst (-1), 1) := by decide +kernel
theorem dX14_statement_57 : decode cX14_statement 57 = .ok (.iastore, 1) := by decide +kernel
theorem dX14_statement_58 : decode cX14_statement 58 = .ok (.aload_n 0, 1) := by decide +kernel
theorem dX14_statement_59 : decode cX14_statement 59 = .ok (.getfield 23, 3) := by decide +kernel
theorem dX14_statement_62 : decode cX14_statement 62 = .ok (.getfield 348, 3) := by decide +kernel
theorem dX14_statement_65 : decode cX14_statement 65 = .ok (.iload_n 2, 1) := by decide +kernel
theorem dX14_statement_66 : decode cX14_statement 66 = .ok (.iconst (-1), 1) := by decide +kernel
theorem dX14_statement_67 : decode cX14_statement 67 = .ok (.iastore, 1) := by decide +kernel
theorem dX14_statement_68 : decode cX14_statement 68 = .ok (.aload_n 0, 1) := by decide +kernel
theorem dX14_statement_69 : decode cX14_statement 69 = .ok (.getfield 23, 3) := by decide +kernel
theorem dX14_statement_72 : decode cX14_statement 72 = .ok (.getfield 351, 3) := by decide +kernel
theorem dX14_statement_75 : decode cX14_statement 75 = .ok (.iload_n 2, 1) := by decide +kernel
theorem dX14_statement_76 : decode cX14_statement 76 = .ok (.iconst (-1), 1) := by decide +kernel
theorem dX14_statement_77 : decode cX14_statement 77 = .ok (.iastore, 1) := by decide +kernel
theorem dX14_statement_78 : decode cX14_statement 78 = .ok (.aload_n 0, 1) := by decide +kernel
theorem dX14_statement_79 : decode cX14_statement 79 = .ok (.getfield 23, 3) := by decide +kernel
theorem dX14_statement_82 : decode cX14_statement 82 = .ok (.getfield 354, 3) := by decide +kernel
theorem dX14_statement_85 : decode cX14_statement 85 = .ok (.iload_n 2, 1) := by decide +kernel
theorem dX14_statement_86 : decode cX14_statement 86 = .ok (.iconst (-1), 1) := by decide +kernel
theorem dX14_statement_87 : decode cX14_statement 87 = .ok (.iastore, 1) := by decide +kernel
theorem dX14_statement_88 : decode cX14_statement 88 = .ok (.aload_n 0, 1) := by decide +kernel
theorem dX14_statement_89 : decode cX14_statement 89 = .ok (.getfield 23, 3) := by decide +kernel
theorem dX14_statement_92 : decode cX14_statement 92 = .ok (.getfield 357, 3) := by decide +kernel
theorem dX14_statement_95 : decode cX14_statement 95 = .ok (.iload_n 2, 1) := by decide +kernel
theorem dX14_statement_96 : decode cX14_statement 96 = .ok (.aload_n 0, 1) := by decide +kernel
theorem dX14_statement_97 : decode cX14_statement 97 = .ok (.getfield 317, 3) := by decide +kernel
theorem dX14_statement_100 : decode cX14_statement 100 = .ok (.iastore, 1) := by decide +kernel
theorem dX14_statement_101 : decode cX14_statement 101 = .ok (.aload_n 0, 1) := by decide +kernel
theorem dX14_statement_102 : decode cX14_statement 102 = .ok (.getfield 23, 3) := by decide +kernel
theorem dX14_statement_105 : decode cX14_statement 105 = .ok (.getfield 360, 3) := by decide +kernel
theorem dX14_statement_108 : decode cX14_statement 108 = .ok (.iload_n 2, 1) := by decide +kernel
theorem dX14_statement_109 : decode cX14_statement 109 = .ok (.iconst 0, 1) := by decide +kernel
theorem dX14_statement_110 : decode cX14_statement 110 = .ok (.bastore, 1) := by decide +kernel
theorem dX14_statement_111 : decode cX14_statement 111 = .ok (.aload_n 0, 1) := by decide +kernel
theorem dX14_statement_112 : decode cX14_statement 112 = .ok (.getfield 23, 3) := by decide +kernel
theorem dX14_statement_115 : decode cX14_statement 115 = .ok (.dup, 1) := by decide +kernel
theorem dX14_statement_116 : decode cX14_statement 116 = .ok (.getfield 330, 3) := by decide +kernel
theorem dX14_statement_119 : decode cX14_statement 119 = .ok (.iconst 1, 1) := by decide +kernel
theorem dX14_statement_120 : decode cX14_statement 120 = .ok (.iadd, 1) := by decide +kernel
theorem dX14_statement_121 : decode cX14_statement 121 = .ok (.putfield 330, 3) := by decide +kernel
theorem dX14_statement_124 : decode cX14_statement 124 = .ok (.iload_n 2, 1) := by decide +kernel
theorem dX14_statement_125 : decode cX14_statement 125 = .ok (.ireturn, 1) := by decide +kernel
theorem dX14_readDoing_0 : decode cX14_readDoing 0 = .ok (.aload_n 0, 1) := by decide +kernel
theorem dX14_readDoing_1 : decode cX14_readDoing 1 = .ok (.getfield 241, 3) := by decide +kernel
theorem dX14_readDoing_4 : decode cX14_readDoing 4 = .ok (.istore_n 1, 1) := by decide +kernel
theorem dX14_readDoing_5 : decode cX14_readDoing 5 = .ok (.aload_n 0, 1) := by decide +kernel
theorem dX14_readDoing_6 : decode cX14_readDoing 6 = .ok (.iconst 0, 1) := by decide +kernel
theorem dX14_readDoing_7 : decode cX14_readDoing 7 = .ok (.putfield 241, 3) := by decide +kernel
theorem dX14_readDoing_10 : decode cX14_readDoing 10 = .ok (.aload_n 0, 1) := by decide +kernel
theorem dX14_readDoing_11 : decode cX14_readDoing 11 = .ok (.bipush 7, 2) := by decide +kernel
theorem dX14_readDoing_13 : decode cX14_readDoing 13 = .ok (.invokevirtual 375, 3) := by decide +kernel
theorem dX14_readDoing_16 : decode cX14_readDoing 16 = .ok (.istore_n 2, 1) := by decide +kernel
theorem dX14_readDoing_17 : decode cX14_readDoing 17 = .ok (.aload_n 0, 1) := by decide +kernel
theorem dX14_readDoing_18 : decode cX14_readDoing 18 = .ok (.iconst 1, 1) := by decide +kernel
theorem dX14_readDoing_19 : decode cX14_readDoing 19 = .ok (.invokevirtual 188, 3) := by decide +kernel
theorem dX14_readDoing_22 : decode cX14_readDoing 22 = .ok (.ifCond .eq 11, 3) := by decide +kernel
theorem dX14_readDoing_25 : decode cX14_readDoing 25 = .ok (.aload_n 0, 1) := by decide +kernel
theorem dX14_readDoing_26 : decode cX14_readDoing 26 = .ok (.iconst 0, 1) := by decide +kernel
theorem dX14_readDoing_27 : decode cX14_readDoing 27 = .ok (.invokevirtual 293, 3) := by decide +kernel
theorem dX14_readDoing_30 : decode cX14_readDoing 30 = .ok (.goto 9, 3) := by decide +kernel
theorem dX14_readDoing_33 : decode cX14_readDoing 33 = .ok (.aload_n 0, 1) := by decide +kernel
theorem dX14_readDoing_34 : decode cX14_readDoing 34 = .ok (.iconst 0, 1) := by decide +kernel
theorem dX14_readDoing_35 : decode cX14_readDoing 35 = .ok (.iconst 0, 1) := by decide +kernel
theorem dX14_readDoing_36 : decode cX14_readDoing 36 = .ok (.invokevirtual 282, 3) := by decide +kernel
theorem dX14_readDoing_39 : decode cX14_readDoing 39 = .ok (.istore_n 3, 1) := by decide +kernel
theorem dX14_readDoing_40 : decode cX14_readDoing 40 = .ok (.aload_n 0, 1) := by decide +kernel
theorem dX14_readDoing_41 : decode cX14_readDoing 41 = .ok (.iload_n 1, 1) := by decide +kernel
theorem dX14_readDoing_42 : decode cX14_readDoing 42 = .ok (.putfield 241, 3) := by decide +kernel
theorem dX14_readDoing_45 : decode cX14_readDoing 45 = .ok (.aload_n 0, 1) := by decide +kernel
theorem dX14_readDoing_46 : decode cX14_readDoing 46 = .ok (.getfield 23, 3) := by decide +kernel
theorem dX14_readDoing_49 : decode cX14_readDoing 49 = .ok (.getfield 214, 3) := by decide +kernel
theorem dX14_readDoing_52 : decode cX14_readDoing 52 = .ok (.iload_n 3, 1) := by decide +kernel
theorem dX14_readDoing_53 : decode cX14_readDoing 53 = .ok (.iaload, 1) := by decide +kernel
theorem dX14_readDoing_54 : decode cX14_readDoing 54 = .ok (.iconst 2, 1) := by decide +kernel
theorem dX14_readDoing_55 : decode cX14_readDoing 55 = .ok (.if_icmp .ne 71, 3) := by decide +kernel
theorem dX14_readDoing_58 : decode cX14_readDoing 58 = .ok (.aload_n 0, 1) := by decide +kernel
theorem dX14_readDoing_59 : decode cX14_readDoing 59 = .ok (.getfield 23, 3) := by decide +kernel
theorem dX14_readDoing_62 : decode cX14_readDoing 62 = .ok (.getfield 333, 3) := by decide +kernel
theorem dX14_readDoing_65 : decode cX14_readDoing 65 = .ok (.iload_n 2, 1) := by decide +kernel
theorem dX14_readDoing_66 : decode cX14_readDoing 66 = .ok (.iconst 2, 1) := by decide +kernel
theorem dX14_readDoing_67 : decode cX14_readDoing 67 = .ok (.iastore, 1) := by decide +kernel
theorem dX14_readDoing_68 : decode cX14_readDoing 68 = .ok (.aload_n 0, 1) := by decide +kernel
theorem dX14_readDoing_69 : decode cX14_readDoing 69 = .ok (.getfield 23, 3) := by decide +kernel
theorem dX14_readDoing_72 : decode cX14_readDoing 72 = .ok (.getfield 336, 3) := by decide +kernel
theorem dX14_readDoing_75 : decode cX14_readDoing 75 = .ok (.iload_n 2, 1) := by decide +kernel
theorem dX14_readDoing_76 : decode cX14_readDoing 76 = .ok (.aload_n 0, 1) := by decide +kernel
theorem dX14_readDoing_77 : decode cX14_readDoing 77 = .ok (.getfield 23, 3) := by decide +kernel
theorem dX14_readDoing_80 : decode cX14_readDoing 80 = .ok (.getfield 223, 3) := by decide +kernel
theorem dX14_readDoing_83 : decode cX14_readDoing 83 = .ok (.iload_n 3, 1) := by decide +kernel
theorem dX14_readDoing_84 : decode cX14_readDoing 84 = .ok (.iaload, 1) := by decide +kernel
theorem dX14_readDoing_85 : decode cX14_readDoing 85 = .ok (.iastore, 1) := by decide +kernel
theorem dX14_readDoing_86 : decode cX14_readDoing 86 = .ok (.aload_n 0, 1) := by decide +kernel
theorem dX14_readDoing_87 : decode cX14_readDoing 87 = .ok (.getfield 23, 3) := by decide +kernel
theorem dX14_readDoing_90 : decode cX14_readDoing 90 = .ok (.getfield 342, 3) := by decide +kernel
theorem dX14_readDoing_93 : decode cX14_readDoing 93 = .ok (.iload_n 2, 1) := by decide +kernel
theorem dX14_readDoing_94 : decode cX14_readDoing 94 = .ok (.aload_n 0, 1) := by decide +kernel
theorem dX14_readDoing_95 : decode cX14_readDoing 95 = .ok (.getfield 23, 3) := by decide +kernel
theorem dX14_readDoing_98 : decode cX14_readDoing 98 = .ok (.getfield 217, 3) := by decide +kernel
theorem dX14_readDoing_101 : decode cX14_readDoing 101 = .ok (.iload_n 3, 1) := by decide +kernel
theorem dX14_readDoing_102 : decode cX14_readDoing 102 = .ok (.iaload, 1) := by decide +kernel
theorem dX14_readDoing_103 : decode cX14_readDoing 103 = .ok (.iastore, 1) := by decide +kernel
theorem dX14_readDoing_104 : decode cX14_readDoing 104 = .ok (.aload_n 0, 1) := by decide +kernel
theorem dX14_readDoing_105 : decode cX14_readDoing 105 = .ok (.bipush 61, 2) := by decide +kernel
theorem dX14_readDoing_107 : decode cX14_readDoing 107 = .ok (.invokevirtual 267, 3) := by decide +kernel
theorem dX14_readDoing_110 : decode cX14_readDoing 110 = .ok (.aload_n 0, 1) := by decide +kernel
theorem dX14_readDoing_111 : decode cX14_readDoing 111 = .ok (.getfield 23, 3) := by decide +kernel
theorem dX14_readDoing_114 : decode cX14_readDoing 114 = .ok (.getfield 345, 3) := by decide +kernel
theorem dX14_readDoing_117 : decode cX14_readDoing 117 = .ok (.iload_n 2, 1) := by decide +kernel
theorem dX14_readDoing_118 : decode cX14_readDoing 118 = .ok (.aload_n 0, 1) := by decide +kernel
theorem dX14_readDoing_119 : decode cX14_readDoing 119 = .ok (.invokevirtual 378, 3) := by decide +kernel
theorem dX14_readDoing_122 : decode cX14_readDoing 122 = .ok (.iastore, 1) := by decide +kernel
theorem dX14_readDoing_123 : decode cX14_readDoing 123 = .ok (.goto 13, 3) := by decide +kernel
theorem dX14_readDoing_126 : decode cX14_readDoing 126 = .ok (.aload_n 0, 1) := by decide +kernel
theorem dX14_readDoing_127 : decode cX14_readDoing 127 = .ok (.getfield 23, 3) := by decide +kernel
theorem dX14_readDoing_130 : decode cX14_readDoing 130 = .ok (.getfield 339, 3) := by decide +kernel
theorem dX14_readDoing_133 : decode cX14_readDoing 133 = .ok (.iload_n 2, 1) := by decide +kernel
theorem dX14_readDoing_134 : decode cX14_readDoing 134 = .ok (.iload_n 3, 1) := by decide +kernel
theorem dX14_readDoing_135 : decode cX14_readDoing 135 = .ok (.iastore, 1) := by decide +kernel
theorem dX14_readDoing_136 : decode cX14_readDoing 136 = .ok (.aload_n 0, 1) := by decide +kernel
theorem dX14_readDoing_137 : decode cX14_readDoing 137 = .ok (.bipush 59, 2) := by decide +kernel
theorem dX14_readDoing_139 : decode cX14_readDoing 139 = .ok (.invokevirtual 267, 3) := by decide +kernel
theorem dX14_readDoing_142 : decode cX14_readDoing 142 = .ok (.iload_n 2, 1) := by decide +kernel
theorem dX14_readDoing_143 : decode cX14_readDoing 143 = .ok (.ireturn, 1) := by decide +kernel
