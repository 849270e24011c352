theorem dX14_model_0 : decode cX14_model 0 = .ok (.aload_n 0, 1) := by decide +kernel
theorem dX14_model_1 : decode cX14_model 1 = .ok (.iload_n 1, 1) := by decide +kernel
theorem dX14_model_2 : decode cX14_model 2 = .ok (.invokevirtual 544, 3) := by decide +kernel
theorem dX14_model_5 : decode cX14_model 5 = .ok (.ifCond .eq 16, 3) := by decide +kernel
theorem dX14_model_8 : decode cX14_model 8 = .ok (.iload_n 2, 1) := by decide +kernel
theorem dX14_model_9 : decode cX14_model 9 = .ok (.iconst (-1), 1) := by decide +kernel
theorem dX14_model_10 : decode cX14_model 10 = .ok (.if_icmp .eq 14, 3) := by decide +kernel
theorem dX14_model_13 : decode cX14_model 13 = .ok (.aload_n 0, 1) := by decide +kernel
theorem dX14_model_14 : decode cX14_model 14 = .ok (.iload_n 2, 1) := by decide +kernel
theorem dX14_model_15 : decode cX14_model 15 = .ok (.invokevirtual 544, 3) := by decide +kernel
theorem dX14_model_18 : decode cX14_model 18 = .ok (.ifCond .ne 6, 3) := by decide +kernel
theorem dX14_model_21 : decode cX14_model 21 = .ok (.bipush (-2), 2) := by decide +kernel
theorem dX14_model_23 : decode cX14_model 23 = .ok (.ireturn, 1) := by decide +kernel
theorem dX14_model_24 : decode cX14_model 24 = .ok (.aload_n 0, 1) := by decide +kernel
theorem dX14_model_25 : decode cX14_model 25 = .ok (.getfield 19, 3) := by decide +kernel
theorem dX14_model_28 : decode cX14_model 28 = .ok (.getfield 508, 3) := by decide +kernel
theorem dX14_model_31 : decode cX14_model 31 = .ok (.iload_n 1, 1) := by decide +kernel
theorem dX14_model_32 : decode cX14_model 32 = .ok (.iload_n 2, 1) := by decide +kernel
theorem dX14_model_33 : decode cX14_model 33 = .ok (.iastore, 1) := by decide +kernel
theorem dX14_model_34 : decode cX14_model 34 = .ok (.iconst 1, 1) := by decide +kernel
theorem dX14_model_35 : decode cX14_model 35 = .ok (.ireturn, 1) := by decide +kernel
theorem dX14_holds_0 : decode cX14_holds 0 = .ok (.aload_n 0, 1) := by decide +kernel
theorem dX14_holds_1 : decode cX14_holds 1 = .ok (.iconst 0, 1) := by decide +kernel
theorem dX14_holds_2 : decode cX14_holds 2 = .ok (.putfield 564, 3) := by decide +kernel
theorem dX14_holds_5 : decode cX14_holds 5 = .ok (.aload_n 0, 1) := by decide +kernel
theorem dX14_holds_6 : decode cX14_holds 6 = .ok (.iconst 0, 1) := by decide +kernel
theorem dX14_holds_7 : decode cX14_holds 7 = .ok (.putfield 567, 3) := by decide +kernel
theorem dX14_holds_10 : decode cX14_holds 10 = .ok (.aload_n 0, 1) := by decide +kernel
theorem dX14_holds_11 : decode cX14_holds 11 = .ok (.getfield 57, 3) := by decide +kernel
theorem dX14_holds_14 : decode cX14_holds 14 = .ok (.iconst 0, 1) := by decide +kernel
theorem dX14_holds_15 : decode cX14_holds 15 = .ok (.iload 4, 2) := by decide +kernel
theorem dX14_holds_17 : decode cX14_holds 17 = .ok (.iastore, 1) := by decide +kernel
theorem dX14_holds_18 : decode cX14_holds 18 = .ok (.iconst 0, 1) := by decide +kernel
theorem dX14_holds_19 : decode cX14_holds 19 = .ok (.istore 7, 2) := by decide +kernel
theorem dX14_holds_21 : decode cX14_holds 21 = .ok (.iload 7, 2) := by decide +kernel
theorem dX14_holds_23 : decode cX14_holds 23 = .ok (.iconst 3, 1) := by decide +kernel
theorem dX14_holds_24 : decode cX14_holds 24 = .ok (.if_icmp .ge 38, 3) := by decide +kernel
theorem dX14_holds_27 : decode cX14_holds 27 = .ok (.aload_n 0, 1) := by decide +kernel
theorem dX14_holds_28 : decode cX14_holds 28 = .ok (.getfield 51, 3) := by decide +kernel
theorem dX14_holds_31 : decode cX14_holds 31 = .ok (.iload 7, 2) := by decide +kernel
theorem dX14_holds_33 : decode cX14_holds 33 = .ok (.iload 6, 2) := by decide +kernel
theorem dX14_holds_35 : decode cX14_holds 35 = .ok (.iconst (-1), 1) := by decide +kernel
theorem dX14_holds_36 : decode cX14_holds 36 = .ok (.if_icmp .ne 7, 3) := by decide +kernel
theorem dX14_holds_39 : decode cX14_holds 39 = .ok (.iconst 0, 1) := by decide +kernel
theorem dX14_holds_40 : decode cX14_holds 40 = .ok (.goto 15, 3) := by decide +kernel
theorem dX14_holds_43 : decode cX14_holds 43 = .ok (.aload_n 0, 1) := by decide +kernel
theorem dX14_holds_44 : decode cX14_holds 44 = .ok (.getfield 69, 3) := by decide +kernel
theorem dX14_holds_47 : decode cX14_holds 47 = .ok (.iconst 3, 1) := by decide +kernel
theorem dX14_holds_48 : decode cX14_holds 48 = .ok (.iload 6, 2) := by decide +kernel
theorem dX14_holds_50 : decode cX14_holds 50 = .ok (.imul, 1) := by decide +kernel
theorem dX14_holds_51 : decode cX14_holds 51 = .ok (.iload 7, 2) := by decide +kernel
theorem dX14_holds_53 : decode cX14_holds 53 = .ok (.iadd, 1) := by decide +kernel
theorem dX14_holds_54 : decode cX14_holds 54 = .ok (.iaload, 1) := by decide +kernel
theorem dX14_holds_55 : decode cX14_holds 55 = .ok (.iastore, 1) := by decide +kernel
theorem dX14_holds_56 : decode cX14_holds 56 = .ok (.iinc 7 1, 3) := by decide +kernel
theorem dX14_holds_59 : decode cX14_holds 59 = .ok (.goto (-38), 3) := by decide +kernel
theorem dX14_holds_62 : decode cX14_holds 62 = .ok (.aload_n 0, 1) := by decide +kernel
theorem dX14_holds_63 : decode cX14_holds 63 = .ok (.iconst 1, 1) := by decide +kernel
theorem dX14_holds_64 : decode cX14_holds 64 = .ok (.putfield 601, 3) := by decide +kernel
theorem dX14_holds_67 : decode cX14_holds 67 = .ok (.aload_n 0, 1) := by decide +kernel
theorem dX14_holds_68 : decode cX14_holds 68 = .ok (.iload 5, 2) := by decide +kernel
theorem dX14_holds_70 : decode cX14_holds 70 = .ok (.iconst 4, 1) := by decide +kernel
theorem dX14_holds_71 : decode cX14_holds 71 = .ok (.if_icmp .ne 7, 3) := by decide +kernel
theorem dX14_holds_74 : decode cX14_holds 74 = .ok (.iconst 1, 1) := by decide +kernel
theorem dX14_holds_75 : decode cX14_holds 75 = .ok (.goto 4, 3) := by decide +kernel
theorem dX14_holds_78 : decode cX14_holds 78 = .ok (.iconst 0, 1) := by decide +kernel
theorem dX14_holds_79 : decode cX14_holds 79 = .ok (.putfield 604, 3) := by decide +kernel
theorem dX14_holds_82 : decode cX14_holds 82 = .ok (.aload_n 0, 1) := by decide +kernel
theorem dX14_holds_83 : decode cX14_holds 83 = .ok (.iload_n 1, 1) := by decide +kernel
theorem dX14_holds_84 : decode cX14_holds 84 = .ok (.invokevirtual 582, 3) := by decide +kernel
theorem dX14_holds_87 : decode cX14_holds 87 = .ok (.ifCond .eq 7, 3) := by decide +kernel
theorem dX14_holds_90 : decode cX14_holds 90 = .ok (.iconst 1, 1) := by decide +kernel
theorem dX14_holds_91 : decode cX14_holds 91 = .ok (.goto 4, 3) := by decide +kernel
theorem dX14_holds_94 : decode cX14_holds 94 = .ok (.iconst 0, 1) := by decide +kernel
theorem dX14_holds_95 : decode cX14_holds 95 = .ok (.istore 7, 2) := by decide +kernel
theorem dX14_holds_97 : decode cX14_holds 97 = .ok (.goto 36, 3) := by decide +kernel
theorem dX14_holds_100 : decode cX14_holds 100 = .ok (.astore 8, 2) := by decide +kernel
theorem dX14_holds_102 : decode cX14_holds 102 = .ok (.iconst (-1), 1) := by decide +kernel
theorem dX14_holds_103 : decode cX14_holds 103 = .ok (.istore 7, 2) := by decide +kernel
theorem dX14_holds_105 : decode cX14_holds 105 = .ok (.aload_n 0, 1) := by decide +kernel
theorem dX14_holds_106 : decode cX14_holds 106 = .ok (.aload_n 0, 1) := by decide +kernel
theorem dX14_holds_107 : decode cX14_holds 107 = .ok (.getfield 547, 3) := by decide +kernel
theorem dX14_holds_110 : decode cX14_holds 110 = .ok (.iconst 3, 1) := by decide +kernel
theorem dX14_holds_111 : decode cX14_holds 111 = .ok (.if_icmp .ne 7, 3) := by decide +kernel
theorem dX14_holds_114 : decode cX14_holds 114 = .ok (.iconst 5, 1) := by decide +kernel
theorem dX14_holds_115 : decode cX14_holds 115 = .ok (.goto 5, 3) := by decide +kernel
theorem dX14_holds_118 : decode cX14_holds 118 = .ok (.bipush 7, 2) := by decide +kernel
theorem dX14_holds_120 : decode cX14_holds 120 = .ok (.putfield 618, 3) := by decide +kernel
theorem dX14_holds_123 : decode cX14_holds 123 = .ok (.aload_n 0, 1) := by decide +kernel
theorem dX14_holds_124 : decode cX14_holds 124 = .ok (.iload_n 3, 1) := by decide +kernel
theorem dX14_holds_125 : decode cX14_holds 125 = .ok (.iload 4, 2) := by decide +kernel
theorem dX14_holds_127 : decode cX14_holds 127 = .ok (.iload_n 2, 1) := by decide +kernel
theorem dX14_holds_128 : decode cX14_holds 128 = .ok (.iload 5, 2) := by decide +kernel
theorem dX14_holds_130 : decode cX14_holds 130 = .ok (.invokevirtual 624, 3) := by decide +kernel
theorem dX14_holds_133 : decode cX14_holds 133 = .ok (.aload_n 0, 1) := by decide +kernel
theorem dX14_holds_134 : decode cX14_holds 134 = .ok (.iconst 0, 1) := by decide +kernel
theorem dX14_holds_135 : decode cX14_holds 135 = .ok (.putfield 601, 3) := by decide +kernel
theorem dX14_holds_138 : decode cX14_holds 138 = .ok (.aload_n 0, 1) := by decide +kernel
theorem dX14_holds_139 : decode cX14_holds 139 = .ok (.iconst 0, 1) := by decide +kernel
theorem dX14_holds_140 : decode cX14_holds 140 = .ok (.putfield 604, 3) := by decide +kernel
theorem dX14_holds_143 : decode cX14_holds 143 = .ok (.iload 7, 2) := by decide +kernel
theorem dX14_holds_145 : decode cX14_holds 145 = .ok (.ireturn, 1) := by decide +kernel
theorem dX14_toldBy_0 : decode cX14_toldBy 0 = .ok (.iconst 0, 1) := by decide +kernel
theorem dX14_toldBy_1 : decode cX14_toldBy 1 = .ok (.istore_n 3, 1) := by decide +kernel
theorem dX14_toldBy_2 : decode cX14_toldBy 2 = .ok (.iload_n 3, 1) := by decide +kernel
theorem dX14_toldBy_3 : decode cX14_toldBy 3 = .ok (.aload_n 0, 1) := by decide +kernel
theorem dX14_toldBy_4 : decode cX14_toldBy 4 = .ok (.getfield 19, 3) := by decide +kernel
theorem dX14_toldBy_7 : decode cX14_toldBy 7 = .ok (.getfield 459, 3) := by decide +kernel
theorem dX14_toldBy_10 : decode cX14_toldBy 10 = .ok (.if_icmp .ge 68, 3) := by decide +kernel
theorem dX14_toldBy_13 : decode cX14_toldBy 13 = .ok (.aload_n 0, 1) := by decide +kernel
theorem dX14_toldBy_14 : decode cX14_toldBy 14 = .ok (.getfield 19, 3) := by decide +kernel
theorem dX14_toldBy_17 : decode cX14_toldBy 17 = .ok (.getfield 453, 3) := by decide +kernel
theorem dX14_toldBy_20 : decode cX14_toldBy 20 = .ok (.iload_n 3, 1) := by decide +kernel
theorem dX14_toldBy_21 : decode cX14_toldBy 21 = .ok (.iaload, 1) := by decide +kernel
theorem dX14_toldBy_22 : decode cX14_toldBy 22 = .ok (.iload_n 1, 1) := by decide +kernel
theorem dX14_toldBy_23 : decode cX14_toldBy 23 = .ok (.if_icmp .ne 49, 3) := by decide +kernel
theorem dX14_toldBy_26 : decode cX14_toldBy 26 = .ok (.aload_n 0, 1) := by decide +kernel
theorem dX14_toldBy_27 : decode cX14_toldBy 27 = .ok (.getfield 19, 3) := by decide +kernel
theorem dX14_toldBy_30 : decode cX14_toldBy 30 = .ok (.getfield 462, 3) := by decide +kernel
theorem dX14_toldBy_33 : decode cX14_toldBy 33 = .ok (.iload_n 3, 1) := by decide +kernel
theorem dX14_toldBy_34 : decode cX14_toldBy 34 = .ok (.laload, 1) := by decide +kernel
theorem dX14_toldBy_35 : decode cX14_toldBy 35 = .ok (.aload_n 0, 1) := by decide +kernel
theorem dX14_toldBy_36 : decode cX14_toldBy 36 = .ok (.getfield 19, 3) := by decide +kernel
theorem dX14_toldBy_39 : decode cX14_toldBy 39 = .ok (.getfield 462, 3) := by decide +kernel
theorem dX14_toldBy_42 : decode cX14_toldBy 42 = .ok (.iload_n 2, 1) := by decide +kernel
theorem dX14_toldBy_43 : decode cX14_toldBy 43 = .ok (.laload, 1) := by decide +kernel
theorem dX14_toldBy_44 : decode cX14_toldBy 44 = .ok (.lcmp, 1) := by decide +kernel
theorem dX14_toldBy_45 : decode cX14_toldBy 45 = .ok (.ifCond .ne 27, 3) := by decide +kernel
theorem dX14_toldBy_48 : decode cX14_toldBy 48 = .ok (.aload_n 0, 1) := by decide +kernel
theorem dX14_toldBy_49 : decode cX14_toldBy 49 = .ok (.getfield 19, 3) := by decide +kernel
theorem dX14_toldBy_52 : decode cX14_toldBy 52 = .ok (.getfield 465, 3) := by decide +kernel
theorem dX14_toldBy_55 : decode cX14_toldBy 55 = .ok (.iload_n 3, 1) := by decide +kernel
theorem dX14_toldBy_56 : decode cX14_toldBy 56 = .ok (.laload, 1) := by decide +kernel
theorem dX14_toldBy_57 : decode cX14_toldBy 57 = .ok (.aload_n 0, 1) := by decide +kernel
theorem dX14_toldBy_58 : decode cX14_toldBy 58 = .ok (.getfield 19, 3) := by decide +kernel
theorem dX14_toldBy_61 : decode cX14_toldBy 61 = .ok (.getfield 465, 3) := by decide +kernel
theorem dX14_toldBy_64 : decode cX14_toldBy 64 = .ok (.iload_n 2, 1) := by decide +kernel
theorem dX14_toldBy_65 : decode cX14_toldBy 65 = .ok (.laload, 1) := by decide +kernel
theorem dX14_toldBy_66 : decode cX14_toldBy 66 = .ok (.lcmp, 1) := by decide +kernel
theorem dX14_toldBy_67 : decode cX14_toldBy 67 = .ok (.ifCond .ne 5, 3) := by decide +kernel
theorem dX14_toldBy_70 : decode cX14_toldBy 70 = .ok (.iload_n 3, 1) := by decide +kernel
theorem dX14_toldBy_71 : decode cX14_toldBy 71 = .ok (.ireturn, 1) := by decide +kernel
theorem dX14_toldBy_72 : decode cX14_toldBy 72 = .ok (.iinc 3 1, 3) := by decide +kernel
theorem dX14_toldBy_75 : decode cX14_toldBy 75 = .ok (.goto (-73), 3) := by decide +kernel
theorem dX14_toldBy_78 : decode cX14_toldBy 78 = .ok (.iconst (-1), 1) := by decide +kernel
theorem dX14_toldBy_79 : decode cX14_toldBy 79 = .ok (.ireturn, 1) := by decide +kernel
theorem dX14_keeps_0 : decode cX14_keeps 0 = .ok (.aload_n 0, 1) := by decide +kernel
theorem dX14_keeps_1 : decode cX14_keeps 1 = .ok (.getfield 41, 3) := by decide +kernel
theorem dX14_keeps_4 : decode cX14_keeps 4 = .ok (.iload_n 1, 1) := by decide +kernel
theorem dX14_keeps_5 : decode cX14_keeps 5 = .ok (.iaload, 1) := by decide +kernel
theorem dX14_keeps_6 : decode cX14_keeps 6 = .ok (.istore_n 2, 1) := by decide +kernel
theorem dX14_keeps_7 : decode cX14_keeps 7 = .ok (.iload_n 2, 1) := by decide +kernel
theorem dX14_keeps_8 : decode cX14_keeps 8 = .ok (.iconst (-1), 1) := by decide +kernel
theorem dX14_keeps_9 : decode cX14_keeps 9 = .ok (.if_icmp .eq 110, 3) := by decide +kernel
theorem dX14_keeps_12 : decode cX14_keeps 12 = .ok (.bipush 8, 2) := by decide +kernel
theorem dX14_keeps_14 : decode cX14_keeps 14 = .ok (.iload_n 2, 1) := by decide +kernel
theorem dX14_keeps_15 : decode cX14_keeps 15 = .ok (.imul, 1) := by decide +kernel
theorem dX14_keeps_16 : decode cX14_keeps 16 = .ok (.istore_n 3, 1) := by decide +kernel
theorem dX14_keeps_17 : decode cX14_keeps 17 = .ok (.iload_n 3, 1) := by decide +kernel
theorem dX14_keeps_18 : decode cX14_keeps 18 = .ok (.bipush 8, 2) := by decide +kernel
theorem dX14_keeps_20 : decode cX14_keeps 20 = .ok (.iload_n 2, 1) := by decide +kernel
theorem dX14_keeps_21 : decode cX14_keeps 21 = .ok (.imul, 1) := by decide +kernel
theorem dX14_keeps_22 : decode cX14_keeps 22 = .ok (.aload_n 0, 1) := by decide +kernel
theorem dX14_keeps_23 : decode cX14_keeps 23 = .ok (.getfield 19, 3) := by decide +kernel
theorem dX14_keeps_26 : decode cX14_keeps 26 = .ok (.getfield 419, 3) := by decide +kernel
theorem dX14_keeps_29 : decode cX14_keeps 29 = .ok (.iload_n 2, 1) := by decide +kernel
theorem dX14_keeps_30 : decode cX14_keeps 30 = .ok (.iaload, 1) := by decide +kernel
theorem dX14_keeps_31 : decode cX14_keeps 31 = .ok (.iadd, 1) := by decide +kernel
theorem dX14_keeps_32 : decode cX14_keeps 32 = .ok (.if_icmp .ge 74, 3) := by decide +kernel
theorem dX14_keeps_35 : decode cX14_keeps 35 = .ok (.aload_n 0, 1) := by decide +kernel
theorem dX14_keeps_36 : decode cX14_keeps 36 = .ok (.aload_n 0, 1) := by decide +kernel
theorem dX14_keeps_37 : decode cX14_keeps 37 = .ok (.getfield 19, 3) := by decide +kernel
theorem dX14_keeps_40 : decode cX14_keeps 40 = .ok (.getfield 425, 3) := by decide +kernel
theorem dX14_keeps_43 : decode cX14_keeps 43 = .ok (.iload_n 3, 1) := by decide +kernel
theorem dX14_keeps_44 : decode cX14_keeps 44 = .ok (.iaload, 1) := by decide +kernel
theorem dX14_keeps_45 : decode cX14_keeps 45 = .ok (.aload_n 0, 1) := by decide +kernel
theorem dX14_keeps_46 : decode cX14_keeps 46 = .ok (.getfield 19, 3) := by decide +kernel
theorem dX14_keeps_49 : decode cX14_keeps 49 = .ok (.getfield 422, 3) := by decide +kernel
theorem dX14_keeps_52 : decode cX14_keeps 52 = .ok (.iload_n 3, 1) := by decide +kernel
theorem dX14_keeps_53 : decode cX14_keeps 53 = .ok (.iaload, 1) := by decide +kernel
theorem dX14_keeps_54 : decode cX14_keeps 54 = .ok (.iload_n 2, 1) := by decide +kernel
theorem dX14_keeps_55 : decode cX14_keeps 55 = .ok (.iload_n 1, 1) := by decide +kernel
theorem dX14_keeps_56 : decode cX14_keeps 56 = .ok (.iconst 3, 1) := by decide +kernel
theorem dX14_keeps_57 : decode cX14_keeps 57 = .ok (.iconst (-1), 1) := by decide +kernel
theorem dX14_keeps_58 : decode cX14_keeps 58 = .ok (.invokevirtual 628, 3) := by decide +kernel
theorem dX14_keeps_61 : decode cX14_keeps 61 = .ok (.istore 4, 2) := by decide +kernel
theorem dX14_keeps_63 : decode cX14_keeps 63 = .ok (.iload 4, 2) := by decide +kernel
theorem dX14_keeps_65 : decode cX14_keeps 65 = .ok (.iconst 1, 1) := by decide +kernel
theorem dX14_keeps_66 : decode cX14_keeps 66 = .ok (.if_icmp .ne 6, 3) := by decide +kernel
theorem dX14_keeps_69 : decode cX14_keeps 69 = .ok (.goto 31, 3) := by decide +kernel
theorem dX14_keeps_72 : decode cX14_keeps 72 = .ok (.iload 4, 2) := by decide +kernel
theorem dX14_keeps_74 : decode cX14_keeps 74 = .ok (.ifCond .ne 24, 3) := by decide +kernel
theorem dX14_keeps_77 : decode cX14_keeps 77 = .ok (.aload_n 0, 1) := by decide +kernel
theorem dX14_keeps_78 : decode cX14_keeps 78 = .ok (.iconst 2, 1) := by decide +kernel
theorem dX14_keeps_79 : decode cX14_keeps 79 = .ok (.putfield 618, 3) := by decide +kernel
theorem dX14_keeps_82 : decode cX14_keeps 82 = .ok (.aload_n 0, 1) := by decide +kernel
theorem dX14_keeps_83 : decode cX14_keeps 83 = .ok (.iload_n 2, 1) := by decide +kernel
theorem dX14_keeps_84 : decode cX14_keeps 84 = .ok (.iload_n 1, 1) := by decide +kernel
theorem dX14_keeps_85 : decode cX14_keeps 85 = .ok (.aload_n 0, 1) := by decide +kernel
theorem dX14_keeps_86 : decode cX14_keeps 86 = .ok (.getfield 19, 3) := by decide +kernel
theorem dX14_keeps_89 : decode cX14_keeps 89 = .ok (.getfield 422, 3) := by decide +kernel
theorem dX14_keeps_92 : decode cX14_keeps 92 = .ok (.iload_n 3, 1) := by decide +kernel
theorem dX14_keeps_93 : decode cX14_keeps 93 = .ok (.iaload, 1) := by decide +kernel
theorem dX14_keeps_94 : decode cX14_keeps 94 = .ok (.iconst 3, 1) := by decide +kernel
theorem dX14_keeps_95 : decode cX14_keeps 95 = .ok (.invokevirtual 624, 3) := by decide +kernel
theorem dX14_keeps_98 : decode cX14_keeps 98 = .ok (.iconst 0, 1) := by decide +kernel
theorem dX14_keeps_99 : decode cX14_keeps 99 = .ok (.ireturn, 1) := by decide +kernel
theorem dX14_keeps_100 : decode cX14_keeps 100 = .ok (.iinc 3 1, 3) := by decide +kernel
theorem dX14_keeps_103 : decode cX14_keeps 103 = .ok (.goto (-86), 3) := by decide +kernel
theorem dX14_keeps_106 : decode cX14_keeps 106 = .ok (.aload_n 0, 1) := by decide +kernel
theorem dX14_keeps_107 : decode cX14_keeps 107 = .ok (.getfield 19, 3) := by decide +kernel
theorem dX14_keeps_110 : decode cX14_keeps 110 = .ok (.getfield 297, 3) := by decide +kernel
theorem dX14_keeps_113 : decode cX14_keeps 113 = .ok (.iload_n 2, 1) := by decide +kernel
theorem dX14_keeps_114 : decode cX14_keeps 114 = .ok (.iaload, 1) := by decide +kernel
theorem dX14_keeps_115 : decode cX14_keeps 115 = .ok (.istore_n 2, 1) := by decide +kernel
theorem dX14_keeps_116 : decode cX14_keeps 116 = .ok (.goto (-109), 3) := by decide +kernel
theorem dX14_keeps_119 : decode cX14_keeps 119 = .ok (.iconst 1, 1) := by decide +kernel
theorem dX14_keeps_120 : decode cX14_keeps 120 = .ok (.ireturn, 1) := by decide +kernel
theorem dX14_begin_0 : decode cX14_begin 0 = .ok (.aload_n 0, 1) := by decide +kernel
theorem dX14_begin_1 : decode cX14_begin 1 = .ok (.getfield 41, 3) := by decide +kernel
theorem dX14_begin_4 : decode cX14_begin 4 = .ok (.iload_n 1, 1) := by decide +kernel
theorem dX14_begin_5 : decode cX14_begin 5 = .ok (.iload_n 2, 1) := by decide +kernel
theorem dX14_begin_6 : decode cX14_begin 6 = .ok (.iastore, 1) := by decide +kernel
theorem dX14_begin_7 : decode cX14_begin 7 = .ok (.iconst 0, 1) := by decide +kernel
theorem dX14_begin_8 : decode cX14_begin 8 = .ok (.istore_n 3, 1) := by decide +kernel
theorem dX14_begin_9 : decode cX14_begin 9 = .ok (.iload_n 3, 1) := by decide +kernel
theorem dX14_begin_10 : decode cX14_begin 10 = .ok (.bipush 24, 2) := by decide +kernel
theorem dX14_begin_12 : decode cX14_begin 12 = .ok (.if_icmp .ge 21, 3) := by decide +kernel
theorem dX14_begin_15 : decode cX14_begin 15 = .ok (.aload_n 0, 1) := by decide +kernel
theorem dX14_begin_16 : decode cX14_begin 16 = .ok (.getfield 45, 3) := by decide +kernel
theorem dX14_begin_19 : decode cX14_begin 19 = .ok (.bipush 24, 2) := by decide +kernel
theorem dX14_begin_21 : decode cX14_begin 21 = .ok (.iload_n 1, 1) := by decide +kernel
theorem dX14_begin_22 : decode cX14_begin 22 = .ok (.imul, 1) := by decide +kernel
theorem dX14_begin_23 : decode cX14_begin 23 = .ok (.iload_n 3, 1) := by decide +kernel
theorem dX14_begin_24 : decode cX14_begin 24 = .ok (.iadd, 1) := by decide +kernel
theorem dX14_begin_25 : decode cX14_begin 25 = .ok (.iconst 0, 1) := by decide +kernel
theorem dX14_begin_26 : decode cX14_begin 26 = .ok (.iastore, 1) := by decide +kernel
theorem dX14_begin_27 : decode cX14_begin 27 = .ok (.iinc 3 1, 3) := by decide +kernel
theorem dX14_begin_30 : decode cX14_begin 30 = .ok (.goto (-21), 3) := by decide +kernel
theorem dX14_begin_33 : decode cX14_begin 33 = .ok (.iload_n 2, 1) := by decide +kernel
theorem dX14_begin_34 : decode cX14_begin 34 = .ok (.iconst (-1), 1) := by decide +kernel
theorem dX14_begin_35 : decode cX14_begin 35 = .ok (.if_icmp .ne 4, 3) := by decide +kernel
theorem dX14_begin_38 : decode cX14_begin 38 = .ok (.return_, 1) := by decide +kernel
theorem dX14_begin_39 : decode cX14_begin 39 = .ok (.iconst 0, 1) := by decide +kernel
theorem dX14_begin_40 : decode cX14_begin 40 = .ok (.istore_n 3, 1) := by decide +kernel
theorem dX14_begin_41 : decode cX14_begin 41 = .ok (.iload_n 3, 1) := by decide +kernel
theorem dX14_begin_42 : decode cX14_begin 42 = .ok (.aload_n 0, 1) := by decide +kernel
theorem dX14_begin_43 : decode cX14_begin 43 = .ok (.getfield 19, 3) := by decide +kernel
theorem dX14_begin_46 : decode cX14_begin 46 = .ok (.getfield 390, 3) := by decide +kernel
theorem dX14_begin_49 : decode cX14_begin 49 = .ok (.iload_n 2, 1) := by decide +kernel
theorem dX14_begin_50 : decode cX14_begin 50 = .ok (.iaload, 1) := by decide +kernel
theorem dX14_begin_51 : decode cX14_begin 51 = .ok (.if_icmp .ge 103, 3) := by decide +kernel
theorem dX14_begin_54 : decode cX14_begin 54 = .ok (.aload_n 0, 1) := by decide +kernel
theorem dX14_begin_55 : decode cX14_begin 55 = .ok (.getfield 19, 3) := by decide +kernel
theorem dX14_begin_58 : decode cX14_begin 58 = .ok (.getfield 290, 3) := by decide +kernel
theorem dX14_begin_61 : decode cX14_begin 61 = .ok (.bipush 10, 2) := by decide +kernel
theorem dX14_begin_63 : decode cX14_begin 63 = .ok (.iload_n 2, 1) := by decide +kernel
theorem dX14_begin_64 : decode cX14_begin 64 = .ok (.imul, 1) := by decide +kernel
theorem dX14_begin_65 : decode cX14_begin 65 = .ok (.iload_n 3, 1) := by decide +kernel
theorem dX14_begin_66 : decode cX14_begin 66 = .ok (.iadd, 1) := by decide +kernel
theorem dX14_begin_67 : decode cX14_begin 67 = .ok (.iaload, 1) := by decide +kernel
theorem dX14_begin_68 : decode cX14_begin 68 = .ok (.ifCond .ne 7, 3) := by decide +kernel
theorem dX14_begin_71 : decode cX14_begin 71 = .ok (.iconst 1, 1) := by decide +kernel
theorem dX14_begin_72 : decode cX14_begin 72 = .ok (.goto 17, 3) := by decide +kernel
theorem dX14_begin_75 : decode cX14_begin 75 = .ok (.aload_n 0, 1) := by decide +kernel
theorem dX14_begin_76 : decode cX14_begin 76 = .ok (.getfield 19, 3) := by decide +kernel
theorem dX14_begin_79 : decode cX14_begin 79 = .ok (.getfield 290, 3) := by decide +kernel
theorem dX14_begin_82 : decode cX14_begin 82 = .ok (.bipush 10, 2) := by decide +kernel
theorem dX14_begin_84 : decode cX14_begin 84 = .ok (.iload_n 2, 1) := by decide +kernel
theorem dX14_begin_85 : decode cX14_begin 85 = .ok (.imul, 1) := by decide +kernel
theorem dX14_begin_86 : decode cX14_begin 86 = .ok (.iload_n 3, 1) := by decide +kernel
theorem dX14_begin_87 : decode cX14_begin 87 = .ok (.iadd, 1) := by decide +kernel
theorem dX14_begin_88 : decode cX14_begin 88 = .ok (.iaload, 1) := by decide +kernel
theorem dX14_begin_89 : decode cX14_begin 89 = .ok (.istore 4, 2) := by decide +kernel
theorem dX14_begin_91 : decode cX14_begin 91 = .ok (.iconst 0, 1) := by decide +kernel
theorem dX14_begin_92 : decode cX14_begin 92 = .ok (.istore 5, 2) := by decide +kernel
theorem dX14_begin_94 : decode cX14_begin 94 = .ok (.iload 5, 2) := by decide +kernel
theorem dX14_begin_96 : decode cX14_begin 96 = .ok (.iload 4, 2) := by decide +kernel
theorem dX14_begin_98 : decode cX14_begin 98 = .ok (.if_icmp .ge 50, 3) := by decide +kernel
theorem dX14_begin_101 : decode cX14_begin 101 = .ok (.aload_n 0, 1) := by decide +kernel
theorem dX14_begin_102 : decode cX14_begin 102 = .ok (.getfield 45, 3) := by decide +kernel
theorem dX14_begin_105 : decode cX14_begin 105 = .ok (.bipush 24, 2) := by decide +kernel
theorem dX14_begin_107 : decode cX14_begin 107 = .ok (.iload_n 1, 1) := by decide +kernel
theorem dX14_begin_108 : decode cX14_begin 108 = .ok (.imul, 1) := by decide +kernel
theorem dX14_begin_109 : decode cX14_begin 109 = .ok (.aload_n 0, 1) := by decide +kernel
theorem dX14_begin_110 : decode cX14_begin 110 = .ok (.getfield 19, 3) := by decide +kernel
theorem dX14_begin_113 : decode cX14_begin 113 = .ok (.getfield 416, 3) := by decide +kernel
theorem dX14_begin_116 : decode cX14_begin 116 = .ok (.bipush 10, 2) := by decide +kernel
theorem dX14_begin_118 : decode cX14_begin 118 = .ok (.iload_n 2, 1) := by decide +kernel
theorem dX14_begin_119 : decode cX14_begin 119 = .ok (.imul, 1) := by decide +kernel
theorem dX14_begin_120 : decode cX14_begin 120 = .ok (.iload_n 3, 1) := by decide +kernel
theorem dX14_begin_121 : decode cX14_begin 121 = .ok (.iadd, 1) := by decide +kernel
theorem dX14_begin_122 : decode cX14_begin 122 = .ok (.iaload, 1) := by decide +kernel
theorem dX14_begin_123 : decode cX14_begin 123 = .ok (.iadd, 1) := by decide +kernel
theorem dX14_begin_124 : decode cX14_begin 124 = .ok (.iload 5, 2) := by decide +kernel
theorem dX14_begin_126 : decode cX14_begin 126 = .ok (.iadd, 1) := by decide +kernel
theorem dX14_begin_127 : decode cX14_begin 127 = .ok (.aload_n 0, 1) := by decide +kernel
theorem dX14_begin_128 : decode cX14_begin 128 = .ok (.getfield 19, 3) := by decide +kernel
theorem dX14_begin_131 : decode cX14_begin 131 = .ok (.getfield 404, 3) := by decide +kernel
theorem dX14_begin_134 : decode cX14_begin 134 = .ok (.bipush 10, 2) := by decide +kernel
theorem dX14_begin_136 : decode cX14_begin 136 = .ok (.iload_n 2, 1) := by decide +kernel
theorem dX14_begin_137 : decode cX14_begin 137 = .ok (.imul, 1) := by decide +kernel
theorem dX14_begin_138 : decode cX14_begin 138 = .ok (.iload_n 3, 1) := by decide +kernel
theorem dX14_begin_139 : decode cX14_begin 139 = .ok (.iadd, 1) := by decide +kernel
theorem dX14_begin_140 : decode cX14_begin 140 = .ok (.iaload, 1) := by decide +kernel
theorem dX14_begin_141 : decode cX14_begin 141 = .ok (.iastore, 1) := by decide +kernel
theorem dX14_begin_142 : decode cX14_begin 142 = .ok (.iinc 5 1, 3) := by decide +kernel
theorem dX14_begin_145 : decode cX14_begin 145 = .ok (.goto (-51), 3) := by decide +kernel
theorem dX14_begin_148 : decode cX14_begin 148 = .ok (.iinc 3 1, 3) := by decide +kernel
theorem dX14_begin_151 : decode cX14_begin 151 = .ok (.goto (-110), 3) := by decide +kernel
theorem dX14_begin_154 : decode cX14_begin 154 = .ok (.return_, 1) := by decide +kernel
theorem dX14_makes_0 : decode cX14_makes 0 = .ok (.aload_n 0, 1) := by decide +kernel
theorem dX14_makes_1 : decode cX14_makes 1 = .ok (.getfield 621, 3) := by decide +kernel
theorem dX14_makes_4 : decode cX14_makes 4 = .ok (.istore_n 2, 1) := by decide +kernel
theorem dX14_makes_5 : decode cX14_makes 5 = .ok (.aload_n 0, 1) := by decide +kernel
theorem dX14_makes_6 : decode cX14_makes 6 = .ok (.getfield 69, 3) := by decide +kernel
theorem dX14_makes_9 : decode cX14_makes 9 = .ok (.iconst 3, 1) := by decide +kernel
theorem dX14_makes_10 : decode cX14_makes 10 = .ok (.iload_n 1, 1) := by decide +kernel
theorem dX14_makes_11 : decode cX14_makes 11 = .ok (.imul, 1) := by decide +kernel
theorem dX14_makes_12 : decode cX14_makes 12 = .ok (.iaload, 1) := by decide +kernel
theorem dX14_makes_13 : decode cX14_makes 13 = .ok (.istore_n 3, 1) := by decide +kernel
theorem dX14_makes_14 : decode cX14_makes 14 = .ok (.aload_n 0, 1) := by decide +kernel
theorem dX14_makes_15 : decode cX14_makes 15 = .ok (.iload_n 2, 1) := by decide +kernel
theorem dX14_makes_16 : decode cX14_makes 16 = .ok (.iload_n 3, 1) := by decide +kernel
theorem dX14_makes_17 : decode cX14_makes 17 = .ok (.invokevirtual 632, 3) := by decide +kernel
theorem dX14_makes_20 : decode cX14_makes 20 = .ok (.aload_n 0, 1) := by decide +kernel
theorem dX14_makes_21 : decode cX14_makes 21 = .ok (.iconst 3, 1) := by decide +kernel
theorem dX14_makes_22 : decode cX14_makes 22 = .ok (.iload_n 2, 1) := by decide +kernel
theorem dX14_makes_23 : decode cX14_makes 23 = .ok (.iadd, 1) := by decide +kernel
theorem dX14_makes_24 : decode cX14_makes 24 = .ok (.aload_n 0, 1) := by decide +kernel
theorem dX14_makes_25 : decode cX14_makes 25 = .ok (.getfield 19, 3) := by decide +kernel
theorem dX14_makes_28 : decode cX14_makes 28 = .ok (.getfield 508, 3) := by decide +kernel
theorem dX14_makes_31 : decode cX14_makes 31 = .ok (.iload_n 3, 1) := by decide +kernel
theorem dX14_makes_32 : decode cX14_makes 32 = .ok (.iaload, 1) := by decide +kernel
theorem dX14_makes_33 : decode cX14_makes 33 = .ok (.invokevirtual 632, 3) := by decide +kernel
theorem dX14_makes_36 : decode cX14_makes 36 = .ok (.aload_n 0, 1) := by decide +kernel
theorem dX14_makes_37 : decode cX14_makes 37 = .ok (.dup, 1) := by decide +kernel
theorem dX14_makes_38 : decode cX14_makes 38 = .ok (.getfield 621, 3) := by decide +kernel
theorem dX14_makes_41 : decode cX14_makes 41 = .ok (.iconst 1, 1) := by decide +kernel
theorem dX14_makes_42 : decode cX14_makes 42 = .ok (.iadd, 1) := by decide +kernel
theorem dX14_makes_43 : decode cX14_makes 43 = .ok (.putfield 621, 3) := by decide +kernel
theorem dX14_makes_46 : decode cX14_makes 46 = .ok (.aload_n 0, 1) := by decide +kernel
theorem dX14_makes_47 : decode cX14_makes 47 = .ok (.getfield 75, 3) := by decide +kernel
theorem dX14_makes_50 : decode cX14_makes 50 = .ok (.iload_n 1, 1) := by decide +kernel
theorem dX14_makes_51 : decode cX14_makes 51 = .ok (.iconst 1, 1) := by decide +kernel
theorem dX14_makes_52 : decode cX14_makes 52 = .ok (.iastore, 1) := by decide +kernel
theorem dX14_makes_53 : decode cX14_makes 53 = .ok (.aload_n 0, 1) := by decide +kernel
theorem dX14_makes_54 : decode cX14_makes 54 = .ok (.iload_n 2, 1) := by decide +kernel
theorem dX14_makes_55 : decode cX14_makes 55 = .ok (.invokevirtual 635, 3) := by decide +kernel
theorem dX14_makes_58 : decode cX14_makes 58 = .ok (.ireturn, 1) := by decide +kernel
theorem dX14_isNeeded_0 : decode cX14_isNeeded 0 = .ok (.aload_n 0, 1) := by decide +kernel
theorem dX14_isNeeded_1 : decode cX14_isNeeded 1 = .ok (.getfield 41, 3) := by decide +kernel
theorem dX14_isNeeded_4 : decode cX14_isNeeded 4 = .ok (.iload_n 2, 1) := by decide +kernel
theorem dX14_isNeeded_5 : decode cX14_isNeeded 5 = .ok (.iaload, 1) := by decide +kernel
theorem dX14_isNeeded_6 : decode cX14_isNeeded 6 = .ok (.istore 4, 2) := by decide +kernel
theorem dX14_isNeeded_8 : decode cX14_isNeeded 8 = .ok (.iload 4, 2) := by decide +kernel
theorem dX14_isNeeded_10 : decode cX14_isNeeded 10 = .ok (.iconst (-1), 1) := by decide +kernel
theorem dX14_isNeeded_11 : decode cX14_isNeeded 11 = .ok (.if_icmp .eq 132, 3) := by decide +kernel
theorem dX14_isNeeded_14 : decode cX14_isNeeded 14 = .ok (.aload_n 0, 1) := by decide +kernel
theorem dX14_isNeeded_15 : decode cX14_isNeeded 15 = .ok (.iload 4, 2) := by decide +kernel
theorem dX14_isNeeded_17 : decode cX14_isNeeded 17 = .ok (.iload_n 1, 1) := by decide +kernel
theorem dX14_isNeeded_18 : decode cX14_isNeeded 18 = .ok (.invokevirtual 638, 3) := by decide +kernel
theorem dX14_isNeeded_21 : decode cX14_isNeeded 21 = .ok (.istore 5, 2) := by decide +kernel
theorem dX14_isNeeded_23 : decode cX14_isNeeded 23 = .ok (.iload 5, 2) := by decide +kernel
theorem dX14_isNeeded_25 : decode cX14_isNeeded 25 = .ok (.iconst (-1), 1) := by decide +kernel
theorem dX14_isNeeded_26 : decode cX14_isNeeded 26 = .ok (.if_icmp .ne 6, 3) := by decide +kernel
theorem dX14_isNeeded_29 : decode cX14_isNeeded 29 = .ok (.goto 99, 3) := by decide +kernel
theorem dX14_isNeeded_32 : decode cX14_isNeeded 32 = .ok (.iconst 1, 1) := by decide +kernel
theorem dX14_isNeeded_33 : decode cX14_isNeeded 33 = .ok (.istore 6, 2) := by decide +kernel
theorem dX14_isNeeded_35 : decode cX14_isNeeded 35 = .ok (.bipush 8, 2) := by decide +kernel
theorem dX14_isNeeded_37 : decode cX14_isNeeded 37 = .ok (.iload 5, 2) := by decide +kernel
theorem dX14_isNeeded_39 : decode cX14_isNeeded 39 = .ok (.imul, 1) := by decide +kernel
theorem dX14_isNeeded_40 : decode cX14_isNeeded 40 = .ok (.istore 7, 2) := by decide +kernel
theorem dX14_isNeeded_42 : decode cX14_isNeeded 42 = .ok (.iload 7, 2) := by decide +kernel
theorem dX14_isNeeded_44 : decode cX14_isNeeded 44 = .ok (.bipush 8, 2) := by decide +kernel
theorem dX14_isNeeded_46 : decode cX14_isNeeded 46 = .ok (.iload 5, 2) := by decide +kernel
theorem dX14_isNeeded_48 : decode cX14_isNeeded 48 = .ok (.imul, 1) := by decide +kernel
theorem dX14_isNeeded_49 : decode cX14_isNeeded 49 = .ok (.aload_n 0, 1) := by decide +kernel
theorem dX14_isNeeded_50 : decode cX14_isNeeded 50 = .ok (.getfield 19, 3) := by decide +kernel
theorem dX14_isNeeded_53 : decode cX14_isNeeded 53 = .ok (.getfield 428, 3) := by decide +kernel
theorem dX14_isNeeded_56 : decode cX14_isNeeded 56 = .ok (.iload 5, 2) := by decide +kernel
theorem dX14_isNeeded_58 : decode cX14_isNeeded 58 = .ok (.iaload, 1) := by decide +kernel
theorem dX14_isNeeded_59 : decode cX14_isNeeded 59 = .ok (.iadd, 1) := by decide +kernel
theorem dX14_isNeeded_60 : decode cX14_isNeeded 60 = .ok (.if_icmp .ge 60, 3) := by decide +kernel
theorem dX14_isNeeded_63 : decode cX14_isNeeded 63 = .ok (.iload 6, 2) := by decide +kernel
theorem dX14_isNeeded_65 : decode cX14_isNeeded 65 = .ok (.iconst 1, 1) := by decide +kernel
theorem dX14_isNeeded_66 : decode cX14_isNeeded 66 = .ok (.if_icmp .ne 54, 3) := by decide +kernel
theorem dX14_isNeeded_69 : decode cX14_isNeeded 69 = .ok (.aload_n 0, 1) := by decide +kernel
theorem dX14_isNeeded_70 : decode cX14_isNeeded 70 = .ok (.getfield 19, 3) := by decide +kernel
theorem dX14_isNeeded_73 : decode cX14_isNeeded 73 = .ok (.getfield 431, 3) := by decide +kernel
theorem dX14_isNeeded_76 : decode cX14_isNeeded 76 = .ok (.iload 7, 2) := by decide +kernel
theorem dX14_isNeeded_78 : decode cX14_isNeeded 78 = .ok (.iaload, 1) := by decide +kernel
theorem dX14_isNeeded_79 : decode cX14_isNeeded 79 = .ok (.iconst 1, 1) := by decide +kernel
theorem dX14_isNeeded_80 : decode cX14_isNeeded 80 = .ok (.if_icmp .ne 34, 3) := by decide +kernel
theorem dX14_isNeeded_83 : decode cX14_isNeeded 83 = .ok (.aload_n 0, 1) := by decide +kernel
theorem dX14_isNeeded_84 : decode cX14_isNeeded 84 = .ok (.aload_n 0, 1) := by decide +kernel
theorem dX14_isNeeded_85 : decode cX14_isNeeded 85 = .ok (.getfield 19, 3) := by decide +kernel
theorem dX14_isNeeded_88 : decode cX14_isNeeded 88 = .ok (.getfield 438, 3) := by decide +kernel
theorem dX14_isNeeded_91 : decode cX14_isNeeded 91 = .ok (.iload 7, 2) := by decide +kernel
theorem dX14_isNeeded_93 : decode cX14_isNeeded 93 = .ok (.iaload, 1) := by decide +kernel
theorem dX14_isNeeded_94 : decode cX14_isNeeded 94 = .ok (.aload_n 0, 1) := by decide +kernel
theorem dX14_isNeeded_95 : decode cX14_isNeeded 95 = .ok (.getfield 19, 3) := by decide +kernel
theorem dX14_isNeeded_98 : decode cX14_isNeeded 98 = .ok (.getfield 441, 3) := by decide +kernel
theorem dX14_isNeeded_101 : decode cX14_isNeeded 101 = .ok (.iload 7, 2) := by decide +kernel
theorem dX14_isNeeded_103 : decode cX14_isNeeded 103 = .ok (.iaload, 1) := by decide +kernel
theorem dX14_isNeeded_104 : decode cX14_isNeeded 104 = .ok (.iload 4, 2) := by decide +kernel
theorem dX14_isNeeded_106 : decode cX14_isNeeded 106 = .ok (.iload_n 2, 1) := by decide +kernel
theorem dX14_isNeeded_107 : decode cX14_isNeeded 107 = .ok (.iconst 1, 1) := by decide +kernel
theorem dX14_isNeeded_108 : decode cX14_isNeeded 108 = .ok (.iload_n 3, 1) := by decide +kernel
theorem dX14_isNeeded_109 : decode cX14_isNeeded 109 = .ok (.invokevirtual 628, 3) := by decide +kernel
theorem dX14_isNeeded_112 : decode cX14_isNeeded 112 = .ok (.istore 6, 2) := by decide +kernel
theorem dX14_isNeeded_114 : decode cX14_isNeeded 114 = .ok (.iinc 7 1, 3) := by decide +kernel
theorem dX14_isNeeded_117 : decode cX14_isNeeded 117 = .ok (.goto (-75), 3) := by decide +kernel
theorem dX14_isNeeded_120 : decode cX14_isNeeded 120 = .ok (.iload 6, 2) := by decide +kernel
theorem dX14_isNeeded_122 : decode cX14_isNeeded 122 = .ok (.ifCond .eq 6, 3) := by decide +kernel
theorem dX14_isNeeded_125 : decode cX14_isNeeded 125 = .ok (.iload 6, 2) := by decide +kernel
theorem dX14_isNeeded_127 : decode cX14_isNeeded 127 = .ok (.ireturn, 1) := by decide +kernel
theorem dX14_isNeeded_128 : decode cX14_isNeeded 128 = .ok (.aload_n 0, 1) := by decide +kernel
theorem dX14_isNeeded_129 : decode cX14_isNeeded 129 = .ok (.getfield 19, 3) := by decide +kernel
theorem dX14_isNeeded_132 : decode cX14_isNeeded 132 = .ok (.getfield 297, 3) := by decide +kernel
theorem dX14_isNeeded_135 : decode cX14_isNeeded 135 = .ok (.iload 4, 2) := by decide +kernel
theorem dX14_isNeeded_137 : decode cX14_isNeeded 137 = .ok (.iaload, 1) := by decide +kernel
theorem dX14_isNeeded_138 : decode cX14_isNeeded 138 = .ok (.istore 4, 2) := by decide +kernel
theorem dX14_isNeeded_140 : decode cX14_isNeeded 140 = .ok (.goto (-132), 3) := by decide +kernel
theorem dX14_isNeeded_143 : decode cX14_isNeeded 143 = .ok (.iconst 0, 1) := by decide +kernel
theorem dX14_isNeeded_144 : decode cX14_isNeeded 144 = .ok (.ireturn, 1) := by decide +kernel
theorem dX14_mayThrow_0 : decode cX14_mayThrow 0 = .ok (.aload_n 0, 1) := by decide +kernel
theorem dX14_mayThrow_1 : decode cX14_mayThrow 1 = .ok (.getfield 41, 3) := by decide +kernel
theorem dX14_mayThrow_4 : decode cX14_mayThrow 4 = .ok (.iload_n 2, 1) := by decide +kernel
theorem dX14_mayThrow_5 : decode cX14_mayThrow 5 = .ok (.iaload, 1) := by decide +kernel
theorem dX14_mayThrow_6 : decode cX14_mayThrow 6 = .ok (.istore 8, 2) := by decide +kernel
theorem dX14_mayThrow_8 : decode cX14_mayThrow 8 = .ok (.iload 8, 2) := by decide +kernel
theorem dX14_mayThrow_10 : decode cX14_mayThrow 10 = .ok (.iconst (-1), 1) := by decide +kernel
theorem dX14_mayThrow_11 : decode cX14_mayThrow 11 = .ok (.if_icmp .eq 176, 3) := by decide +kernel
theorem dX14_mayThrow_14 : decode cX14_mayThrow 14 = .ok (.aload_n 0, 1) := by decide +kernel
theorem dX14_mayThrow_15 : decode cX14_mayThrow 15 = .ok (.iload 8, 2) := by decide +kernel
theorem dX14_mayThrow_17 : decode cX14_mayThrow 17 = .ok (.iload_n 1, 1) := by decide +kernel
theorem dX14_mayThrow_18 : decode cX14_mayThrow 18 = .ok (.invokevirtual 638, 3) := by decide +kernel
theorem dX14_mayThrow_21 : decode cX14_mayThrow 21 = .ok (.istore 9, 2) := by decide +kernel
theorem dX14_mayThrow_23 : decode cX14_mayThrow 23 = .ok (.iload 9, 2) := by decide +kernel
theorem dX14_mayThrow_25 : decode cX14_mayThrow 25 = .ok (.iconst (-1), 1) := by decide +kernel
theorem dX14_mayThrow_26 : decode cX14_mayThrow 26 = .ok (.if_icmp .ne 6, 3) := by decide +kernel
theorem dX14_mayThrow_29 : decode cX14_mayThrow 29 = .ok (.goto 143, 3) := by decide +kernel
theorem dX14_mayThrow_32 : decode cX14_mayThrow 32 = .ok (.bipush 8, 2) := by decide +kernel
theorem dX14_mayThrow_34 : decode cX14_mayThrow 34 = .ok (.iload 9, 2) := by decide +kernel
theorem dX14_mayThrow_36 : decode cX14_mayThrow 36 = .ok (.imul, 1) := by decide +kernel
theorem dX14_mayThrow_37 : decode cX14_mayThrow 37 = .ok (.istore 10, 2) := by decide +kernel
theorem dX14_mayThrow_39 : decode cX14_mayThrow 39 = .ok (.iload 10, 2) := by decide +kernel
theorem dX14_mayThrow_41 : decode cX14_mayThrow 41 = .ok (.bipush 8, 2) := by decide +kernel
theorem dX14_mayThrow_43 : decode cX14_mayThrow 43 = .ok (.iload 9, 2) := by decide +kernel
theorem dX14_mayThrow_45 : decode cX14_mayThrow 45 = .ok (.imul, 1) := by decide +kernel
theorem dX14_mayThrow_46 : decode cX14_mayThrow 46 = .ok (.aload_n 0, 1) := by decide +kernel
theorem dX14_mayThrow_47 : decode cX14_mayThrow 47 = .ok (.getfield 19, 3) := by decide +kernel
theorem dX14_mayThrow_50 : decode cX14_mayThrow 50 = .ok (.getfield 428, 3) := by decide +kernel
theorem dX14_mayThrow_53 : decode cX14_mayThrow 53 = .ok (.iload 9, 2) := by decide +kernel
theorem dX14_mayThrow_55 : decode cX14_mayThrow 55 = .ok (.iaload, 1) := by decide +kernel
theorem dX14_mayThrow_56 : decode cX14_mayThrow 56 = .ok (.iadd, 1) := by decide +kernel
theorem dX14_mayThrow_57 : decode cX14_mayThrow 57 = .ok (.if_icmp .ge 115, 3) := by decide +kernel
theorem dX14_mayThrow_60 : decode cX14_mayThrow 60 = .ok (.aload_n 0, 1) := by decide +kernel
theorem dX14_mayThrow_61 : decode cX14_mayThrow 61 = .ok (.getfield 19, 3) := by decide +kernel
theorem dX14_mayThrow_64 : decode cX14_mayThrow 64 = .ok (.getfield 431, 3) := by decide +kernel
theorem dX14_mayThrow_67 : decode cX14_mayThrow 67 = .ok (.iload 10, 2) := by decide +kernel
theorem dX14_mayThrow_69 : decode cX14_mayThrow 69 = .ok (.iaload, 1) := by decide +kernel
theorem dX14_mayThrow_70 : decode cX14_mayThrow 70 = .ok (.iconst 5, 1) := by decide +kernel
theorem dX14_mayThrow_71 : decode cX14_mayThrow 71 = .ok (.if_icmp .ne 95, 3) := by decide +kernel
theorem dX14_mayThrow_74 : decode cX14_mayThrow 74 = .ok (.aload_n 0, 1) := by decide +kernel
theorem dX14_mayThrow_75 : decode cX14_mayThrow 75 = .ok (.getfield 19, 3) := by decide +kernel
theorem dX14_mayThrow_78 : decode cX14_mayThrow 78 = .ok (.getfield 447, 3) := by decide +kernel
theorem dX14_mayThrow_81 : decode cX14_mayThrow 81 = .ok (.iload 10, 2) := by decide +kernel
theorem dX14_mayThrow_83 : decode cX14_mayThrow 83 = .ok (.laload, 1) := by decide +kernel
theorem dX14_mayThrow_84 : decode cX14_mayThrow 84 = .ok (.lload 4, 2) := by decide +kernel
theorem dX14_mayThrow_86 : decode cX14_mayThrow 86 = .ok (.lcmp, 1) := by decide +kernel
theorem dX14_mayThrow_87 : decode cX14_mayThrow 87 = .ok (.ifCond .ne 79, 3) := by decide +kernel
theorem dX14_mayThrow_90 : decode cX14_mayThrow 90 = .ok (.aload_n 0, 1) := by decide +kernel
theorem dX14_mayThrow_91 : decode cX14_mayThrow 91 = .ok (.getfield 19, 3) := by decide +kernel
theorem dX14_mayThrow_94 : decode cX14_mayThrow 94 = .ok (.getfield 450, 3) := by decide +kernel
theorem dX14_mayThrow_97 : decode cX14_mayThrow 97 = .ok (.iload 10, 2) := by decide +kernel
theorem dX14_mayThrow_99 : decode cX14_mayThrow 99 = .ok (.laload, 1) := by decide +kernel
theorem dX14_mayThrow_100 : decode cX14_mayThrow 100 = .ok (.lload 6, 2) := by decide +kernel
theorem dX14_mayThrow_102 : decode cX14_mayThrow 102 = .ok (.lcmp, 1) := by decide +kernel
theorem dX14_mayThrow_103 : decode cX14_mayThrow 103 = .ok (.ifCond .eq 6, 3) := by decide +kernel
theorem dX14_mayThrow_106 : decode cX14_mayThrow 106 = .ok (.goto 60, 3) := by decide +kernel
theorem dX14_mayThrow_109 : decode cX14_mayThrow 109 = .ok (.aload_n 0, 1) := by decide +kernel
theorem dX14_mayThrow_110 : decode cX14_mayThrow 110 = .ok (.getfield 19, 3) := by decide +kernel
theorem dX14_mayThrow_113 : decode cX14_mayThrow 113 = .ok (.getfield 438, 3) := by decide +kernel
theorem dX14_mayThrow_116 : decode cX14_mayThrow 116 = .ok (.iload 10, 2) := by decide +kernel
theorem dX14_mayThrow_118 : decode cX14_mayThrow 118 = .ok (.iaload, 1) := by decide +kernel
theorem dX14_mayThrow_119 : decode cX14_mayThrow 119 = .ok (.iconst (-1), 1) := by decide +kernel
theorem dX14_mayThrow_120 : decode cX14_mayThrow 120 = .ok (.if_icmp .ne 7, 3) := by decide +kernel
theorem dX14_mayThrow_123 : decode cX14_mayThrow 123 = .ok (.iconst 1, 1) := by decide +kernel
theorem dX14_mayThrow_124 : decode cX14_mayThrow 124 = .ok (.goto 32, 3) := by decide +kernel
theorem dX14_mayThrow_127 : decode cX14_mayThrow 127 = .ok (.aload_n 0, 1) := by decide +kernel
theorem dX14_mayThrow_128 : decode cX14_mayThrow 128 = .ok (.aload_n 0, 1) := by decide +kernel
theorem dX14_mayThrow_129 : decode cX14_mayThrow 129 = .ok (.getfield 19, 3) := by decide +kernel
theorem dX14_mayThrow_132 : decode cX14_mayThrow 132 = .ok (.getfield 438, 3) := by decide +kernel
theorem dX14_mayThrow_135 : decode cX14_mayThrow 135 = .ok (.iload 10, 2) := by decide +kernel
theorem dX14_mayThrow_137 : decode cX14_mayThrow 137 = .ok (.iaload, 1) := by decide +kernel
theorem dX14_mayThrow_138 : decode cX14_mayThrow 138 = .ok (.aload_n 0, 1) := by decide +kernel
theorem dX14_mayThrow_139 : decode cX14_mayThrow 139 = .ok (.getfield 19, 3) := by decide +kernel
theorem dX14_mayThrow_142 : decode cX14_mayThrow 142 = .ok (.getfield 441, 3) := by decide +kernel
theorem dX14_mayThrow_145 : decode cX14_mayThrow 145 = .ok (.iload 10, 2) := by decide +kernel
theorem dX14_mayThrow_147 : decode cX14_mayThrow 147 = .ok (.iaload, 1) := by decide +kernel
theorem dX14_mayThrow_148 : decode cX14_mayThrow 148 = .ok (.iload 8, 2) := by decide +kernel
theorem dX14_mayThrow_150 : decode cX14_mayThrow 150 = .ok (.iload_n 2, 1) := by decide +kernel
theorem dX14_mayThrow_151 : decode cX14_mayThrow 151 = .ok (.iconst 4, 1) := by decide +kernel
theorem dX14_mayThrow_152 : decode cX14_mayThrow 152 = .ok (.iload_n 3, 1) := by decide +kernel
theorem dX14_mayThrow_153 : decode cX14_mayThrow 153 = .ok (.invokevirtual 628, 3) := by decide +kernel
theorem dX14_mayThrow_156 : decode cX14_mayThrow 156 = .ok (.istore 11, 2) := by decide +kernel
theorem dX14_mayThrow_158 : decode cX14_mayThrow 158 = .ok (.iload 11, 2) := by decide +kernel
theorem dX14_mayThrow_160 : decode cX14_mayThrow 160 = .ok (.ifCond .eq 6, 3) := by decide +kernel
theorem dX14_mayThrow_163 : decode cX14_mayThrow 163 = .ok (.iload 11, 2) := by decide +kernel
theorem dX14_mayThrow_165 : decode cX14_mayThrow 165 = .ok (.ireturn, 1) := by decide +kernel
theorem dX14_mayThrow_166 : decode cX14_mayThrow 166 = .ok (.iinc 10 1, 3) := by decide +kernel
theorem dX14_mayThrow_169 : decode cX14_mayThrow 169 = .ok (.goto (-130), 3) := by decide +kernel
theorem dX14_mayThrow_172 : decode cX14_mayThrow 172 = .ok (.aload_n 0, 1) := by decide +kernel
theorem dX14_mayThrow_173 : decode cX14_mayThrow 173 = .ok (.getfield 19, 3) := by decide +kernel
theorem dX14_mayThrow_176 : decode cX14_mayThrow 176 = .ok (.getfield 297, 3) := by decide +kernel
theorem dX14_mayThrow_179 : decode cX14_mayThrow 179 = .ok (.iload 8, 2) := by decide +kernel
theorem dX14_mayThrow_181 : decode cX14_mayThrow 181 = .ok (.iaload, 1) := by decide +kernel
theorem dX14_mayThrow_182 : decode cX14_mayThrow 182 = .ok (.istore 8, 2) := by decide +kernel
theorem dX14_mayThrow_184 : decode cX14_mayThrow 184 = .ok (.goto (-176), 3) := by decide +kernel
theorem dX14_mayThrow_187 : decode cX14_mayThrow 187 = .ok (.iconst 0, 1) := by decide +kernel
theorem dX14_mayThrow_188 : decode cX14_mayThrow 188 = .ok (.ireturn, 1) := by decide +kernel
theorem dX14_fieldAt_0 : decode cX14_fieldAt 0 = .ok (.iconst 0, 1) := by decide +kernel
theorem dX14_fieldAt_1 : decode cX14_fieldAt 1 = .ok (.istore_n 3, 1) := by decide +kernel
theorem dX14_fieldAt_2 : decode cX14_fieldAt 2 = .ok (.iload_n 3, 1) := by decide +kernel
theorem dX14_fieldAt_3 : decode cX14_fieldAt 3 = .ok (.iconst 1, 1) := by decide +kernel
theorem dX14_fieldAt_4 : decode cX14_fieldAt 4 = .ok (.iadd, 1) := by decide +kernel
theorem dX14_fieldAt_5 : decode cX14_fieldAt 5 = .ok (.aload_n 0, 1) := by decide +kernel
theorem dX14_fieldAt_6 : decode cX14_fieldAt 6 = .ok (.getfield 19, 3) := by decide +kernel
theorem dX14_fieldAt_9 : decode cX14_fieldAt 9 = .ok (.getfield 390, 3) := by decide +kernel
theorem dX14_fieldAt_12 : decode cX14_fieldAt 12 = .ok (.iload_n 1, 1) := by decide +kernel
theorem dX14_fieldAt_13 : decode cX14_fieldAt 13 = .ok (.iaload, 1) := by decide +kernel
theorem dX14_fieldAt_14 : decode cX14_fieldAt 14 = .ok (.if_icmp .ge 29, 3) := by decide +kernel
theorem dX14_fieldAt_17 : decode cX14_fieldAt 17 = .ok (.aload_n 0, 1) := by decide +kernel
theorem dX14_fieldAt_18 : decode cX14_fieldAt 18 = .ok (.getfield 19, 3) := by decide +kernel
theorem dX14_fieldAt_21 : decode cX14_fieldAt 21 = .ok (.getfield 416, 3) := by decide +kernel
theorem dX14_fieldAt_24 : decode cX14_fieldAt 24 = .ok (.bipush 10, 2) := by decide +kernel
theorem dX14_fieldAt_26 : decode cX14_fieldAt 26 = .ok (.iload_n 1, 1) := by decide +kernel
theorem dX14_fieldAt_27 : decode cX14_fieldAt 27 = .ok (.imul, 1) := by decide +kernel
theorem dX14_fieldAt_28 : decode cX14_fieldAt 28 = .ok (.iload_n 3, 1) := by decide +kernel
theorem dX14_fieldAt_29 : decode cX14_fieldAt 29 = .ok (.iadd, 1) := by decide +kernel
theorem dX14_fieldAt_30 : decode cX14_fieldAt 30 = .ok (.iconst 1, 1) := by decide +kernel
theorem dX14_fieldAt_31 : decode cX14_fieldAt 31 = .ok (.iadd, 1) := by decide +kernel
theorem dX14_fieldAt_32 : decode cX14_fieldAt 32 = .ok (.iaload, 1) := by decide +kernel
theorem dX14_fieldAt_33 : decode cX14_fieldAt 33 = .ok (.iload_n 2, 1) := by decide +kernel
theorem dX14_fieldAt_34 : decode cX14_fieldAt 34 = .ok (.if_icmp .gt 9, 3) := by decide +kernel
theorem dX14_fieldAt_37 : decode cX14_fieldAt 37 = .ok (.iinc 3 1, 3) := by decide +kernel
theorem dX14_fieldAt_40 : decode cX14_fieldAt 40 = .ok (.goto (-38), 3) := by decide +kernel
theorem dX14_fieldAt_43 : decode cX14_fieldAt 43 = .ok (.iload_n 3, 1) := by decide +kernel
theorem dX14_fieldAt_44 : decode cX14_fieldAt 44 = .ok (.ireturn, 1) := by decide +kernel
theorem dX14_mayChange_0 : decode cX14_mayChange 0 = .ok (.iload_n 2, 1) := by decide +kernel
theorem dX14_mayChange_1 : decode cX14_mayChange 1 = .ok (.istore 4, 2) := by decide +kernel
theorem dX14_mayChange_3 : decode cX14_mayChange 3 = .ok (.iload 4, 2) := by decide +kernel
theorem dX14_mayChange_5 : decode cX14_mayChange 5 = .ok (.iconst (-1), 1) := by decide +kernel
theorem dX14_mayChange_6 : decode cX14_mayChange 6 = .ok (.if_icmp .eq 104, 3) := by decide +kernel
theorem dX14_mayChange_9 : decode cX14_mayChange 9 = .ok (.aload_n 0, 1) := by decide +kernel
theorem dX14_mayChange_10 : decode cX14_mayChange 10 = .ok (.iload 4, 2) := by decide +kernel
theorem dX14_mayChange_12 : decode cX14_mayChange 12 = .ok (.iload_n 1, 1) := by decide +kernel
theorem dX14_mayChange_13 : decode cX14_mayChange 13 = .ok (.invokevirtual 638, 3) := by decide +kernel
theorem dX14_mayChange_16 : decode cX14_mayChange 16 = .ok (.istore 5, 2) := by decide +kernel
theorem dX14_mayChange_18 : decode cX14_mayChange 18 = .ok (.iload 5, 2) := by decide +kernel
theorem dX14_mayChange_20 : decode cX14_mayChange 20 = .ok (.iconst (-1), 1) := by decide +kernel
theorem dX14_mayChange_21 : decode cX14_mayChange 21 = .ok (.if_icmp .ne 6, 3) := by decide +kernel
theorem dX14_mayChange_24 : decode cX14_mayChange 24 = .ok (.goto 71, 3) := by decide +kernel
theorem dX14_mayChange_27 : decode cX14_mayChange 27 = .ok (.bipush 8, 2) := by decide +kernel
theorem dX14_mayChange_29 : decode cX14_mayChange 29 = .ok (.iload 5, 2) := by decide +kernel
theorem dX14_mayChange_31 : decode cX14_mayChange 31 = .ok (.imul, 1) := by decide +kernel
theorem dX14_mayChange_32 : decode cX14_mayChange 32 = .ok (.istore 6, 2) := by decide +kernel
theorem dX14_mayChange_34 : decode cX14_mayChange 34 = .ok (.iload 6, 2) := by decide +kernel
theorem dX14_mayChange_36 : decode cX14_mayChange 36 = .ok (.bipush 8, 2) := by decide +kernel
theorem dX14_mayChange_38 : decode cX14_mayChange 38 = .ok (.iload 5, 2) := by decide +kernel
theorem dX14_mayChange_40 : decode cX14_mayChange 40 = .ok (.imul, 1) := by decide +kernel
theorem dX14_mayChange_41 : decode cX14_mayChange 41 = .ok (.aload_n 0, 1) := by decide +kernel
theorem dX14_mayChange_42 : decode cX14_mayChange 42 = .ok (.getfield 19, 3) := by decide +kernel
theorem dX14_mayChange_45 : decode cX14_mayChange 45 = .ok (.getfield 428, 3) := by decide +kernel
theorem dX14_mayChange_48 : decode cX14_mayChange 48 = .ok (.iload 5, 2) := by decide +kernel
theorem dX14_mayChange_50 : decode cX14_mayChange 50 = .ok (.iaload, 1) := by decide +kernel
theorem dX14_mayChange_51 : decode cX14_mayChange 51 = .ok (.iadd, 1) := by decide +kernel
theorem dX14_mayChange_52 : decode cX14_mayChange 52 = .ok (.if_icmp .ge 43, 3) := by decide +kernel
theorem dX14_mayChange_55 : decode cX14_mayChange 55 = .ok (.aload_n 0, 1) := by decide +kernel
theorem dX14_mayChange_56 : decode cX14_mayChange 56 = .ok (.getfield 19, 3) := by decide +kernel
theorem dX14_mayChange_59 : decode cX14_mayChange 59 = .ok (.getfield 431, 3) := by decide +kernel
theorem dX14_mayChange_62 : decode cX14_mayChange 62 = .ok (.iload 6, 2) := by decide +kernel
theorem dX14_mayChange_64 : decode cX14_mayChange 64 = .ok (.iaload, 1) := by decide +kernel
theorem dX14_mayChange_65 : decode cX14_mayChange 65 = .ok (.bipush 6, 2) := by decide +kernel
theorem dX14_mayChange_67 : decode cX14_mayChange 67 = .ok (.if_icmp .ne 22, 3) := by decide +kernel
theorem dX14_mayChange_70 : decode cX14_mayChange 70 = .ok (.aload_n 0, 1) := by decide +kernel
theorem dX14_mayChange_71 : decode cX14_mayChange 71 = .ok (.getfield 19, 3) := by decide +kernel
theorem dX14_mayChange_74 : decode cX14_mayChange 74 = .ok (.getfield 444, 3) := by decide +kernel
theorem dX14_mayChange_77 : decode cX14_mayChange 77 = .ok (.iload 6, 2) := by decide +kernel
theorem dX14_mayChange_79 : decode cX14_mayChange 79 = .ok (.iaload, 1) := by decide +kernel
theorem dX14_mayChange_80 : decode cX14_mayChange 80 = .ok (.iload_n 3, 1) := by decide +kernel
theorem dX14_mayChange_81 : decode cX14_mayChange 81 = .ok (.ishr, 1) := by decide +kernel
theorem dX14_mayChange_82 : decode cX14_mayChange 82 = .ok (.iconst 1, 1) := by decide +kernel
theorem dX14_mayChange_83 : decode cX14_mayChange 83 = .ok (.iand, 1) := by decide +kernel
theorem dX14_mayChange_84 : decode cX14_mayChange 84 = .ok (.ifCond .ne 5, 3) := by decide +kernel
theorem dX14_mayChange_87 : decode cX14_mayChange 87 = .ok (.iconst 0, 1) := by decide +kernel
theorem dX14_mayChange_88 : decode cX14_mayChange 88 = .ok (.ireturn, 1) := by decide +kernel
theorem dX14_mayChange_89 : decode cX14_mayChange 89 = .ok (.iinc 6 1, 3) := by decide +kernel
theorem dX14_mayChange_92 : decode cX14_mayChange 92 = .ok (.goto (-58), 3) := by decide +kernel
theorem dX14_mayChange_95 : decode cX14_mayChange 95 = .ok (.aload_n 0, 1) := by decide +kernel
theorem dX14_mayChange_96 : decode cX14_mayChange 96 = .ok (.getfield 19, 3) := by decide +kernel
theorem dX14_mayChange_99 : decode cX14_mayChange 99 = .ok (.getfield 297, 3) := by decide +kernel
theorem dX14_mayChange_102 : decode cX14_mayChange 102 = .ok (.iload 4, 2) := by decide +kernel
theorem dX14_mayChange_104 : decode cX14_mayChange 104 = .ok (.iaload, 1) := by decide +kernel
theorem dX14_mayChange_105 : decode cX14_mayChange 105 = .ok (.istore 4, 2) := by decide +kernel
theorem dX14_mayChange_107 : decode cX14_mayChange 107 = .ok (.goto (-104), 3) := by decide +kernel
theorem dX14_mayChange_110 : decode cX14_mayChange 110 = .ok (.iconst 1, 1) := by decide +kernel
theorem dX14_mayChange_111 : decode cX14_mayChange 111 = .ok (.ireturn, 1) := by decide +kernel
theorem dX14_changes_0 : decode cX14_changes 0 = .ok (.aload_n 0, 1) := by decide +kernel
theorem dX14_changes_1 : decode cX14_changes 1 = .ok (.getfield 41, 3) := by decide +kernel
theorem dX14_changes_4 : decode cX14_changes 4 = .ok (.iload_n 2, 1) := by decide +kernel
theorem dX14_changes_5 : decode cX14_changes 5 = .ok (.iaload, 1) := by decide +kernel
theorem dX14_changes_6 : decode cX14_changes 6 = .ok (.istore_n 3, 1) := by decide +kernel
theorem dX14_changes_7 : decode cX14_changes 7 = .ok (.iconst (-1), 1) := by decide +kernel
theorem dX14_changes_8 : decode cX14_changes 8 = .ok (.istore 4, 2) := by decide +kernel
theorem dX14_changes_10 : decode cX14_changes 10 = .ok (.aload_n 0, 1) := by decide +kernel
theorem dX14_changes_11 : decode cX14_changes 11 = .ok (.getfield 19, 3) := by decide +kernel
theorem dX14_changes_14 : decode cX14_changes 14 = .ok (.getfield 399, 3) := by decide +kernel
theorem dX14_changes_17 : decode cX14_changes 17 = .ok (.iload_n 3, 1) := by decide +kernel
theorem dX14_changes_18 : decode cX14_changes 18 = .ok (.iaload, 1) := by decide +kernel
theorem dX14_changes_19 : decode cX14_changes 19 = .ok (.iconst 1, 1) := by decide +kernel
theorem dX14_changes_20 : decode cX14_changes 20 = .ok (.isub, 1) := by decide +kernel
theorem dX14_changes_21 : decode cX14_changes 21 = .ok (.istore 5, 2) := by decide +kernel
theorem dX14_changes_23 : decode cX14_changes 23 = .ok (.iload 5, 2) := by decide +kernel
theorem dX14_changes_25 : decode cX14_changes 25 = .ok (.ifCond .lt 35, 3) := by decide +kernel
theorem dX14_changes_28 : decode cX14_changes 28 = .ok (.aload_n 0, 1) := by decide +kernel
theorem dX14_changes_29 : decode cX14_changes 29 = .ok (.getfield 45, 3) := by decide +kernel
theorem dX14_changes_32 : decode cX14_changes 32 = .ok (.bipush 24, 2) := by decide +kernel
theorem dX14_changes_34 : decode cX14_changes 34 = .ok (.iload_n 2, 1) := by decide +kernel
theorem dX14_changes_35 : decode cX14_changes 35 = .ok (.imul, 1) := by decide +kernel
theorem dX14_changes_36 : decode cX14_changes 36 = .ok (.iload 5, 2) := by decide +kernel
theorem dX14_changes_38 : decode cX14_changes 38 = .ok (.iadd, 1) := by decide +kernel
theorem dX14_changes_39 : decode cX14_changes 39 = .ok (.iaload, 1) := by decide +kernel
theorem dX14_changes_40 : decode cX14_changes 40 = .ok (.aload_n 0, 1) := by decide +kernel
theorem dX14_changes_41 : decode cX14_changes 41 = .ok (.getfield 48, 3) := by decide +kernel
theorem dX14_changes_44 : decode cX14_changes 44 = .ok (.iload 5, 2) := by decide +kernel
theorem dX14_changes_46 : decode cX14_changes 46 = .ok (.iaload, 1) := by decide +kernel
theorem dX14_changes_47 : decode cX14_changes 47 = .ok (.if_icmp .eq 7, 3) := by decide +kernel
theorem dX14_changes_50 : decode cX14_changes 50 = .ok (.iload 5, 2) := by decide +kernel
theorem dX14_changes_52 : decode cX14_changes 52 = .ok (.istore 4, 2) := by decide +kernel
theorem dX14_changes_54 : decode cX14_changes 54 = .ok (.iinc 5 (-1), 3) := by decide +kernel
theorem dX14_changes_57 : decode cX14_changes 57 = .ok (.goto (-34), 3) := by decide +kernel
theorem dX14_changes_60 : decode cX14_changes 60 = .ok (.iload 4, 2) := by decide +kernel
theorem dX14_changes_62 : decode cX14_changes 62 = .ok (.iconst (-1), 1) := by decide +kernel
theorem dX14_changes_63 : decode cX14_changes 63 = .ok (.if_icmp .ne 5, 3) := by decide +kernel
theorem dX14_changes_66 : decode cX14_changes 66 = .ok (.iconst 0, 1) := by decide +kernel
theorem dX14_changes_67 : decode cX14_changes 67 = .ok (.ireturn, 1) := by decide +kernel
theorem dX14_changes_68 : decode cX14_changes 68 = .ok (.aload_n 0, 1) := by decide +kernel
theorem dX14_changes_69 : decode cX14_changes 69 = .ok (.getfield 84, 3) := by decide +kernel
theorem dX14_changes_72 : decode cX14_changes 72 = .ok (.iconst 0, 1) := by decide +kernel
theorem dX14_changes_73 : decode cX14_changes 73 = .ok (.iload_n 2, 1) := by decide +kernel
theorem dX14_changes_74 : decode cX14_changes 74 = .ok (.iastore, 1) := by decide +kernel
theorem dX14_changes_75 : decode cX14_changes 75 = .ok (.aload_n 0, 1) := by decide +kernel
theorem dX14_changes_76 : decode cX14_changes 76 = .ok (.getfield 84, 3) := by decide +kernel
theorem dX14_changes_79 : decode cX14_changes 79 = .ok (.iconst 1, 1) := by decide +kernel
theorem dX14_changes_80 : decode cX14_changes 80 = .ok (.iload 4, 2) := by decide +kernel
theorem dX14_changes_82 : decode cX14_changes 82 = .ok (.iastore, 1) := by decide +kernel
theorem dX14_changes_83 : decode cX14_changes 83 = .ok (.aload_n 0, 1) := by decide +kernel
theorem dX14_changes_84 : decode cX14_changes 84 = .ok (.getfield 19, 3) := by decide +kernel
theorem dX14_changes_87 : decode cX14_changes 87 = .ok (.getfield 306, 3) := by decide +kernel
theorem dX14_changes_90 : decode cX14_changes 90 = .ok (.iload_n 1, 1) := by decide +kernel
theorem dX14_changes_91 : decode cX14_changes 91 = .ok (.baload, 1) := by decide +kernel
theorem dX14_changes_92 : decode cX14_changes 92 = .ok (.ifCond .eq 5, 3) := by decide +kernel
theorem dX14_changes_95 : decode cX14_changes 95 = .ok (.iconst 5, 1) := by decide +kernel
theorem dX14_changes_96 : decode cX14_changes 96 = .ok (.ireturn, 1) := by decide +kernel
theorem dX14_changes_97 : decode cX14_changes 97 = .ok (.iload 4, 2) := by decide +kernel
theorem dX14_changes_99 : decode cX14_changes 99 = .ok (.istore 5, 2) := by decide +kernel
theorem dX14_changes_101 : decode cX14_changes 101 = .ok (.iload 5, 2) := by decide +kernel
theorem dX14_changes_103 : decode cX14_changes 103 = .ok (.aload_n 0, 1) := by decide +kernel
theorem dX14_changes_104 : decode cX14_changes 104 = .ok (.getfield 19, 3) := by decide +kernel
theorem dX14_changes_107 : decode cX14_changes 107 = .ok (.getfield 399, 3) := by decide +kernel
theorem dX14_changes_110 : decode cX14_changes 110 = .ok (.iload_n 3, 1) := by decide +kernel
theorem dX14_changes_111 : decode cX14_changes 111 = .ok (.iaload, 1) := by decide +kernel
theorem dX14_changes_112 : decode cX14_changes 112 = .ok (.if_icmp .ge 60, 3) := by decide +kernel
theorem dX14_changes_115 : decode cX14_changes 115 = .ok (.aload_n 0, 1) := by decide +kernel
theorem dX14_changes_116 : decode cX14_changes 116 = .ok (.getfield 45, 3) := by decide +kernel
theorem dX14_changes_119 : decode cX14_changes 119 = .ok (.bipush 24, 2) := by decide +kernel
theorem dX14_changes_121 : decode cX14_changes 121 = .ok (.iload_n 2, 1) := by decide +kernel
theorem dX14_changes_122 : decode cX14_changes 122 = .ok (.imul, 1) := by decide +kernel
theorem dX14_changes_123 : decode cX14_changes 123 = .ok (.iload 5, 2) := by decide +kernel
theorem dX14_changes_125 : decode cX14_changes 125 = .ok (.iadd, 1) := by decide +kernel
theorem dX14_changes_126 : decode cX14_changes 126 = .ok (.iaload, 1) := by decide +kernel
theorem dX14_changes_127 : decode cX14_changes 127 = .ok (.aload_n 0, 1) := by decide +kernel
theorem dX14_changes_128 : decode cX14_changes 128 = .ok (.getfield 48, 3) := by decide +kernel
theorem dX14_changes_131 : decode cX14_changes 131 = .ok (.iload 5, 2) := by decide +kernel
theorem dX14_changes_133 : decode cX14_changes 133 = .ok (.iaload, 1) := by decide +kernel
theorem dX14_changes_134 : decode cX14_changes 134 = .ok (.if_icmp .eq 32, 3) := by decide +kernel
theorem dX14_changes_137 : decode cX14_changes 137 = .ok (.aload_n 0, 1) := by decide +kernel
theorem dX14_changes_138 : decode cX14_changes 138 = .ok (.iload_n 1, 1) := by decide +kernel
theorem dX14_changes_139 : decode cX14_changes 139 = .ok (.iload_n 3, 1) := by decide +kernel
theorem dX14_changes_140 : decode cX14_changes 140 = .ok (.aload_n 0, 1) := by decide +kernel
theorem dX14_changes_141 : decode cX14_changes 141 = .ok (.iload_n 3, 1) := by decide +kernel
theorem dX14_changes_142 : decode cX14_changes 142 = .ok (.iload 5, 2) := by decide +kernel
theorem dX14_changes_144 : decode cX14_changes 144 = .ok (.invokevirtual 641, 3) := by decide +kernel
theorem dX14_changes_147 : decode cX14_changes 147 = .ok (.invokevirtual 644, 3) := by decide +kernel
theorem dX14_changes_150 : decode cX14_changes 150 = .ok (.ifCond .eq 6, 3) := by decide +kernel
theorem dX14_changes_153 : decode cX14_changes 153 = .ok (.goto 13, 3) := by decide +kernel
theorem dX14_changes_156 : decode cX14_changes 156 = .ok (.aload_n 0, 1) := by decide +kernel
theorem dX14_changes_157 : decode cX14_changes 157 = .ok (.getfield 84, 3) := by decide +kernel
theorem dX14_changes_160 : decode cX14_changes 160 = .ok (.iconst 1, 1) := by decide +kernel
theorem dX14_changes_161 : decode cX14_changes 161 = .ok (.iload 5, 2) := by decide +kernel
theorem dX14_changes_163 : decode cX14_changes 163 = .ok (.iastore, 1) := by decide +kernel
theorem dX14_changes_164 : decode cX14_changes 164 = .ok (.iconst 4, 1) := by decide +kernel
theorem dX14_changes_165 : decode cX14_changes 165 = .ok (.ireturn, 1) := by decide +kernel
theorem dX14_changes_166 : decode cX14_changes 166 = .ok (.iinc 5 1, 3) := by decide +kernel
theorem dX14_changes_169 : decode cX14_changes 169 = .ok (.goto (-68), 3) := by decide +kernel
theorem dX14_changes_172 : decode cX14_changes 172 = .ok (.aload_n 0, 1) := by decide +kernel
theorem dX14_changes_173 : decode cX14_changes 173 = .ok (.getfield 84, 3) := by decide +kernel
theorem dX14_changes_176 : decode cX14_changes 176 = .ok (.iconst 0, 1) := by decide +kernel
theorem dX14_changes_177 : decode cX14_changes 177 = .ok (.iconst (-1), 1) := by decide +kernel
theorem dX14_changes_178 : decode cX14_changes 178 = .ok (.iastore, 1) := by decide +kernel
theorem dX14_changes_179 : decode cX14_changes 179 = .ok (.aload_n 0, 1) := by decide +kernel
theorem dX14_changes_180 : decode cX14_changes 180 = .ok (.getfield 84, 3) := by decide +kernel
theorem dX14_changes_183 : decode cX14_changes 183 = .ok (.iconst 1, 1) := by decide +kernel
theorem dX14_changes_184 : decode cX14_changes 184 = .ok (.iconst (-1), 1) := by decide +kernel
theorem dX14_changes_185 : decode cX14_changes 185 = .ok (.iastore, 1) := by decide +kernel
theorem dX14_changes_186 : decode cX14_changes 186 = .ok (.iconst 0, 1) := by decide +kernel
theorem dX14_changes_187 : decode cX14_changes 187 = .ok (.ireturn, 1) := by decide +kernel
theorem dX14_gives_0 : decode cX14_gives 0 = .ok (.aload_n 0, 1) := by decide +kernel
theorem dX14_gives_1 : decode cX14_gives 1 = .ok (.getfield 41, 3) := by decide +kernel
theorem dX14_gives_4 : decode cX14_gives 4 = .ok (.iload_n 2, 1) := by decide +kernel
theorem dX14_gives_5 : decode cX14_gives 5 = .ok (.iaload, 1) := by decide +kernel
theorem dX14_gives_6 : decode cX14_gives 6 = .ok (.istore 4, 2) := by decide +kernel
theorem dX14_gives_8 : decode cX14_gives 8 = .ok (.iload 4, 2) := by decide +kernel
theorem dX14_gives_10 : decode cX14_gives 10 = .ok (.iconst (-1), 1) := by decide +kernel
theorem dX14_gives_11 : decode cX14_gives 11 = .ok (.if_icmp .eq 157, 3) := by decide +kernel
theorem dX14_gives_14 : decode cX14_gives 14 = .ok (.aload_n 0, 1) := by decide +kernel
theorem dX14_gives_15 : decode cX14_gives 15 = .ok (.iload 4, 2) := by decide +kernel
theorem dX14_gives_17 : decode cX14_gives 17 = .ok (.iload_n 1, 1) := by decide +kernel
theorem dX14_gives_18 : decode cX14_gives 18 = .ok (.invokevirtual 638, 3) := by decide +kernel
theorem dX14_gives_21 : decode cX14_gives 21 = .ok (.istore 5, 2) := by decide +kernel
theorem dX14_gives_23 : decode cX14_gives 23 = .ok (.iload 5, 2) := by decide +kernel
theorem dX14_gives_25 : decode cX14_gives 25 = .ok (.iconst (-1), 1) := by decide +kernel
theorem dX14_gives_26 : decode cX14_gives 26 = .ok (.if_icmp .ne 6, 3) := by decide +kernel
theorem dX14_gives_29 : decode cX14_gives 29 = .ok (.goto 124, 3) := by decide +kernel
theorem dX14_gives_32 : decode cX14_gives 32 = .ok (.bipush 8, 2) := by decide +kernel
theorem dX14_gives_34 : decode cX14_gives 34 = .ok (.iload 5, 2) := by decide +kernel
theorem dX14_gives_36 : decode cX14_gives 36 = .ok (.imul, 1) := by decide +kernel
theorem dX14_gives_37 : decode cX14_gives 37 = .ok (.istore 6, 2) := by decide +kernel
theorem dX14_gives_39 : decode cX14_gives 39 = .ok (.iload 6, 2) := by decide +kernel
theorem dX14_gives_41 : decode cX14_gives 41 = .ok (.bipush 8, 2) := by decide +kernel
theorem dX14_gives_43 : decode cX14_gives 43 = .ok (.iload 5, 2) := by decide +kernel
theorem dX14_gives_45 : decode cX14_gives 45 = .ok (.imul, 1) := by decide +kernel
theorem dX14_gives_46 : decode cX14_gives 46 = .ok (.aload_n 0, 1) := by decide +kernel
theorem dX14_gives_47 : decode cX14_gives 47 = .ok (.getfield 19, 3) := by decide +kernel
theorem dX14_gives_50 : decode cX14_gives 50 = .ok (.getfield 428, 3) := by decide +kernel
theorem dX14_gives_53 : decode cX14_gives 53 = .ok (.iload 5, 2) := by decide +kernel
theorem dX14_gives_55 : decode cX14_gives 55 = .ok (.iaload, 1) := by decide +kernel
theorem dX14_gives_56 : decode cX14_gives 56 = .ok (.iadd, 1) := by decide +kernel
theorem dX14_gives_57 : decode cX14_gives 57 = .ok (.if_icmp .ge 96, 3) := by decide +kernel
theorem dX14_gives_60 : decode cX14_gives 60 = .ok (.aload_n 0, 1) := by decide +kernel
theorem dX14_gives_61 : decode cX14_gives 61 = .ok (.getfield 19, 3) := by decide +kernel
theorem dX14_gives_64 : decode cX14_gives 64 = .ok (.getfield 431, 3) := by decide +kernel
theorem dX14_gives_67 : decode cX14_gives 67 = .ok (.iload 6, 2) := by decide +kernel
theorem dX14_gives_69 : decode cX14_gives 69 = .ok (.iaload, 1) := by decide +kernel
theorem dX14_gives_70 : decode cX14_gives 70 = .ok (.iconst 2, 1) := by decide +kernel
theorem dX14_gives_71 : decode cX14_gives 71 = .ok (.if_icmp .eq 6, 3) := by decide +kernel
theorem dX14_gives_74 : decode cX14_gives 74 = .ok (.goto 73, 3) := by decide +kernel
theorem dX14_gives_77 : decode cX14_gives 77 = .ok (.aload_n 0, 1) := by decide +kernel
theorem dX14_gives_78 : decode cX14_gives 78 = .ok (.aload_n 0, 1) := by decide +kernel
theorem dX14_gives_79 : decode cX14_gives 79 = .ok (.getfield 19, 3) := by decide +kernel
theorem dX14_gives_82 : decode cX14_gives 82 = .ok (.getfield 438, 3) := by decide +kernel
theorem dX14_gives_85 : decode cX14_gives 85 = .ok (.iload 6, 2) := by decide +kernel
theorem dX14_gives_87 : decode cX14_gives 87 = .ok (.iaload, 1) := by decide +kernel
theorem dX14_gives_88 : decode cX14_gives 88 = .ok (.aload_n 0, 1) := by decide +kernel
theorem dX14_gives_89 : decode cX14_gives 89 = .ok (.getfield 19, 3) := by decide +kernel
theorem dX14_gives_92 : decode cX14_gives 92 = .ok (.getfield 441, 3) := by decide +kernel
theorem dX14_gives_95 : decode cX14_gives 95 = .ok (.iload 6, 2) := by decide +kernel
theorem dX14_gives_97 : decode cX14_gives 97 = .ok (.iaload, 1) := by decide +kernel
theorem dX14_gives_98 : decode cX14_gives 98 = .ok (.iload 4, 2) := by decide +kernel
theorem dX14_gives_100 : decode cX14_gives 100 = .ok (.iload_n 2, 1) := by decide +kernel
theorem dX14_gives_101 : decode cX14_gives 101 = .ok (.iconst 2, 1) := by decide +kernel
theorem dX14_gives_102 : decode cX14_gives 102 = .ok (.iload_n 3, 1) := by decide +kernel
theorem dX14_gives_103 : decode cX14_gives 103 = .ok (.invokevirtual 628, 3) := by decide +kernel
theorem dX14_gives_106 : decode cX14_gives 106 = .ok (.istore 7, 2) := by decide +kernel
theorem dX14_gives_108 : decode cX14_gives 108 = .ok (.iload 7, 2) := by decide +kernel
theorem dX14_gives_110 : decode cX14_gives 110 = .ok (.iconst 1, 1) := by decide +kernel
theorem dX14_gives_111 : decode cX14_gives 111 = .ok (.if_icmp .ne 6, 3) := by decide +kernel
theorem dX14_gives_114 : decode cX14_gives 114 = .ok (.goto 33, 3) := by decide +kernel
theorem dX14_gives_117 : decode cX14_gives 117 = .ok (.iload 7, 2) := by decide +kernel
theorem dX14_gives_119 : decode cX14_gives 119 = .ok (.ifCond .ne 26, 3) := by decide +kernel
theorem dX14_gives_122 : decode cX14_gives 122 = .ok (.aload_n 0, 1) := by decide +kernel
theorem dX14_gives_123 : decode cX14_gives 123 = .ok (.iconst 1, 1) := by decide +kernel
theorem dX14_gives_124 : decode cX14_gives 124 = .ok (.putfield 618, 3) := by decide +kernel
theorem dX14_gives_127 : decode cX14_gives 127 = .ok (.aload_n 0, 1) := by decide +kernel
theorem dX14_gives_128 : decode cX14_gives 128 = .ok (.iload 4, 2) := by decide +kernel
theorem dX14_gives_130 : decode cX14_gives 130 = .ok (.iload_n 2, 1) := by decide +kernel
theorem dX14_gives_131 : decode cX14_gives 131 = .ok (.aload_n 0, 1) := by decide +kernel
theorem dX14_gives_132 : decode cX14_gives 132 = .ok (.getfield 19, 3) := by decide +kernel
theorem dX14_gives_135 : decode cX14_gives 135 = .ok (.getfield 441, 3) := by decide +kernel
theorem dX14_gives_138 : decode cX14_gives 138 = .ok (.iload 6, 2) := by decide +kernel
theorem dX14_gives_140 : decode cX14_gives 140 = .ok (.iaload, 1) := by decide +kernel
theorem dX14_gives_141 : decode cX14_gives 141 = .ok (.iconst 2, 1) := by decide +kernel
theorem dX14_gives_142 : decode cX14_gives 142 = .ok (.invokevirtual 624, 3) := by decide +kernel
theorem dX14_gives_145 : decode cX14_gives 145 = .ok (.iconst 0, 1) := by decide +kernel
theorem dX14_gives_146 : decode cX14_gives 146 = .ok (.ireturn, 1) := by decide +kernel
theorem dX14_gives_147 : decode cX14_gives 147 = .ok (.iinc 6 1, 3) := by decide +kernel
theorem dX14_gives_150 : decode cX14_gives 150 = .ok (.goto (-111), 3) := by decide +kernel
theorem dX14_gives_153 : decode cX14_gives 153 = .ok (.aload_n 0, 1) := by decide +kernel
theorem dX14_gives_154 : decode cX14_gives 154 = .ok (.getfield 19, 3) := by decide +kernel
theorem dX14_gives_157 : decode cX14_gives 157 = .ok (.getfield 297, 3) := by decide +kernel
theorem dX14_gives_160 : decode cX14_gives 160 = .ok (.iload 4, 2) := by decide +kernel
theorem dX14_gives_162 : decode cX14_gives 162 = .ok (.iaload, 1) := by decide +kernel
theorem dX14_gives_163 : decode cX14_gives 163 = .ok (.istore 4, 2) := by decide +kernel
theorem dX14_gives_165 : decode cX14_gives 165 = .ok (.goto (-157), 3) := by decide +kernel
theorem dX14_gives_168 : decode cX14_gives 168 = .ok (.iconst 1, 1) := by decide +kernel
theorem dX14_gives_169 : decode cX14_gives 169 = .ok (.ireturn, 1) := by decide +kernel
theorem dX14_calls_0 : decode cX14_calls 0 = .ok (.aload_n 0, 1) := by decide +kernel
theorem dX14_calls_1 : decode cX14_calls 1 = .ok (.iconst 0, 1) := by decide +kernel
theorem dX14_calls_2 : decode cX14_calls 2 = .ok (.putfield 564, 3) := by decide +kernel
theorem dX14_calls_5 : decode cX14_calls 5 = .ok (.aload_n 0, 1) := by decide +kernel
theorem dX14_calls_6 : decode cX14_calls 6 = .ok (.iconst 0, 1) := by decide +kernel
theorem dX14_calls_7 : decode cX14_calls 7 = .ok (.putfield 567, 3) := by decide +kernel
theorem dX14_calls_10 : decode cX14_calls 10 = .ok (.iconst 0, 1) := by decide +kernel
theorem dX14_calls_11 : decode cX14_calls 11 = .ok (.istore 4, 2) := by decide +kernel
theorem dX14_calls_13 : decode cX14_calls 13 = .ok (.iload 4, 2) := by decide +kernel
theorem dX14_calls_15 : decode cX14_calls 15 = .ok (.iconst 3, 1) := by decide +kernel
theorem dX14_calls_16 : decode cX14_calls 16 = .ok (.if_icmp .ge 29, 3) := by decide +kernel
theorem dX14_calls_19 : decode cX14_calls 19 = .ok (.aload_n 0, 1) := by decide +kernel
theorem dX14_calls_20 : decode cX14_calls 20 = .ok (.getfield 51, 3) := by decide +kernel
theorem dX14_calls_23 : decode cX14_calls 23 = .ok (.iconst 3, 1) := by decide +kernel
theorem dX14_calls_24 : decode cX14_calls 24 = .ok (.iload 4, 2) := by decide +kernel
theorem dX14_calls_26 : decode cX14_calls 26 = .ok (.iadd, 1) := by decide +kernel
theorem dX14_calls_27 : decode cX14_calls 27 = .ok (.aload_n 0, 1) := by decide +kernel
theorem dX14_calls_28 : decode cX14_calls 28 = .ok (.getfield 69, 3) := by decide +kernel
theorem dX14_calls_31 : decode cX14_calls 31 = .ok (.iconst 3, 1) := by decide +kernel
theorem dX14_calls_32 : decode cX14_calls 32 = .ok (.iload_n 3, 1) := by decide +kernel
theorem dX14_calls_33 : decode cX14_calls 33 = .ok (.imul, 1) := by decide +kernel
theorem dX14_calls_34 : decode cX14_calls 34 = .ok (.iload 4, 2) := by decide +kernel
theorem dX14_calls_36 : decode cX14_calls 36 = .ok (.iadd, 1) := by decide +kernel
theorem dX14_calls_37 : decode cX14_calls 37 = .ok (.iaload, 1) := by decide +kernel
theorem dX14_calls_38 : decode cX14_calls 38 = .ok (.iastore, 1) := by decide +kernel
theorem dX14_calls_39 : decode cX14_calls 39 = .ok (.iinc 4 1, 3) := by decide +kernel
theorem dX14_calls_42 : decode cX14_calls 42 = .ok (.goto (-29), 3) := by decide +kernel
theorem dX14_calls_45 : decode cX14_calls 45 = .ok (.aload_n 0, 1) := by decide +kernel
theorem dX14_calls_46 : decode cX14_calls 46 = .ok (.aload_n 0, 1) := by decide +kernel
theorem dX14_calls_47 : decode cX14_calls 47 = .ok (.iload_n 1, 1) := by decide +kernel
theorem dX14_calls_48 : decode cX14_calls 48 = .ok (.iload_n 2, 1) := by decide +kernel
theorem dX14_calls_49 : decode cX14_calls 49 = .ok (.invokevirtual 607, 3) := by decide +kernel
theorem dX14_calls_52 : decode cX14_calls 52 = .ok (.putfield 613, 3) := by decide +kernel
theorem dX14_calls_55 : decode cX14_calls 55 = .ok (.iconst 1, 1) := by decide +kernel
theorem dX14_calls_56 : decode cX14_calls 56 = .ok (.ireturn, 1) := by decide +kernel
theorem dX14_calls_57 : decode cX14_calls 57 = .ok (.astore 4, 2) := by decide +kernel
theorem dX14_calls_59 : decode cX14_calls 59 = .ok (.aload_n 0, 1) := by decide +kernel
theorem dX14_calls_60 : decode cX14_calls 60 = .ok (.iconst 0, 1) := by decide +kernel
theorem dX14_calls_61 : decode cX14_calls 61 = .ok (.putfield 613, 3) := by decide +kernel
theorem dX14_calls_64 : decode cX14_calls 64 = .ok (.aload_n 0, 1) := by decide +kernel
theorem dX14_calls_65 : decode cX14_calls 65 = .ok (.getfield 547, 3) := by decide +kernel
theorem dX14_calls_68 : decode cX14_calls 68 = .ok (.iconst 2, 1) := by decide +kernel
theorem dX14_calls_69 : decode cX14_calls 69 = .ok (.if_icmp .ne 7, 3) := by decide +kernel
theorem dX14_calls_72 : decode cX14_calls 72 = .ok (.iconst 3, 1) := by decide +kernel
theorem dX14_calls_73 : decode cX14_calls 73 = .ok (.goto 4, 3) := by decide +kernel
theorem dX14_calls_76 : decode cX14_calls 76 = .ok (.iconst 2, 1) := by decide +kernel
theorem dX14_calls_77 : decode cX14_calls 77 = .ok (.ireturn, 1) := by decide +kernel
theorem dX14_likeModel_0 : decode cX14_likeModel 0 = .ok (.aload_n 0, 1) := by decide +kernel
theorem dX14_likeModel_1 : decode cX14_likeModel 1 = .ok (.getfield 41, 3) := by decide +kernel
theorem dX14_likeModel_4 : decode cX14_likeModel 4 = .ok (.iconst 3, 1) := by decide +kernel
theorem dX14_likeModel_5 : decode cX14_likeModel 5 = .ok (.iload_n 2, 1) := by decide +kernel
theorem dX14_likeModel_6 : decode cX14_likeModel 6 = .ok (.iadd, 1) := by decide +kernel
theorem dX14_likeModel_7 : decode cX14_likeModel 7 = .ok (.iaload, 1) := by decide +kernel
theorem dX14_likeModel_8 : decode cX14_likeModel 8 = .ok (.istore 10, 2) := by decide +kernel
theorem dX14_likeModel_10 : decode cX14_likeModel 10 = .ok (.iload 10, 2) := by decide +kernel
theorem dX14_likeModel_12 : decode cX14_likeModel 12 = .ok (.iconst (-1), 1) := by decide +kernel
theorem dX14_likeModel_13 : decode cX14_likeModel 13 = .ok (.if_icmp .ne 5, 3) := by decide +kernel
theorem dX14_likeModel_16 : decode cX14_likeModel 16 = .ok (.iconst 1, 1) := by decide +kernel
theorem dX14_likeModel_17 : decode cX14_likeModel 17 = .ok (.ireturn, 1) := by decide +kernel
theorem dX14_likeModel_18 : decode cX14_likeModel 18 = .ok (.aload_n 0, 1) := by decide +kernel
theorem dX14_likeModel_19 : decode cX14_likeModel 19 = .ok (.getfield 19, 3) := by decide +kernel
theorem dX14_likeModel_22 : decode cX14_likeModel 22 = .ok (.iload 10, 2) := by decide +kernel
theorem dX14_likeModel_24 : decode cX14_likeModel 24 = .ok (.aload_n 0, 1) := by decide +kernel
theorem dX14_likeModel_25 : decode cX14_likeModel 25 = .ok (.getfield 19, 3) := by decide +kernel
theorem dX14_likeModel_28 : decode cX14_likeModel 28 = .ok (.getfield 462, 3) := by decide +kernel
theorem dX14_likeModel_31 : decode cX14_likeModel 31 = .ok (.iload_n 1, 1) := by decide +kernel
theorem dX14_likeModel_32 : decode cX14_likeModel 32 = .ok (.laload, 1) := by decide +kernel
theorem dX14_likeModel_33 : decode cX14_likeModel 33 = .ok (.aload_n 0, 1) := by decide +kernel
theorem dX14_likeModel_34 : decode cX14_likeModel 34 = .ok (.getfield 19, 3) := by decide +kernel
theorem dX14_likeModel_37 : decode cX14_likeModel 37 = .ok (.getfield 465, 3) := by decide +kernel
theorem dX14_likeModel_40 : decode cX14_likeModel 40 = .ok (.iload_n 1, 1) := by decide +kernel
theorem dX14_likeModel_41 : decode cX14_likeModel 41 = .ok (.laload, 1) := by decide +kernel
theorem dX14_likeModel_42 : decode cX14_likeModel 42 = .ok (.invokevirtual 300, 3) := by decide +kernel
theorem dX14_likeModel_45 : decode cX14_likeModel 45 = .ok (.istore 11, 2) := by decide +kernel
theorem dX14_likeModel_47 : decode cX14_likeModel 47 = .ok (.iload 11, 2) := by decide +kernel
theorem dX14_likeModel_49 : decode cX14_likeModel 49 = .ok (.iconst (-1), 1) := by decide +kernel
theorem dX14_likeModel_50 : decode cX14_likeModel 50 = .ok (.if_icmp .eq 25, 3) := by decide +kernel
theorem dX14_likeModel_53 : decode cX14_likeModel 53 = .ok (.aload_n 0, 1) := by decide +kernel
theorem dX14_likeModel_54 : decode cX14_likeModel 54 = .ok (.getfield 19, 3) := by decide +kernel
theorem dX14_likeModel_57 : decode cX14_likeModel 57 = .ok (.getfield 324, 3) := by decide +kernel
theorem dX14_likeModel_60 : decode cX14_likeModel 60 = .ok (.iload 11, 2) := by decide +kernel
theorem dX14_likeModel_62 : decode cX14_likeModel 62 = .ok (.iaload, 1) := by decide +kernel
theorem dX14_likeModel_63 : decode cX14_likeModel 63 = .ok (.aload_n 0, 1) := by decide +kernel
theorem dX14_likeModel_64 : decode cX14_likeModel 64 = .ok (.getfield 19, 3) := by decide +kernel
theorem dX14_likeModel_67 : decode cX14_likeModel 67 = .ok (.getfield 324, 3) := by decide +kernel
theorem dX14_likeModel_70 : decode cX14_likeModel 70 = .ok (.iload_n 1, 1) := by decide +kernel
theorem dX14_likeModel_71 : decode cX14_likeModel 71 = .ok (.iaload, 1) := by decide +kernel
theorem dX14_likeModel_72 : decode cX14_likeModel 72 = .ok (.if_icmp .eq 5, 3) := by decide +kernel
theorem dX14_likeModel_75 : decode cX14_likeModel 75 = .ok (.iconst 1, 1) := by decide +kernel
theorem dX14_likeModel_76 : decode cX14_likeModel 76 = .ok (.ireturn, 1) := by decide +kernel
theorem dX14_likeModel_77 : decode cX14_likeModel 77 = .ok (.aload_n 0, 1) := by decide +kernel
theorem dX14_likeModel_78 : decode cX14_likeModel 78 = .ok (.iload 11, 2) := by decide +kernel
theorem dX14_likeModel_80 : decode cX14_likeModel 80 = .ok (.iconst 3, 1) := by decide +kernel
theorem dX14_likeModel_81 : decode cX14_likeModel 81 = .ok (.iload_n 2, 1) := by decide +kernel
theorem dX14_likeModel_82 : decode cX14_likeModel 82 = .ok (.iadd, 1) := by decide +kernel
theorem dX14_likeModel_83 : decode cX14_likeModel 83 = .ok (.iload_n 3, 1) := by decide +kernel
theorem dX14_likeModel_84 : decode cX14_likeModel 84 = .ok (.invokevirtual 648, 3) := by decide +kernel
theorem dX14_likeModel_87 : decode cX14_likeModel 87 = .ok (.istore 12, 2) := by decide +kernel
theorem dX14_likeModel_89 : decode cX14_likeModel 89 = .ok (.iload 12, 2) := by decide +kernel
theorem dX14_likeModel_91 : decode cX14_likeModel 91 = .ok (.iload 4, 2) := by decide +kernel
theorem dX14_likeModel_93 : decode cX14_likeModel 93 = .ok (.if_icmp .eq 5, 3) := by decide +kernel
theorem dX14_likeModel_96 : decode cX14_likeModel 96 = .ok (.iconst 0, 1) := by decide +kernel
theorem dX14_likeModel_97 : decode cX14_likeModel 97 = .ok (.ireturn, 1) := by decide +kernel
theorem dX14_likeModel_98 : decode cX14_likeModel 98 = .ok (.iload 4, 2) := by decide +kernel
theorem dX14_likeModel_100 : decode cX14_likeModel 100 = .ok (.iconst 2, 1) := by decide +kernel
theorem dX14_likeModel_101 : decode cX14_likeModel 101 = .ok (.if_icmp .ne 31, 3) := by decide +kernel
theorem dX14_likeModel_104 : decode cX14_likeModel 104 = .ok (.aload_n 0, 1) := by decide +kernel
theorem dX14_likeModel_105 : decode cX14_likeModel 105 = .ok (.getfield 550, 3) := by decide +kernel
theorem dX14_likeModel_108 : decode cX14_likeModel 108 = .ok (.lload 6, 2) := by decide +kernel
theorem dX14_likeModel_110 : decode cX14_likeModel 110 = .ok (.lcmp, 1) := by decide +kernel
theorem dX14_likeModel_111 : decode cX14_likeModel 111 = .ok (.ifCond .ne 17, 3) := by decide +kernel
theorem dX14_likeModel_114 : decode cX14_likeModel 114 = .ok (.aload_n 0, 1) := by decide +kernel
theorem dX14_likeModel_115 : decode cX14_likeModel 115 = .ok (.getfield 553, 3) := by decide +kernel
theorem dX14_likeModel_118 : decode cX14_likeModel 118 = .ok (.lload 8, 2) := by decide +kernel
theorem dX14_likeModel_120 : decode cX14_likeModel 120 = .ok (.lcmp, 1) := by decide +kernel
theorem dX14_likeModel_121 : decode cX14_likeModel 121 = .ok (.ifCond .ne 7, 3) := by decide +kernel
theorem dX14_likeModel_124 : decode cX14_likeModel 124 = .ok (.iconst 1, 1) := by decide +kernel
theorem dX14_likeModel_125 : decode cX14_likeModel 125 = .ok (.goto 21, 3) := by decide +kernel
theorem dX14_likeModel_128 : decode cX14_likeModel 128 = .ok (.iconst 0, 1) := by decide +kernel
theorem dX14_likeModel_129 : decode cX14_likeModel 129 = .ok (.goto 17, 3) := by decide +kernel
theorem dX14_likeModel_132 : decode cX14_likeModel 132 = .ok (.aload_n 0, 1) := by decide +kernel
theorem dX14_likeModel_133 : decode cX14_likeModel 133 = .ok (.getfield 613, 3) := by decide +kernel
theorem dX14_likeModel_136 : decode cX14_likeModel 136 = .ok (.iload 5, 2) := by decide +kernel
theorem dX14_likeModel_138 : decode cX14_likeModel 138 = .ok (.if_icmp .ne 7, 3) := by decide +kernel
theorem dX14_likeModel_141 : decode cX14_likeModel 141 = .ok (.iconst 1, 1) := by decide +kernel
theorem dX14_likeModel_142 : decode cX14_likeModel 142 = .ok (.goto 4, 3) := by decide +kernel
theorem dX14_likeModel_145 : decode cX14_likeModel 145 = .ok (.iconst 0, 1) := by decide +kernel
theorem dX14_likeModel_146 : decode cX14_likeModel 146 = .ok (.ireturn, 1) := by decide +kernel
theorem dX14_does_0 : decode cX14_does 0 = .ok (.aload_n 0, 1) := by decide +kernel
theorem dX14_does_1 : decode cX14_does 1 = .ok (.getfield 63, 3) := by decide +kernel
theorem dX14_does_4 : decode cX14_does 4 = .ok (.iload_n 1, 1) := by decide +kernel
theorem dX14_does_5 : decode cX14_does 5 = .ok (.iaload, 1) := by decide +kernel
theorem dX14_does_6 : decode cX14_does 6 = .ok (.istore_n 2, 1) := by decide +kernel
theorem dX14_does_7 : decode cX14_does 7 = .ok (.aload_n 0, 1) := by decide +kernel
theorem dX14_does_8 : decode cX14_does 8 = .ok (.getfield 19, 3) := by decide +kernel
theorem dX14_does_11 : decode cX14_does 11 = .ok (.getfield 477, 3) := by decide +kernel
theorem dX14_does_14 : decode cX14_does 14 = .ok (.bipush 12, 2) := by decide +kernel
theorem dX14_does_16 : decode cX14_does 16 = .ok (.aload_n 0, 1) := by decide +kernel
theorem dX14_does_17 : decode cX14_does 17 = .ok (.getfield 41, 3) := by decide +kernel
theorem dX14_does_20 : decode cX14_does 20 = .ok (.iload_n 2, 1) := by decide +kernel
theorem dX14_does_21 : decode cX14_does 21 = .ok (.iaload, 1) := by decide +kernel
theorem dX14_does_22 : decode cX14_does 22 = .ok (.imul, 1) := by decide +kernel
theorem dX14_does_23 : decode cX14_does 23 = .ok (.aload_n 0, 1) := by decide +kernel
theorem dX14_does_24 : decode cX14_does 24 = .ok (.getfield 66, 3) := by decide +kernel
theorem dX14_does_27 : decode cX14_does 27 = .ok (.iload_n 1, 1) := by decide +kernel
theorem dX14_does_28 : decode cX14_does 28 = .ok (.iaload, 1) := by decide +kernel
theorem dX14_does_29 : decode cX14_does 29 = .ok (.iadd, 1) := by decide +kernel
theorem dX14_does_30 : decode cX14_does 30 = .ok (.iaload, 1) := by decide +kernel
theorem dX14_does_31 : decode cX14_does 31 = .ok (.istore_n 3, 1) := by decide +kernel
theorem dX14_does_32 : decode cX14_does 32 = .ok (.iconst 0, 1) := by decide +kernel
theorem dX14_does_33 : decode cX14_does 33 = .ok (.istore 4, 2) := by decide +kernel
theorem dX14_does_35 : decode cX14_does 35 = .ok (.iload 4, 2) := by decide +kernel
theorem dX14_does_37 : decode cX14_does 37 = .ok (.bipush 24, 2) := by decide +kernel
theorem dX14_does_39 : decode cX14_does 39 = .ok (.if_icmp .ge 28, 3) := by decide +kernel
theorem dX14_does_42 : decode cX14_does 42 = .ok (.aload_n 0, 1) := by decide +kernel
theorem dX14_does_43 : decode cX14_does 43 = .ok (.getfield 48, 3) := by decide +kernel
theorem dX14_does_46 : decode cX14_does 46 = .ok (.iload 4, 2) := by decide +kernel
theorem dX14_does_48 : decode cX14_does 48 = .ok (.aload_n 0, 1) := by decide +kernel
theorem dX14_does_49 : decode cX14_does 49 = .ok (.getfield 45, 3) := by decide +kernel
theorem dX14_does_52 : decode cX14_does 52 = .ok (.bipush 24, 2) := by decide +kernel
theorem dX14_does_54 : decode cX14_does 54 = .ok (.iload_n 2, 1) := by decide +kernel
theorem dX14_does_55 : decode cX14_does 55 = .ok (.imul, 1) := by decide +kernel
theorem dX14_does_56 : decode cX14_does 56 = .ok (.iload 4, 2) := by decide +kernel
theorem dX14_does_58 : decode cX14_does 58 = .ok (.iadd, 1) := by decide +kernel
theorem dX14_does_59 : decode cX14_does 59 = .ok (.iaload, 1) := by decide +kernel
theorem dX14_does_60 : decode cX14_does 60 = .ok (.iastore, 1) := by decide +kernel
theorem dX14_does_61 : decode cX14_does 61 = .ok (.iinc 4 1, 3) := by decide +kernel
theorem dX14_does_64 : decode cX14_does 64 = .ok (.goto (-29), 3) := by decide +kernel
theorem dX14_does_67 : decode cX14_does 67 = .ok (.aload_n 0, 1) := by decide +kernel
theorem dX14_does_68 : decode cX14_does 68 = .ok (.iload_n 3, 1) := by decide +kernel
theorem dX14_does_69 : decode cX14_does 69 = .ok (.iload_n 2, 1) := by decide +kernel
theorem dX14_does_70 : decode cX14_does 70 = .ok (.iload_n 1, 1) := by decide +kernel
theorem dX14_does_71 : decode cX14_does 71 = .ok (.invokevirtual 652, 3) := by decide +kernel
theorem dX14_does_74 : decode cX14_does 74 = .ok (.istore 4, 2) := by decide +kernel
theorem dX14_does_76 : decode cX14_does 76 = .ok (.iload 4, 2) := by decide +kernel
theorem dX14_does_78 : decode cX14_does 78 = .ok (.iconst 1, 1) := by decide +kernel
theorem dX14_does_79 : decode cX14_does 79 = .ok (.if_icmp .eq 15, 3) := by decide +kernel
theorem dX14_does_82 : decode cX14_does 82 = .ok (.iload 4, 2) := by decide +kernel
theorem dX14_does_84 : decode cX14_does 84 = .ok (.ifCond .ne 8, 3) := by decide +kernel
theorem dX14_does_87 : decode cX14_does 87 = .ok (.aload_n 0, 1) := by decide +kernel
theorem dX14_does_88 : decode cX14_does 88 = .ok (.iconst (-1), 1) := by decide +kernel
theorem dX14_does_89 : decode cX14_does 89 = .ok (.putfield 618, 3) := by decide +kernel
theorem dX14_does_92 : decode cX14_does 92 = .ok (.iconst 0, 1) := by decide +kernel
theorem dX14_does_93 : decode cX14_does 93 = .ok (.ireturn, 1) := by decide +kernel
theorem dX14_does_94 : decode cX14_does 94 = .ok (.aload_n 0, 1) := by decide +kernel
theorem dX14_does_95 : decode cX14_does 95 = .ok (.iload_n 3, 1) := by decide +kernel
theorem dX14_does_96 : decode cX14_does 96 = .ok (.iload_n 2, 1) := by decide +kernel
theorem dX14_does_97 : decode cX14_does 97 = .ok (.iload_n 1, 1) := by decide +kernel
theorem dX14_does_98 : decode cX14_does 98 = .ok (.invokevirtual 648, 3) := by decide +kernel
theorem dX14_does_101 : decode cX14_does 101 = .ok (.istore 5, 2) := by decide +kernel
theorem dX14_does_103 : decode cX14_does 103 = .ok (.aload_n 0, 1) := by decide +kernel
theorem dX14_does_104 : decode cX14_does 104 = .ok (.getfield 75, 3) := by decide +kernel
theorem dX14_does_107 : decode cX14_does 107 = .ok (.iload_n 1, 1) := by decide +kernel
theorem dX14_does_108 : decode cX14_does 108 = .ok (.iload 5, 2) := by decide +kernel
theorem dX14_does_110 : decode cX14_does 110 = .ok (.iconst 1, 1) := by decide +kernel
theorem dX14_does_111 : decode cX14_does 111 = .ok (.if_icmp .ne 7, 3) := by decide +kernel
theorem dX14_does_114 : decode cX14_does 114 = .ok (.iconst 1, 1) := by decide +kernel
theorem dX14_does_115 : decode cX14_does 115 = .ok (.goto 4, 3) := by decide +kernel
theorem dX14_does_118 : decode cX14_does 118 = .ok (.iconst 2, 1) := by decide +kernel
theorem dX14_does_119 : decode cX14_does 119 = .ok (.iastore, 1) := by decide +kernel
theorem dX14_does_120 : decode cX14_does 120 = .ok (.aload_n 0, 1) := by decide +kernel
theorem dX14_does_121 : decode cX14_does 121 = .ok (.getfield 72, 3) := by decide +kernel
theorem dX14_does_124 : decode cX14_does 124 = .ok (.iload_n 1, 1) := by decide +kernel
theorem dX14_does_125 : decode cX14_does 125 = .ok (.iload 5, 2) := by decide +kernel
theorem dX14_does_127 : decode cX14_does 127 = .ok (.iconst 1, 1) := by decide +kernel
theorem dX14_does_128 : decode cX14_does 128 = .ok (.if_icmp .ne 10, 3) := by decide +kernel
theorem dX14_does_131 : decode cX14_does 131 = .ok (.aload_n 0, 1) := by decide +kernel
theorem dX14_does_132 : decode cX14_does 132 = .ok (.getfield 613, 3) := by decide +kernel
theorem dX14_does_135 : decode cX14_does 135 = .ok (.goto 4, 3) := by decide +kernel
theorem dX14_does_138 : decode cX14_does 138 = .ok (.iconst 0, 1) := by decide +kernel
theorem dX14_does_139 : decode cX14_does 139 = .ok (.iastore, 1) := by decide +kernel
theorem dX14_does_140 : decode cX14_does 140 = .ok (.aload_n 0, 1) := by decide +kernel
theorem dX14_does_141 : decode cX14_does 141 = .ok (.getfield 72, 3) := by decide +kernel
theorem dX14_does_144 : decode cX14_does 144 = .ok (.iload_n 1, 1) := by decide +kernel
theorem dX14_does_145 : decode cX14_does 145 = .ok (.iaload, 1) := by decide +kernel
theorem dX14_does_146 : decode cX14_does 146 = .ok (.istore 6, 2) := by decide +kernel
theorem dX14_does_148 : decode cX14_does 148 = .ok (.aload_n 0, 1) := by decide +kernel
theorem dX14_does_149 : decode cX14_does 149 = .ok (.getfield 550, 3) := by decide +kernel
theorem dX14_does_152 : decode cX14_does 152 = .ok (.lstore 7, 2) := by decide +kernel
theorem dX14_does_154 : decode cX14_does 154 = .ok (.aload_n 0, 1) := by decide +kernel
theorem dX14_does_155 : decode cX14_does 155 = .ok (.getfield 553, 3) := by decide +kernel
theorem dX14_does_158 : decode cX14_does 158 = .ok (.lstore 9, 2) := by decide +kernel
theorem dX14_does_160 : decode cX14_does 160 = .ok (.iload 5, 2) := by decide +kernel
theorem dX14_does_162 : decode cX14_does 162 = .ok (.iconst 3, 1) := by decide +kernel
theorem dX14_does_163 : decode cX14_does 163 = .ok (.if_icmp .ne 11, 3) := by decide +kernel
theorem dX14_does_166 : decode cX14_does 166 = .ok (.aload_n 0, 1) := by decide +kernel
theorem dX14_does_167 : decode cX14_does 167 = .ok (.bipush 8, 2) := by decide +kernel
theorem dX14_does_169 : decode cX14_does 169 = .ok (.putfield 618, 3) := by decide +kernel
theorem dX14_does_172 : decode cX14_does 172 = .ok (.iconst 0, 1) := by decide +kernel
theorem dX14_does_173 : decode cX14_does 173 = .ok (.ireturn, 1) := by decide +kernel
theorem dX14_does_174 : decode cX14_does 174 = .ok (.iload 5, 2) := by decide +kernel
theorem dX14_does_176 : decode cX14_does 176 = .ok (.iconst 2, 1) := by decide +kernel
theorem dX14_does_177 : decode cX14_does 177 = .ok (.if_icmp .ne 34, 3) := by decide +kernel
theorem dX14_does_180 : decode cX14_does 180 = .ok (.aload_n 0, 1) := by decide +kernel
theorem dX14_does_181 : decode cX14_does 181 = .ok (.iload_n 3, 1) := by decide +kernel
theorem dX14_does_182 : decode cX14_does 182 = .ok (.iload_n 2, 1) := by decide +kernel
theorem dX14_does_183 : decode cX14_does 183 = .ok (.iload_n 1, 1) := by decide +kernel
theorem dX14_does_184 : decode cX14_does 184 = .ok (.lload 7, 2) := by decide +kernel
theorem dX14_does_186 : decode cX14_does 186 = .ok (.lload 9, 2) := by decide +kernel
theorem dX14_does_188 : decode cX14_does 188 = .ok (.invokevirtual 655, 3) := by decide +kernel
theorem dX14_does_191 : decode cX14_does 191 = .ok (.istore 11, 2) := by decide +kernel
theorem dX14_does_193 : decode cX14_does 193 = .ok (.iload 11, 2) := by decide +kernel
theorem dX14_does_195 : decode cX14_does 195 = .ok (.ifCond .ne 8, 3) := by decide +kernel
theorem dX14_does_198 : decode cX14_does 198 = .ok (.aload_n 0, 1) := by decide +kernel
theorem dX14_does_199 : decode cX14_does 199 = .ok (.iconst 3, 1) := by decide +kernel
theorem dX14_does_200 : decode cX14_does 200 = .ok (.putfield 618, 3) := by decide +kernel
theorem dX14_does_203 : decode cX14_does 203 = .ok (.iload 11, 2) := by decide +kernel
theorem dX14_does_205 : decode cX14_does 205 = .ok (.iconst 1, 1) := by decide +kernel
theorem dX14_does_206 : decode cX14_does 206 = .ok (.if_icmp .eq 5, 3) := by decide +kernel
theorem dX14_does_209 : decode cX14_does 209 = .ok (.iconst 0, 1) := by decide +kernel
theorem dX14_does_210 : decode cX14_does 210 = .ok (.ireturn, 1) := by decide +kernel
theorem dX14_does_211 : decode cX14_does 211 = .ok (.aload_n 0, 1) := by decide +kernel
theorem dX14_does_212 : decode cX14_does 212 = .ok (.iload_n 3, 1) := by decide +kernel
theorem dX14_does_213 : decode cX14_does 213 = .ok (.iload_n 2, 1) := by decide +kernel
theorem dX14_does_214 : decode cX14_does 214 = .ok (.invokevirtual 659, 3) := by decide +kernel
theorem dX14_does_217 : decode cX14_does 217 = .ok (.istore 11, 2) := by decide +kernel
theorem dX14_does_219 : decode cX14_does 219 = .ok (.iload 11, 2) := by decide +kernel
theorem dX14_does_221 : decode cX14_does 221 = .ok (.ifCond .le 11, 3) := by decide +kernel
theorem dX14_does_224 : decode cX14_does 224 = .ok (.aload_n 0, 1) := by decide +kernel
theorem dX14_does_225 : decode cX14_does 225 = .ok (.iload 11, 2) := by decide +kernel
theorem dX14_does_227 : decode cX14_does 227 = .ok (.putfield 618, 3) := by decide +kernel
theorem dX14_does_230 : decode cX14_does 230 = .ok (.iconst 0, 1) := by decide +kernel
theorem dX14_does_231 : decode cX14_does 231 = .ok (.ireturn, 1) := by decide +kernel
theorem dX14_does_232 : decode cX14_does 232 = .ok (.aload_n 0, 1) := by decide +kernel
theorem dX14_does_233 : decode cX14_does 233 = .ok (.iload 6, 2) := by decide +kernel
theorem dX14_does_235 : decode cX14_does 235 = .ok (.putfield 613, 3) := by decide +kernel
theorem dX14_does_238 : decode cX14_does 238 = .ok (.iload 5, 2) := by decide +kernel
theorem dX14_does_240 : decode cX14_does 240 = .ok (.iconst 1, 1) := by decide +kernel
theorem dX14_does_241 : decode cX14_does 241 = .ok (.if_icmp .ne 15, 3) := by decide +kernel
theorem dX14_does_244 : decode cX14_does 244 = .ok (.aload_n 0, 1) := by decide +kernel
theorem dX14_does_245 : decode cX14_does 245 = .ok (.iload_n 3, 1) := by decide +kernel
theorem dX14_does_246 : decode cX14_does 246 = .ok (.iload_n 2, 1) := by decide +kernel
theorem dX14_does_247 : decode cX14_does 247 = .ok (.iload_n 1, 1) := by decide +kernel
theorem dX14_does_248 : decode cX14_does 248 = .ok (.invokevirtual 662, 3) := by decide +kernel
theorem dX14_does_251 : decode cX14_does 251 = .ok (.ifCond .ne 5, 3) := by decide +kernel
theorem dX14_does_254 : decode cX14_does 254 = .ok (.iconst 0, 1) := by decide +kernel
theorem dX14_does_255 : decode cX14_does 255 = .ok (.ireturn, 1) := by decide +kernel
theorem dX14_does_256 : decode cX14_does 256 = .ok (.iconst 0, 1) := by decide +kernel
theorem dX14_does_257 : decode cX14_does 257 = .ok (.istore 12, 2) := by decide +kernel
theorem dX14_does_259 : decode cX14_does 259 = .ok (.iload 12, 2) := by decide +kernel
theorem dX14_does_261 : decode cX14_does 261 = .ok (.aload_n 0, 1) := by decide +kernel
theorem dX14_does_262 : decode cX14_does 262 = .ok (.getfield 621, 3) := by decide +kernel
theorem dX14_does_265 : decode cX14_does 265 = .ok (.if_icmp .ge 20, 3) := by decide +kernel
theorem dX14_does_268 : decode cX14_does 268 = .ok (.aload_n 0, 1) := by decide +kernel
theorem dX14_does_269 : decode cX14_does 269 = .ok (.iload 12, 2) := by decide +kernel
theorem dX14_does_271 : decode cX14_does 271 = .ok (.invokevirtual 635, 3) := by decide +kernel
theorem dX14_does_274 : decode cX14_does 274 = .ok (.ifCond .ne 5, 3) := by decide +kernel
theorem dX14_does_277 : decode cX14_does 277 = .ok (.iconst 0, 1) := by decide +kernel
theorem dX14_does_278 : decode cX14_does 278 = .ok (.ireturn, 1) := by decide +kernel
theorem dX14_does_279 : decode cX14_does 279 = .ok (.iinc 12 1, 3) := by decide +kernel
theorem dX14_does_282 : decode cX14_does 282 = .ok (.goto (-23), 3) := by decide +kernel
theorem dX14_does_285 : decode cX14_does 285 = .ok (.aload_n 0, 1) := by decide +kernel
theorem dX14_does_286 : decode cX14_does 286 = .ok (.iload_n 3, 1) := by decide +kernel
theorem dX14_does_287 : decode cX14_does 287 = .ok (.iload_n 2, 1) := by decide +kernel
theorem dX14_does_288 : decode cX14_does 288 = .ok (.iload_n 1, 1) := by decide +kernel
theorem dX14_does_289 : decode cX14_does 289 = .ok (.iload 5, 2) := by decide +kernel
theorem dX14_does_291 : decode cX14_does 291 = .ok (.iload 6, 2) := by decide +kernel
theorem dX14_does_293 : decode cX14_does 293 = .ok (.lload 7, 2) := by decide +kernel
theorem dX14_does_295 : decode cX14_does 295 = .ok (.lload 9, 2) := by decide +kernel
theorem dX14_does_297 : decode cX14_does 297 = .ok (.invokevirtual 664, 3) := by decide +kernel
theorem dX14_does_300 : decode cX14_does 300 = .ok (.ifCond .ne 11, 3) := by decide +kernel
theorem dX14_does_303 : decode cX14_does 303 = .ok (.aload_n 0, 1) := by decide +kernel
theorem dX14_does_304 : decode cX14_does 304 = .ok (.bipush 6, 2) := by decide +kernel
theorem dX14_does_306 : decode cX14_does 306 = .ok (.putfield 618, 3) := by decide +kernel
theorem dX14_does_309 : decode cX14_does 309 = .ok (.iconst 0, 1) := by decide +kernel
theorem dX14_does_310 : decode cX14_does 310 = .ok (.ireturn, 1) := by decide +kernel
theorem dX14_does_311 : decode cX14_does 311 = .ok (.iconst 1, 1) := by decide +kernel
theorem dX14_does_312 : decode cX14_does 312 = .ok (.ireturn, 1) := by decide +kernel
theorem dX14_runRow_0 : decode cX14_runRow 0 = .ok (.aload_n 0, 1) := by decide +kernel
theorem dX14_runRow_1 : decode cX14_runRow 1 = .ok (.invokevirtual 535, 3) := by decide +kernel
theorem dX14_runRow_4 : decode cX14_runRow 4 = .ok (.aload_n 0, 1) := by decide +kernel
theorem dX14_runRow_5 : decode cX14_runRow 5 = .ok (.iconst 0, 1) := by decide +kernel
theorem dX14_runRow_6 : decode cX14_runRow 6 = .ok (.putfield 668, 3) := by decide +kernel
theorem dX14_runRow_9 : decode cX14_runRow 9 = .ok (.iconst 0, 1) := by decide +kernel
theorem dX14_runRow_10 : decode cX14_runRow 10 = .ok (.istore_n 1, 1) := by decide +kernel
theorem dX14_runRow_11 : decode cX14_runRow 11 = .ok (.iload_n 1, 1) := by decide +kernel
theorem dX14_runRow_12 : decode cX14_runRow 12 = .ok (.aload_n 0, 1) := by decide +kernel
theorem dX14_runRow_13 : decode cX14_runRow 13 = .ok (.getfield 529, 3) := by decide +kernel
theorem dX14_runRow_16 : decode cX14_runRow 16 = .ok (.if_icmp .ge 23, 3) := by decide +kernel
theorem dX14_runRow_19 : decode cX14_runRow 19 = .ok (.aload_n 0, 1) := by decide +kernel
theorem dX14_runRow_20 : decode cX14_runRow 20 = .ok (.getfield 72, 3) := by decide +kernel
theorem dX14_runRow_23 : decode cX14_runRow 23 = .ok (.iload_n 1, 1) := by decide +kernel
theorem dX14_runRow_24 : decode cX14_runRow 24 = .ok (.iconst 0, 1) := by decide +kernel
theorem dX14_runRow_25 : decode cX14_runRow 25 = .ok (.iastore, 1) := by decide +kernel
theorem dX14_runRow_26 : decode cX14_runRow 26 = .ok (.aload_n 0, 1) := by decide +kernel
theorem dX14_runRow_27 : decode cX14_runRow 27 = .ok (.getfield 75, 3) := by decide +kernel
theorem dX14_runRow_30 : decode cX14_runRow 30 = .ok (.iload_n 1, 1) := by decide +kernel
theorem dX14_runRow_31 : decode cX14_runRow 31 = .ok (.iconst 0, 1) := by decide +kernel
theorem dX14_runRow_32 : decode cX14_runRow 32 = .ok (.iastore, 1) := by decide +kernel
theorem dX14_runRow_33 : decode cX14_runRow 33 = .ok (.iinc 1 1, 3) := by decide +kernel
theorem dX14_runRow_36 : decode cX14_runRow 36 = .ok (.goto (-25), 3) := by decide +kernel
theorem dX14_runRow_39 : decode cX14_runRow 39 = .ok (.iconst 1, 1) := by decide +kernel
theorem dX14_runRow_40 : decode cX14_runRow 40 = .ok (.istore_n 1, 1) := by decide +kernel
theorem dX14_runRow_41 : decode cX14_runRow 41 = .ok (.iconst 0, 1) := by decide +kernel
theorem dX14_runRow_42 : decode cX14_runRow 42 = .ok (.istore_n 2, 1) := by decide +kernel
theorem dX14_runRow_43 : decode cX14_runRow 43 = .ok (.iload_n 2, 1) := by decide +kernel
theorem dX14_runRow_44 : decode cX14_runRow 44 = .ok (.aload_n 0, 1) := by decide +kernel
theorem dX14_runRow_45 : decode cX14_runRow 45 = .ok (.getfield 529, 3) := by decide +kernel
theorem dX14_runRow_48 : decode cX14_runRow 48 = .ok (.if_icmp .ge 37, 3) := by decide +kernel
theorem dX14_runRow_51 : decode cX14_runRow 51 = .ok (.iload_n 1, 1) := by decide +kernel
theorem dX14_runRow_52 : decode cX14_runRow 52 = .ok (.ifCond .eq 33, 3) := by decide +kernel
theorem dX14_runRow_55 : decode cX14_runRow 55 = .ok (.aload_n 0, 1) := by decide +kernel
theorem dX14_runRow_56 : decode cX14_runRow 56 = .ok (.getfield 66, 3) := by decide +kernel
theorem dX14_runRow_59 : decode cX14_runRow 59 = .ok (.iload_n 2, 1) := by decide +kernel
theorem dX14_runRow_60 : decode cX14_runRow 60 = .ok (.iaload, 1) := by decide +kernel
theorem dX14_runRow_61 : decode cX14_runRow 61 = .ok (.iconst (-1), 1) := by decide +kernel
theorem dX14_runRow_62 : decode cX14_runRow 62 = .ok (.if_icmp .ne 11, 3) := by decide +kernel
theorem dX14_runRow_65 : decode cX14_runRow 65 = .ok (.aload_n 0, 1) := by decide +kernel
theorem dX14_runRow_66 : decode cX14_runRow 66 = .ok (.iload_n 2, 1) := by decide +kernel
theorem dX14_runRow_67 : decode cX14_runRow 67 = .ok (.invokevirtual 671, 3) := by decide +kernel
theorem dX14_runRow_70 : decode cX14_runRow 70 = .ok (.goto 8, 3) := by decide +kernel
theorem dX14_runRow_73 : decode cX14_runRow 73 = .ok (.aload_n 0, 1) := by decide +kernel
theorem dX14_runRow_74 : decode cX14_runRow 74 = .ok (.iload_n 2, 1) := by decide +kernel
theorem dX14_runRow_75 : decode cX14_runRow 75 = .ok (.invokevirtual 674, 3) := by decide +kernel
theorem dX14_runRow_78 : decode cX14_runRow 78 = .ok (.istore_n 1, 1) := by decide +kernel
theorem dX14_runRow_79 : decode cX14_runRow 79 = .ok (.iinc 2 1, 3) := by decide +kernel
theorem dX14_runRow_82 : decode cX14_runRow 82 = .ok (.goto (-39), 3) := by decide +kernel
theorem dX14_runRow_85 : decode cX14_runRow 85 = .ok (.aload_n 0, 1) := by decide +kernel
theorem dX14_runRow_86 : decode cX14_runRow 86 = .ok (.getfield 618, 3) := by decide +kernel
theorem dX14_runRow_89 : decode cX14_runRow 89 = .ok (.ireturn, 1) := by decide +kernel
theorem dX14_addMake_0 : decode cX14_addMake 0 = .ok (.aload_n 0, 1) := by decide +kernel
theorem dX14_addMake_1 : decode cX14_addMake 1 = .ok (.getfield 63, 3) := by decide +kernel
theorem dX14_addMake_4 : decode cX14_addMake 4 = .ok (.aload_n 0, 1) := by decide +kernel
theorem dX14_addMake_5 : decode cX14_addMake 5 = .ok (.getfield 529, 3) := by decide +kernel
theorem dX14_addMake_8 : decode cX14_addMake 8 = .ok (.aload_n 0, 1) := by decide +kernel
theorem dX14_addMake_9 : decode cX14_addMake 9 = .ok (.getfield 532, 3) := by decide +kernel
theorem dX14_addMake_12 : decode cX14_addMake 12 = .ok (.iastore, 1) := by decide +kernel
theorem dX14_addMake_13 : decode cX14_addMake 13 = .ok (.aload_n 0, 1) := by decide +kernel
theorem dX14_addMake_14 : decode cX14_addMake 14 = .ok (.getfield 66, 3) := by decide +kernel
theorem dX14_addMake_17 : decode cX14_addMake 17 = .ok (.aload_n 0, 1) := by decide +kernel
theorem dX14_addMake_18 : decode cX14_addMake 18 = .ok (.getfield 529, 3) := by decide +kernel
theorem dX14_addMake_21 : decode cX14_addMake 21 = .ok (.iconst (-1), 1) := by decide +kernel
theorem dX14_addMake_22 : decode cX14_addMake 22 = .ok (.iastore, 1) := by decide +kernel
theorem dX14_addMake_23 : decode cX14_addMake 23 = .ok (.aload_n 0, 1) := by decide +kernel
theorem dX14_addMake_24 : decode cX14_addMake 24 = .ok (.getfield 69, 3) := by decide +kernel
theorem dX14_addMake_27 : decode cX14_addMake 27 = .ok (.iconst 3, 1) := by decide +kernel
theorem dX14_addMake_28 : decode cX14_addMake 28 = .ok (.aload_n 0, 1) := by decide +kernel
theorem dX14_addMake_29 : decode cX14_addMake 29 = .ok (.getfield 529, 3) := by decide +kernel
theorem dX14_addMake_32 : decode cX14_addMake 32 = .ok (.imul, 1) := by decide +kernel
theorem dX14_addMake_33 : decode cX14_addMake 33 = .ok (.iload_n 1, 1) := by decide +kernel
theorem dX14_addMake_34 : decode cX14_addMake 34 = .ok (.iastore, 1) := by decide +kernel
theorem dX14_addMake_35 : decode cX14_addMake 35 = .ok (.aload_n 0, 1) := by decide +kernel
theorem dX14_addMake_36 : decode cX14_addMake 36 = .ok (.getfield 69, 3) := by decide +kernel
theorem dX14_addMake_39 : decode cX14_addMake 39 = .ok (.iconst 3, 1) := by decide +kernel
theorem dX14_addMake_40 : decode cX14_addMake 40 = .ok (.aload_n 0, 1) := by decide +kernel
theorem dX14_addMake_41 : decode cX14_addMake 41 = .ok (.getfield 529, 3) := by decide +kernel
theorem dX14_addMake_44 : decode cX14_addMake 44 = .ok (.imul, 1) := by decide +kernel
theorem dX14_addMake_45 : decode cX14_addMake 45 = .ok (.iconst 1, 1) := by decide +kernel
theorem dX14_addMake_46 : decode cX14_addMake 46 = .ok (.iadd, 1) := by decide +kernel
theorem dX14_addMake_47 : decode cX14_addMake 47 = .ok (.iconst 0, 1) := by decide +kernel
theorem dX14_addMake_48 : decode cX14_addMake 48 = .ok (.iastore, 1) := by decide +kernel
theorem dX14_addMake_49 : decode cX14_addMake 49 = .ok (.aload_n 0, 1) := by decide +kernel
theorem dX14_addMake_50 : decode cX14_addMake 50 = .ok (.getfield 69, 3) := by decide +kernel
theorem dX14_addMake_53 : decode cX14_addMake 53 = .ok (.iconst 3, 1) := by decide +kernel
theorem dX14_addMake_54 : decode cX14_addMake 54 = .ok (.aload_n 0, 1) := by decide +kernel
theorem dX14_addMake_55 : decode cX14_addMake 55 = .ok (.getfield 529, 3) := by decide +kernel
theorem dX14_addMake_58 : decode cX14_addMake 58 = .ok (.imul, 1) := by decide +kernel
theorem dX14_addMake_59 : decode cX14_addMake 59 = .ok (.iconst 2, 1) := by decide +kernel
theorem dX14_addMake_60 : decode cX14_addMake 60 = .ok (.iadd, 1) := by decide +kernel
theorem dX14_addMake_61 : decode cX14_addMake 61 = .ok (.iconst 0, 1) := by decide +kernel
theorem dX14_addMake_62 : decode cX14_addMake 62 = .ok (.iastore, 1) := by decide +kernel
theorem dX14_addMake_63 : decode cX14_addMake 63 = .ok (.aload_n 0, 1) := by decide +kernel
theorem dX14_addMake_64 : decode cX14_addMake 64 = .ok (.getfield 72, 3) := by decide +kernel
theorem dX14_addMake_67 : decode cX14_addMake 67 = .ok (.aload_n 0, 1) := by decide +kernel
theorem dX14_addMake_68 : decode cX14_addMake 68 = .ok (.getfield 529, 3) := by decide +kernel
theorem dX14_addMake_71 : decode cX14_addMake 71 = .ok (.iconst 0, 1) := by decide +kernel
theorem dX14_addMake_72 : decode cX14_addMake 72 = .ok (.iastore, 1) := by decide +kernel
theorem dX14_addMake_73 : decode cX14_addMake 73 = .ok (.aload_n 0, 1) := by decide +kernel
theorem dX14_addMake_74 : decode cX14_addMake 74 = .ok (.getfield 75, 3) := by decide +kernel
theorem dX14_addMake_77 : decode cX14_addMake 77 = .ok (.aload_n 0, 1) := by decide +kernel
theorem dX14_addMake_78 : decode cX14_addMake 78 = .ok (.getfield 529, 3) := by decide +kernel
theorem dX14_addMake_81 : decode cX14_addMake 81 = .ok (.iconst 0, 1) := by decide +kernel
theorem dX14_addMake_82 : decode cX14_addMake 82 = .ok (.iastore, 1) := by decide +kernel
theorem dX14_addMake_83 : decode cX14_addMake 83 = .ok (.aload_n 0, 1) := by decide +kernel
theorem dX14_addMake_84 : decode cX14_addMake 84 = .ok (.getfield 78, 3) := by decide +kernel
theorem dX14_addMake_87 : decode cX14_addMake 87 = .ok (.aload_n 0, 1) := by decide +kernel
theorem dX14_addMake_88 : decode cX14_addMake 88 = .ok (.getfield 532, 3) := by decide +kernel
theorem dX14_addMake_91 : decode cX14_addMake 91 = .ok (.iload_n 1, 1) := by decide +kernel
theorem dX14_addMake_92 : decode cX14_addMake 92 = .ok (.iastore, 1) := by decide +kernel
theorem dX14_addMake_93 : decode cX14_addMake 93 = .ok (.aload_n 0, 1) := by decide +kernel
theorem dX14_addMake_94 : decode cX14_addMake 94 = .ok (.dup, 1) := by decide +kernel
theorem dX14_addMake_95 : decode cX14_addMake 95 = .ok (.getfield 532, 3) := by decide +kernel
theorem dX14_addMake_98 : decode cX14_addMake 98 = .ok (.iconst 1, 1) := by decide +kernel
theorem dX14_addMake_99 : decode cX14_addMake 99 = .ok (.iadd, 1) := by decide +kernel
theorem dX14_addMake_100 : decode cX14_addMake 100 = .ok (.putfield 532, 3) := by decide +kernel
theorem dX14_addMake_103 : decode cX14_addMake 103 = .ok (.aload_n 0, 1) := by decide +kernel
theorem dX14_addMake_104 : decode cX14_addMake 104 = .ok (.dup, 1) := by decide +kernel
theorem dX14_addMake_105 : decode cX14_addMake 105 = .ok (.getfield 529, 3) := by decide +kernel
theorem dX14_addMake_108 : decode cX14_addMake 108 = .ok (.iconst 1, 1) := by decide +kernel
theorem dX14_addMake_109 : decode cX14_addMake 109 = .ok (.iadd, 1) := by decide +kernel
theorem dX14_addMake_110 : decode cX14_addMake 110 = .ok (.putfield 529, 3) := by decide +kernel
theorem dX14_addMake_113 : decode cX14_addMake 113 = .ok (.return_, 1) := by decide +kernel
theorem dX14_addCall_0 : decode cX14_addCall 0 = .ok (.aload_n 0, 1) := by decide +kernel
theorem dX14_addCall_1 : decode cX14_addCall 1 = .ok (.getfield 63, 3) := by decide +kernel
theorem dX14_addCall_4 : decode cX14_addCall 4 = .ok (.aload_n 0, 1) := by decide +kernel
theorem dX14_addCall_5 : decode cX14_addCall 5 = .ok (.getfield 529, 3) := by decide +kernel
theorem dX14_addCall_8 : decode cX14_addCall 8 = .ok (.iload_n 1, 1) := by decide +kernel
theorem dX14_addCall_9 : decode cX14_addCall 9 = .ok (.iastore, 1) := by decide +kernel
theorem dX14_addCall_10 : decode cX14_addCall 10 = .ok (.aload_n 0, 1) := by decide +kernel
theorem dX14_addCall_11 : decode cX14_addCall 11 = .ok (.getfield 66, 3) := by decide +kernel
theorem dX14_addCall_14 : decode cX14_addCall 14 = .ok (.aload_n 0, 1) := by decide +kernel
theorem dX14_addCall_15 : decode cX14_addCall 15 = .ok (.getfield 529, 3) := by decide +kernel
theorem dX14_addCall_18 : decode cX14_addCall 18 = .ok (.iload_n 2, 1) := by decide +kernel
theorem dX14_addCall_19 : decode cX14_addCall 19 = .ok (.iastore, 1) := by decide +kernel
theorem dX14_addCall_20 : decode cX14_addCall 20 = .ok (.aload_n 0, 1) := by decide +kernel
theorem dX14_addCall_21 : decode cX14_addCall 21 = .ok (.getfield 69, 3) := by decide +kernel
theorem dX14_addCall_24 : decode cX14_addCall 24 = .ok (.iconst 3, 1) := by decide +kernel
theorem dX14_addCall_25 : decode cX14_addCall 25 = .ok (.aload_n 0, 1) := by decide +kernel
theorem dX14_addCall_26 : decode cX14_addCall 26 = .ok (.getfield 529, 3) := by decide +kernel
theorem dX14_addCall_29 : decode cX14_addCall 29 = .ok (.imul, 1) := by decide +kernel
theorem dX14_addCall_30 : decode cX14_addCall 30 = .ok (.iload_n 3, 1) := by decide +kernel
theorem dX14_addCall_31 : decode cX14_addCall 31 = .ok (.iastore, 1) := by decide +kernel
theorem dX14_addCall_32 : decode cX14_addCall 32 = .ok (.aload_n 0, 1) := by decide +kernel
theorem dX14_addCall_33 : decode cX14_addCall 33 = .ok (.getfield 69, 3) := by decide +kernel
theorem dX14_addCall_36 : decode cX14_addCall 36 = .ok (.iconst 3, 1) := by decide +kernel
theorem dX14_addCall_37 : decode cX14_addCall 37 = .ok (.aload_n 0, 1) := by decide +kernel
theorem dX14_addCall_38 : decode cX14_addCall 38 = .ok (.getfield 529, 3) := by decide +kernel
theorem dX14_addCall_41 : decode cX14_addCall 41 = .ok (.imul, 1) := by decide +kernel
theorem dX14_addCall_42 : decode cX14_addCall 42 = .ok (.iconst 1, 1) := by decide +kernel
theorem dX14_addCall_43 : decode cX14_addCall 43 = .ok (.iadd, 1) := by decide +kernel
theorem dX14_addCall_44 : decode cX14_addCall 44 = .ok (.iload 4, 2) := by decide +kernel
theorem dX14_addCall_46 : decode cX14_addCall 46 = .ok (.iastore, 1) := by decide +kernel
theorem dX14_addCall_47 : decode cX14_addCall 47 = .ok (.aload_n 0, 1) := by decide +kernel
theorem dX14_addCall_48 : decode cX14_addCall 48 = .ok (.getfield 69, 3) := by decide +kernel
theorem dX14_addCall_51 : decode cX14_addCall 51 = .ok (.iconst 3, 1) := by decide +kernel
theorem dX14_addCall_52 : decode cX14_addCall 52 = .ok (.aload_n 0, 1) := by decide +kernel
theorem dX14_addCall_53 : decode cX14_addCall 53 = .ok (.getfield 529, 3) := by decide +kernel
theorem dX14_addCall_56 : decode cX14_addCall 56 = .ok (.imul, 1) := by decide +kernel
theorem dX14_addCall_57 : decode cX14_addCall 57 = .ok (.iconst 2, 1) := by decide +kernel
theorem dX14_addCall_58 : decode cX14_addCall 58 = .ok (.iadd, 1) := by decide +kernel
theorem dX14_addCall_59 : decode cX14_addCall 59 = .ok (.iload 5, 2) := by decide +kernel
theorem dX14_addCall_61 : decode cX14_addCall 61 = .ok (.iastore, 1) := by decide +kernel
theorem dX14_addCall_62 : decode cX14_addCall 62 = .ok (.aload_n 0, 1) := by decide +kernel
theorem dX14_addCall_63 : decode cX14_addCall 63 = .ok (.getfield 72, 3) := by decide +kernel
theorem dX14_addCall_66 : decode cX14_addCall 66 = .ok (.aload_n 0, 1) := by decide +kernel
theorem dX14_addCall_67 : decode cX14_addCall 67 = .ok (.getfield 529, 3) := by decide +kernel
theorem dX14_addCall_70 : decode cX14_addCall 70 = .ok (.iconst 0, 1) := by decide +kernel
theorem dX14_addCall_71 : decode cX14_addCall 71 = .ok (.iastore, 1) := by decide +kernel
theorem dX14_addCall_72 : decode cX14_addCall 72 = .ok (.aload_n 0, 1) := by decide +kernel
theorem dX14_addCall_73 : decode cX14_addCall 73 = .ok (.getfield 75, 3) := by decide +kernel
theorem dX14_addCall_76 : decode cX14_addCall 76 = .ok (.aload_n 0, 1) := by decide +kernel
theorem dX14_addCall_77 : decode cX14_addCall 77 = .ok (.getfield 529, 3) := by decide +kernel
theorem dX14_addCall_80 : decode cX14_addCall 80 = .ok (.iconst 0, 1) := by decide +kernel
theorem dX14_addCall_81 : decode cX14_addCall 81 = .ok (.iastore, 1) := by decide +kernel
theorem dX14_addCall_82 : decode cX14_addCall 82 = .ok (.aload_n 0, 1) := by decide +kernel
theorem dX14_addCall_83 : decode cX14_addCall 83 = .ok (.dup, 1) := by decide +kernel
theorem dX14_addCall_84 : decode cX14_addCall 84 = .ok (.getfield 529, 3) := by decide +kernel
theorem dX14_addCall_87 : decode cX14_addCall 87 = .ok (.iconst 1, 1) := by decide +kernel
theorem dX14_addCall_88 : decode cX14_addCall 88 = .ok (.iadd, 1) := by decide +kernel
theorem dX14_addCall_89 : decode cX14_addCall 89 = .ok (.putfield 529, 3) := by decide +kernel
theorem dX14_addCall_92 : decode cX14_addCall 92 = .ok (.return_, 1) := by decide +kernel
theorem dX14_make_0 : decode cX14_make 0 = .ok (.aload_n 0, 1) := by decide +kernel
theorem dX14_make_1 : decode cX14_make 1 = .ok (.iload_n 1, 1) := by decide +kernel
theorem dX14_make_2 : decode cX14_make 2 = .ok (.invokevirtual 544, 3) := by decide +kernel
theorem dX14_make_5 : decode cX14_make 5 = .ok (.ifCond .ne 6, 3) := by decide +kernel
theorem dX14_make_8 : decode cX14_make 8 = .ok (.bipush (-2), 2) := by decide +kernel
theorem dX14_make_10 : decode cX14_make 10 = .ok (.ireturn, 1) := by decide +kernel
theorem dX14_make_11 : decode cX14_make 11 = .ok (.aload_n 0, 1) := by decide +kernel
theorem dX14_make_12 : decode cX14_make 12 = .ok (.getfield 529, 3) := by decide +kernel
theorem dX14_make_15 : decode cX14_make 15 = .ok (.bipush 10, 2) := by decide +kernel
theorem dX14_make_17 : decode cX14_make 17 = .ok (.if_icmp .eq 11, 3) := by decide +kernel
theorem dX14_make_20 : decode cX14_make 20 = .ok (.aload_n 0, 1) := by decide +kernel
theorem dX14_make_21 : decode cX14_make 21 = .ok (.getfield 532, 3) := by decide +kernel
theorem dX14_make_24 : decode cX14_make 24 = .ok (.iconst 3, 1) := by decide +kernel
theorem dX14_make_25 : decode cX14_make 25 = .ok (.if_icmp .ne 6, 3) := by decide +kernel
theorem dX14_make_28 : decode cX14_make 28 = .ok (.bipush (-3), 2) := by decide +kernel
theorem dX14_make_30 : decode cX14_make 30 = .ok (.ireturn, 1) := by decide +kernel
theorem dX14_make_31 : decode cX14_make 31 = .ok (.aload_n 0, 1) := by decide +kernel
theorem dX14_make_32 : decode cX14_make 32 = .ok (.iconst 1, 1) := by decide +kernel
theorem dX14_make_33 : decode cX14_make 33 = .ok (.putfield 668, 3) := by decide +kernel
theorem dX14_make_36 : decode cX14_make 36 = .ok (.aload_n 0, 1) := by decide +kernel
theorem dX14_make_37 : decode cX14_make 37 = .ok (.iload_n 1, 1) := by decide +kernel
theorem dX14_make_38 : decode cX14_make 38 = .ok (.invokevirtual 677, 3) := by decide +kernel
theorem dX14_make_41 : decode cX14_make 41 = .ok (.aload_n 0, 1) := by decide +kernel
theorem dX14_make_42 : decode cX14_make 42 = .ok (.getfield 532, 3) := by decide +kernel
theorem dX14_make_45 : decode cX14_make 45 = .ok (.iconst 1, 1) := by decide +kernel
theorem dX14_make_46 : decode cX14_make 46 = .ok (.isub, 1) := by decide +kernel
theorem dX14_make_47 : decode cX14_make 47 = .ok (.ireturn, 1) := by decide +kernel
theorem dX14_isArgument_0 : decode cX14_isArgument 0 = .ok (.iload_n 2, 1) := by decide +kernel
theorem dX14_isArgument_1 : decode cX14_isArgument 1 = .ok (.aload_n 0, 1) := by decide +kernel
theorem dX14_isArgument_2 : decode cX14_isArgument 2 = .ok (.getfield 19, 3) := by decide +kernel
theorem dX14_isArgument_5 : decode cX14_isArgument 5 = .ok (.getfield 324, 3) := by decide +kernel
theorem dX14_isArgument_8 : decode cX14_isArgument 8 = .ok (.iload_n 1, 1) := by decide +kernel
theorem dX14_isArgument_9 : decode cX14_isArgument 9 = .ok (.iaload, 1) := by decide +kernel
theorem dX14_isArgument_10 : decode cX14_isArgument 10 = .ok (.if_icmp .ge 39, 3) := by decide +kernel
theorem dX14_isArgument_13 : decode cX14_isArgument 13 = .ok (.iload_n 3, 1) := by decide +kernel
theorem dX14_isArgument_14 : decode cX14_isArgument 14 = .ok (.i2l, 1) := by decide +kernel
theorem dX14_isArgument_15 : decode cX14_isArgument 15 = .ok (.aload_n 0, 1) := by decide +kernel
theorem dX14_isArgument_16 : decode cX14_isArgument 16 = .ok (.getfield 19, 3) := by decide +kernel
theorem dX14_isArgument_19 : decode cX14_isArgument 19 = .ok (.getfield 490, 3) := by decide +kernel
theorem dX14_isArgument_22 : decode cX14_isArgument 22 = .ok (.iconst 3, 1) := by decide +kernel
theorem dX14_isArgument_23 : decode cX14_isArgument 23 = .ok (.iload_n 1, 1) := by decide +kernel
theorem dX14_isArgument_24 : decode cX14_isArgument 24 = .ok (.imul, 1) := by decide +kernel
theorem dX14_isArgument_25 : decode cX14_isArgument 25 = .ok (.iload_n 2, 1) := by decide +kernel
theorem dX14_isArgument_26 : decode cX14_isArgument 26 = .ok (.iadd, 1) := by decide +kernel
theorem dX14_isArgument_27 : decode cX14_isArgument 27 = .ok (.iaload, 1) := by decide +kernel
theorem dX14_isArgument_28 : decode cX14_isArgument 28 = .ok (.i2l, 1) := by decide +kernel
theorem dX14_isArgument_29 : decode cX14_isArgument 29 = .ok (.aload_n 0, 1) := by decide +kernel
theorem dX14_isArgument_30 : decode cX14_isArgument 30 = .ok (.getfield 19, 3) := by decide +kernel
theorem dX14_isArgument_33 : decode cX14_isArgument 33 = .ok (.getfield 493, 3) := by decide +kernel
theorem dX14_isArgument_36 : decode cX14_isArgument 36 = .ok (.iconst 3, 1) := by decide +kernel
theorem dX14_isArgument_37 : decode cX14_isArgument 37 = .ok (.iload_n 1, 1) := by decide +kernel
theorem dX14_isArgument_38 : decode cX14_isArgument 38 = .ok (.imul, 1) := by decide +kernel
theorem dX14_isArgument_39 : decode cX14_isArgument 39 = .ok (.iload_n 2, 1) := by decide +kernel
theorem dX14_isArgument_40 : decode cX14_isArgument 40 = .ok (.iadd, 1) := by decide +kernel
theorem dX14_isArgument_41 : decode cX14_isArgument 41 = .ok (.iaload, 1) := by decide +kernel
theorem dX14_isArgument_42 : decode cX14_isArgument 42 = .ok (.i2l, 1) := by decide +kernel
theorem dX14_isArgument_43 : decode cX14_isArgument 43 = .ok (.invokestatic 395, 3) := by decide +kernel
theorem dX14_isArgument_46 : decode cX14_isArgument 46 = .ok (.goto 12, 3) := by decide +kernel
theorem dX14_isArgument_49 : decode cX14_isArgument 49 = .ok (.iload_n 3, 1) := by decide +kernel
theorem dX14_isArgument_50 : decode cX14_isArgument 50 = .ok (.ifCond .ne 7, 3) := by decide +kernel
theorem dX14_isArgument_53 : decode cX14_isArgument 53 = .ok (.iconst 1, 1) := by decide +kernel
theorem dX14_isArgument_54 : decode cX14_isArgument 54 = .ok (.goto 4, 3) := by decide +kernel
theorem dX14_isArgument_57 : decode cX14_isArgument 57 = .ok (.iconst 0, 1) := by decide +kernel
theorem dX14_isArgument_58 : decode cX14_isArgument 58 = .ok (.ireturn, 1) := by decide +kernel
theorem dX14_call_0 : decode cX14_call 0 = .ok (.iload_n 1, 1) := by decide +kernel
theorem dX14_call_1 : decode cX14_call 1 = .ok (.i2l, 1) := by decide +kernel
theorem dX14_call_2 : decode cX14_call 2 = .ok (.lconst 0, 1) := by decide +kernel
theorem dX14_call_3 : decode cX14_call 3 = .ok (.aload_n 0, 1) := by decide +kernel
theorem dX14_call_4 : decode cX14_call 4 = .ok (.getfield 532, 3) := by decide +kernel
theorem dX14_call_7 : decode cX14_call 7 = .ok (.iconst 1, 1) := by decide +kernel
theorem dX14_call_8 : decode cX14_call 8 = .ok (.isub, 1) := by decide +kernel
theorem dX14_call_9 : decode cX14_call 9 = .ok (.i2l, 1) := by decide +kernel
theorem dX14_call_10 : decode cX14_call 10 = .ok (.invokestatic 395, 3) := by decide +kernel
theorem dX14_call_13 : decode cX14_call 13 = .ok (.ifCond .ne 6, 3) := by decide +kernel
theorem dX14_call_16 : decode cX14_call 16 = .ok (.bipush (-2), 2) := by decide +kernel
theorem dX14_call_18 : decode cX14_call 18 = .ok (.ireturn, 1) := by decide +kernel
theorem dX14_call_19 : decode cX14_call 19 = .ok (.aload_n 0, 1) := by decide +kernel
theorem dX14_call_20 : decode cX14_call 20 = .ok (.getfield 78, 3) := by decide +kernel
theorem dX14_call_23 : decode cX14_call 23 = .ok (.iload_n 1, 1) := by decide +kernel
theorem dX14_call_24 : decode cX14_call 24 = .ok (.iaload, 1) := by decide +kernel
theorem dX14_call_25 : decode cX14_call 25 = .ok (.istore 6, 2) := by decide +kernel
theorem dX14_call_27 : decode cX14_call 27 = .ok (.iload_n 2, 1) := by decide +kernel
theorem dX14_call_28 : decode cX14_call 28 = .ok (.i2l, 1) := by decide +kernel
theorem dX14_call_29 : decode cX14_call 29 = .ok (.lconst 0, 1) := by decide +kernel
theorem dX14_call_30 : decode cX14_call 30 = .ok (.aload_n 0, 1) := by decide +kernel
theorem dX14_call_31 : decode cX14_call 31 = .ok (.getfield 19, 3) := by decide +kernel
theorem dX14_call_34 : decode cX14_call 34 = .ok (.getfield 456, 3) := by decide +kernel
theorem dX14_call_37 : decode cX14_call 37 = .ok (.iload 6, 2) := by decide +kernel
theorem dX14_call_39 : decode cX14_call 39 = .ok (.iaload, 1) := by decide +kernel
theorem dX14_call_40 : decode cX14_call 40 = .ok (.iconst 1, 1) := by decide +kernel
theorem dX14_call_41 : decode cX14_call 41 = .ok (.isub, 1) := by decide +kernel
theorem dX14_call_42 : decode cX14_call 42 = .ok (.i2l, 1) := by decide +kernel
theorem dX14_call_43 : decode cX14_call 43 = .ok (.invokestatic 395, 3) := by decide +kernel
theorem dX14_call_46 : decode cX14_call 46 = .ok (.ifCond .ne 6, 3) := by decide +kernel
theorem dX14_call_49 : decode cX14_call 49 = .ok (.bipush (-2), 2) := by decide +kernel
theorem dX14_call_51 : decode cX14_call 51 = .ok (.ireturn, 1) := by decide +kernel
theorem dX14_call_52 : decode cX14_call 52 = .ok (.aload_n 0, 1) := by decide +kernel
theorem dX14_call_53 : decode cX14_call 53 = .ok (.getfield 19, 3) := by decide +kernel
theorem dX14_call_56 : decode cX14_call 56 = .ok (.getfield 477, 3) := by decide +kernel
theorem dX14_call_59 : decode cX14_call 59 = .ok (.bipush 12, 2) := by decide +kernel
theorem dX14_call_61 : decode cX14_call 61 = .ok (.iload 6, 2) := by decide +kernel
theorem dX14_call_63 : decode cX14_call 63 = .ok (.imul, 1) := by decide +kernel
theorem dX14_call_64 : decode cX14_call 64 = .ok (.iload_n 2, 1) := by decide +kernel
theorem dX14_call_65 : decode cX14_call 65 = .ok (.iadd, 1) := by decide +kernel
theorem dX14_call_66 : decode cX14_call 66 = .ok (.iaload, 1) := by decide +kernel
theorem dX14_call_67 : decode cX14_call 67 = .ok (.istore 7, 2) := by decide +kernel
theorem dX14_call_69 : decode cX14_call 69 = .ok (.aload_n 0, 1) := by decide +kernel
theorem dX14_call_70 : decode cX14_call 70 = .ok (.iload 7, 2) := by decide +kernel
theorem dX14_call_72 : decode cX14_call 72 = .ok (.iconst 0, 1) := by decide +kernel
theorem dX14_call_73 : decode cX14_call 73 = .ok (.iload_n 3, 1) := by decide +kernel
theorem dX14_call_74 : decode cX14_call 74 = .ok (.invokevirtual 680, 3) := by decide +kernel
theorem dX14_call_77 : decode cX14_call 77 = .ok (.ifCond .eq 27, 3) := by decide +kernel
theorem dX14_call_80 : decode cX14_call 80 = .ok (.aload_n 0, 1) := by decide +kernel
theorem dX14_call_81 : decode cX14_call 81 = .ok (.iload 7, 2) := by decide +kernel
theorem dX14_call_83 : decode cX14_call 83 = .ok (.iconst 1, 1) := by decide +kernel
theorem dX14_call_84 : decode cX14_call 84 = .ok (.iload 4, 2) := by decide +kernel
theorem dX14_call_86 : decode cX14_call 86 = .ok (.invokevirtual 680, 3) := by decide +kernel
theorem dX14_call_89 : decode cX14_call 89 = .ok (.ifCond .eq 15, 3) := by decide +kernel
theorem dX14_call_92 : decode cX14_call 92 = .ok (.aload_n 0, 1) := by decide +kernel
theorem dX14_call_93 : decode cX14_call 93 = .ok (.iload 7, 2) := by decide +kernel
theorem dX14_call_95 : decode cX14_call 95 = .ok (.iconst 2, 1) := by decide +kernel
theorem dX14_call_96 : decode cX14_call 96 = .ok (.iload 5, 2) := by decide +kernel
theorem dX14_call_98 : decode cX14_call 98 = .ok (.invokevirtual 680, 3) := by decide +kernel
theorem dX14_call_101 : decode cX14_call 101 = .ok (.ifCond .ne 6, 3) := by decide +kernel
theorem dX14_call_104 : decode cX14_call 104 = .ok (.bipush (-2), 2) := by decide +kernel
theorem dX14_call_106 : decode cX14_call 106 = .ok (.ireturn, 1) := by decide +kernel
theorem dX14_call_107 : decode cX14_call 107 = .ok (.aload_n 0, 1) := by decide +kernel
theorem dX14_call_108 : decode cX14_call 108 = .ok (.getfield 529, 3) := by decide +kernel
theorem dX14_call_111 : decode cX14_call 111 = .ok (.bipush 10, 2) := by decide +kernel
theorem dX14_call_113 : decode cX14_call 113 = .ok (.if_icmp .ne 6, 3) := by decide +kernel
theorem dX14_call_116 : decode cX14_call 116 = .ok (.bipush (-3), 2) := by decide +kernel
theorem dX14_call_118 : decode cX14_call 118 = .ok (.ireturn, 1) := by decide +kernel
theorem dX14_call_119 : decode cX14_call 119 = .ok (.aload_n 0, 1) := by decide +kernel
theorem dX14_call_120 : decode cX14_call 120 = .ok (.iconst 1, 1) := by decide +kernel
theorem dX14_call_121 : decode cX14_call 121 = .ok (.putfield 668, 3) := by decide +kernel
theorem dX14_call_124 : decode cX14_call 124 = .ok (.aload_n 0, 1) := by decide +kernel
theorem dX14_call_125 : decode cX14_call 125 = .ok (.iload_n 1, 1) := by decide +kernel
theorem dX14_call_126 : decode cX14_call 126 = .ok (.iload_n 2, 1) := by decide +kernel
theorem dX14_call_127 : decode cX14_call 127 = .ok (.iload_n 3, 1) := by decide +kernel
theorem dX14_call_128 : decode cX14_call 128 = .ok (.iload 4, 2) := by decide +kernel
theorem dX14_call_130 : decode cX14_call 130 = .ok (.iload 5, 2) := by decide +kernel
theorem dX14_call_132 : decode cX14_call 132 = .ok (.invokevirtual 683, 3) := by decide +kernel
theorem dX14_call_135 : decode cX14_call 135 = .ok (.aload_n 0, 1) := by decide +kernel
theorem dX14_call_136 : decode cX14_call 136 = .ok (.getfield 529, 3) := by decide +kernel
theorem dX14_call_139 : decode cX14_call 139 = .ok (.ireturn, 1) := by decide +kernel
theorem dX14_run_0 : decode cX14_run 0 = .ok (.aload_n 0, 1) := by decide +kernel
theorem dX14_run_1 : decode cX14_run 1 = .ok (.getfield 529, 3) := by decide +kernel
theorem dX14_run_4 : decode cX14_run 4 = .ok (.ifCond .ne 8, 3) := by decide +kernel
theorem dX14_run_7 : decode cX14_run 7 = .ok (.bipush (-2), 2) := by decide +kernel
theorem dX14_run_9 : decode cX14_run 9 = .ok (.goto 7, 3) := by decide +kernel
theorem dX14_run_12 : decode cX14_run 12 = .ok (.aload_n 0, 1) := by decide +kernel
theorem dX14_run_13 : decode cX14_run 13 = .ok (.invokevirtual 687, 3) := by decide +kernel
theorem dX14_run_16 : decode cX14_run 16 = .ok (.ireturn, 1) := by decide +kernel
theorem dX14_argument_0 : decode cX14_argument 0 = .ok (.aload_n 0, 1) := by decide +kernel
theorem dX14_argument_1 : decode cX14_argument 1 = .ok (.getfield 19, 3) := by decide +kernel
theorem dX14_argument_4 : decode cX14_argument 4 = .ok (.getfield 490, 3) := by decide +kernel
theorem dX14_argument_7 : decode cX14_argument 7 = .ok (.iconst 3, 1) := by decide +kernel
theorem dX14_argument_8 : decode cX14_argument 8 = .ok (.iload_n 1, 1) := by decide +kernel
theorem dX14_argument_9 : decode cX14_argument 9 = .ok (.imul, 1) := by decide +kernel
theorem dX14_argument_10 : decode cX14_argument 10 = .ok (.iload_n 2, 1) := by decide +kernel
theorem dX14_argument_11 : decode cX14_argument 11 = .ok (.iadd, 1) := by decide +kernel
theorem dX14_argument_12 : decode cX14_argument 12 = .ok (.iaload, 1) := by decide +kernel
theorem dX14_argument_13 : decode cX14_argument 13 = .ok (.istore_n 3, 1) := by decide +kernel
theorem dX14_argument_14 : decode cX14_argument 14 = .ok (.aload_n 0, 1) := by decide +kernel
theorem dX14_argument_15 : decode cX14_argument 15 = .ok (.getfield 19, 3) := by decide +kernel
theorem dX14_argument_18 : decode cX14_argument 18 = .ok (.getfield 493, 3) := by decide +kernel
theorem dX14_argument_21 : decode cX14_argument 21 = .ok (.iconst 3, 1) := by decide +kernel
theorem dX14_argument_22 : decode cX14_argument 22 = .ok (.iload_n 1, 1) := by decide +kernel
theorem dX14_argument_23 : decode cX14_argument 23 = .ok (.imul, 1) := by decide +kernel
theorem dX14_argument_24 : decode cX14_argument 24 = .ok (.iload_n 2, 1) := by decide +kernel
theorem dX14_argument_25 : decode cX14_argument 25 = .ok (.iadd, 1) := by decide +kernel
theorem dX14_argument_26 : decode cX14_argument 26 = .ok (.iaload, 1) := by decide +kernel
theorem dX14_argument_27 : decode cX14_argument 27 = .ok (.istore 4, 2) := by decide +kernel
theorem dX14_argument_29 : decode cX14_argument 29 = .ok (.aload_n 0, 1) := by decide +kernel
theorem dX14_argument_30 : decode cX14_argument 30 = .ok (.invokevirtual 694, 3) := by decide +kernel
theorem dX14_argument_33 : decode cX14_argument 33 = .ok (.iconst 4, 1) := by decide +kernel
theorem dX14_argument_34 : decode cX14_argument 34 = .ok (.irem, 1) := by decide +kernel
theorem dX14_argument_35 : decode cX14_argument 35 = .ok (.tableswitch 48 0 2 #[25, 27, 30], 25) := by decide +kernel
theorem dX14_argument_60 : decode cX14_argument 60 = .ok (.iload_n 3, 1) := by decide +kernel
theorem dX14_argument_61 : decode cX14_argument 61 = .ok (.ireturn, 1) := by decide +kernel
theorem dX14_argument_62 : decode cX14_argument 62 = .ok (.iload 4, 2) := by decide +kernel
theorem dX14_argument_64 : decode cX14_argument 64 = .ok (.ireturn, 1) := by decide +kernel
theorem dX14_argument_65 : decode cX14_argument 65 = .ok (.lconst 0, 1) := by decide +kernel
theorem dX14_argument_66 : decode cX14_argument 66 = .ok (.iload_n 3, 1) := by decide +kernel
theorem dX14_argument_67 : decode cX14_argument 67 = .ok (.i2l, 1) := by decide +kernel
theorem dX14_argument_68 : decode cX14_argument 68 = .ok (.iload 4, 2) := by decide +kernel
theorem dX14_argument_70 : decode cX14_argument 70 = .ok (.i2l, 1) := by decide +kernel
theorem dX14_argument_71 : decode cX14_argument 71 = .ok (.invokestatic 395, 3) := by decide +kernel
theorem dX14_argument_74 : decode cX14_argument 74 = .ok (.ifCond .eq 7, 3) := by decide +kernel
theorem dX14_argument_77 : decode cX14_argument 77 = .ok (.iconst 0, 1) := by decide +kernel
theorem dX14_argument_78 : decode cX14_argument 78 = .ok (.goto 4, 3) := by decide +kernel
theorem dX14_argument_81 : decode cX14_argument 81 = .ok (.iload_n 3, 1) := by decide +kernel
theorem dX14_argument_82 : decode cX14_argument 82 = .ok (.ireturn, 1) := by decide +kernel
theorem dX14_argument_83 : decode cX14_argument 83 = .ok (.iload_n 3, 1) := by decide +kernel
theorem dX14_argument_84 : decode cX14_argument 84 = .ok (.i2l, 1) := by decide +kernel
theorem dX14_argument_85 : decode cX14_argument 85 = .ok (.aload_n 0, 1) := by decide +kernel
theorem dX14_argument_86 : decode cX14_argument 86 = .ok (.invokevirtual 694, 3) := by decide +kernel
theorem dX14_argument_89 : decode cX14_argument 89 = .ok (.i2l, 1) := by decide +kernel
theorem dX14_argument_90 : decode cX14_argument 90 = .ok (.iload 4, 2) := by decide +kernel
theorem dX14_argument_92 : decode cX14_argument 92 = .ok (.i2l, 1) := by decide +kernel
theorem dX14_argument_93 : decode cX14_argument 93 = .ok (.iload_n 3, 1) := by decide +kernel
theorem dX14_argument_94 : decode cX14_argument 94 = .ok (.i2l, 1) := by decide +kernel
theorem dX14_argument_95 : decode cX14_argument 95 = .ok (.lsub, 1) := by decide +kernel
theorem dX14_argument_96 : decode cX14_argument 96 = .ok (.lconst 1, 1) := by decide +kernel
theorem dX14_argument_97 : decode cX14_argument 97 = .ok (.ladd, 1) := by decide +kernel
theorem dX14_argument_98 : decode cX14_argument 98 = .ok (.lrem, 1) := by decide +kernel
theorem dX14_argument_99 : decode cX14_argument 99 = .ok (.ladd, 1) := by decide +kernel
theorem dX14_argument_100 : decode cX14_argument 100 = .ok (.l2i, 1) := by decide +kernel
theorem dX14_argument_101 : decode cX14_argument 101 = .ok (.ireturn, 1) := by decide +kernel
theorem dX14_drawRow_0 : decode cX14_drawRow 0 = .ok (.aload_n 0, 1) := by decide +kernel
theorem dX14_drawRow_1 : decode cX14_drawRow 1 = .ok (.invokevirtual 697, 3) := by decide +kernel
theorem dX14_drawRow_4 : decode cX14_drawRow 4 = .ok (.istore_n 2, 1) := by decide +kernel
theorem dX14_drawRow_5 : decode cX14_drawRow 5 = .ok (.iconst 1, 1) := by decide +kernel
theorem dX14_drawRow_6 : decode cX14_drawRow 6 = .ok (.aload_n 0, 1) := by decide +kernel
theorem dX14_drawRow_7 : decode cX14_drawRow 7 = .ok (.invokevirtual 694, 3) := by decide +kernel
theorem dX14_drawRow_10 : decode cX14_drawRow 10 = .ok (.bipush 10, 2) := by decide +kernel
theorem dX14_drawRow_12 : decode cX14_drawRow 12 = .ok (.irem, 1) := by decide +kernel
theorem dX14_drawRow_13 : decode cX14_drawRow 13 = .ok (.iadd, 1) := by decide +kernel
theorem dX14_drawRow_14 : decode cX14_drawRow 14 = .ok (.istore_n 3, 1) := by decide +kernel
theorem dX14_drawRow_15 : decode cX14_drawRow 15 = .ok (.aload_n 0, 1) := by decide +kernel
theorem dX14_drawRow_16 : decode cX14_drawRow 16 = .ok (.iload_n 1, 1) := by decide +kernel
theorem dX14_drawRow_17 : decode cX14_drawRow 17 = .ok (.invokevirtual 677, 3) := by decide +kernel
theorem dX14_drawRow_20 : decode cX14_drawRow 20 = .ok (.iconst 1, 1) := by decide +kernel
theorem dX14_drawRow_21 : decode cX14_drawRow 21 = .ok (.istore 4, 2) := by decide +kernel
theorem dX14_drawRow_23 : decode cX14_drawRow 23 = .ok (.iload 4, 2) := by decide +kernel
theorem dX14_drawRow_25 : decode cX14_drawRow 25 = .ok (.ifCond .eq 230, 3) := by decide +kernel
theorem dX14_drawRow_28 : decode cX14_drawRow 28 = .ok (.aload_n 0, 1) := by decide +kernel
theorem dX14_drawRow_29 : decode cX14_drawRow 29 = .ok (.getfield 529, 3) := by decide +kernel
theorem dX14_drawRow_32 : decode cX14_drawRow 32 = .ok (.iload_n 3, 1) := by decide +kernel
theorem dX14_drawRow_33 : decode cX14_drawRow 33 = .ok (.if_icmp .ge 222, 3) := by decide +kernel
theorem dX14_drawRow_36 : decode cX14_drawRow 36 = .ok (.aload_n 0, 1) := by decide +kernel
theorem dX14_drawRow_37 : decode cX14_drawRow 37 = .ok (.invokevirtual 694, 3) := by decide +kernel
theorem dX14_drawRow_40 : decode cX14_drawRow 40 = .ok (.bipush 8, 2) := by decide +kernel
theorem dX14_drawRow_42 : decode cX14_drawRow 42 = .ok (.irem, 1) := by decide +kernel
theorem dX14_drawRow_43 : decode cX14_drawRow 43 = .ok (.ifCond .ne 15, 3) := by decide +kernel
theorem dX14_drawRow_46 : decode cX14_drawRow 46 = .ok (.aload_n 0, 1) := by decide +kernel
theorem dX14_drawRow_47 : decode cX14_drawRow 47 = .ok (.getfield 532, 3) := by decide +kernel
theorem dX14_drawRow_50 : decode cX14_drawRow 50 = .ok (.iconst 3, 1) := by decide +kernel
theorem dX14_drawRow_51 : decode cX14_drawRow 51 = .ok (.if_icmp .ge 7, 3) := by decide +kernel
theorem dX14_drawRow_54 : decode cX14_drawRow 54 = .ok (.iconst 1, 1) := by decide +kernel
theorem dX14_drawRow_55 : decode cX14_drawRow 55 = .ok (.goto 4, 3) := by decide +kernel
theorem dX14_drawRow_58 : decode cX14_drawRow 58 = .ok (.iconst 0, 1) := by decide +kernel
theorem dX14_drawRow_59 : decode cX14_drawRow 59 = .ok (.istore 5, 2) := by decide +kernel
theorem dX14_drawRow_61 : decode cX14_drawRow 61 = .ok (.iload 5, 2) := by decide +kernel
theorem dX14_drawRow_63 : decode cX14_drawRow 63 = .ok (.ifCond .eq 11, 3) := by decide +kernel
theorem dX14_drawRow_66 : decode cX14_drawRow 66 = .ok (.aload_n 0, 1) := by decide +kernel
theorem dX14_drawRow_67 : decode cX14_drawRow 67 = .ok (.iload_n 1, 1) := by decide +kernel
theorem dX14_drawRow_68 : decode cX14_drawRow 68 = .ok (.invokevirtual 677, 3) := by decide +kernel
theorem dX14_drawRow_71 : decode cX14_drawRow 71 = .ok (.goto (-48), 3) := by decide +kernel
theorem dX14_drawRow_74 : decode cX14_drawRow 74 = .ok (.aload_n 0, 1) := by decide +kernel
theorem dX14_drawRow_75 : decode cX14_drawRow 75 = .ok (.invokevirtual 694, 3) := by decide +kernel
theorem dX14_drawRow_78 : decode cX14_drawRow 78 = .ok (.aload_n 0, 1) := by decide +kernel
theorem dX14_drawRow_79 : decode cX14_drawRow 79 = .ok (.getfield 532, 3) := by decide +kernel
theorem dX14_drawRow_82 : decode cX14_drawRow 82 = .ok (.irem, 1) := by decide +kernel
theorem dX14_drawRow_83 : decode cX14_drawRow 83 = .ok (.istore 6, 2) := by decide +kernel
theorem dX14_drawRow_85 : decode cX14_drawRow 85 = .ok (.aload_n 0, 1) := by decide +kernel
theorem dX14_drawRow_86 : decode cX14_drawRow 86 = .ok (.getfield 19, 3) := by decide +kernel
theorem dX14_drawRow_89 : decode cX14_drawRow 89 = .ok (.getfield 456, 3) := by decide +kernel
theorem dX14_drawRow_92 : decode cX14_drawRow 92 = .ok (.iload_n 1, 1) := by decide +kernel
theorem dX14_drawRow_93 : decode cX14_drawRow 93 = .ok (.iaload, 1) := by decide +kernel
theorem dX14_drawRow_94 : decode cX14_drawRow 94 = .ok (.ifCond .ne 31, 3) := by decide +kernel
theorem dX14_drawRow_97 : decode cX14_drawRow 97 = .ok (.aload_n 0, 1) := by decide +kernel
theorem dX14_drawRow_98 : decode cX14_drawRow 98 = .ok (.getfield 532, 3) := by decide +kernel
theorem dX14_drawRow_101 : decode cX14_drawRow 101 = .ok (.iconst 3, 1) := by decide +kernel
theorem dX14_drawRow_102 : decode cX14_drawRow 102 = .ok (.if_icmp .ge 7, 3) := by decide +kernel
theorem dX14_drawRow_105 : decode cX14_drawRow 105 = .ok (.iconst 1, 1) := by decide +kernel
theorem dX14_drawRow_106 : decode cX14_drawRow 106 = .ok (.goto 4, 3) := by decide +kernel
theorem dX14_drawRow_109 : decode cX14_drawRow 109 = .ok (.iconst 0, 1) := by decide +kernel
theorem dX14_drawRow_110 : decode cX14_drawRow 110 = .ok (.istore 4, 2) := by decide +kernel
theorem dX14_drawRow_112 : decode cX14_drawRow 112 = .ok (.iload 4, 2) := by decide +kernel
theorem dX14_drawRow_114 : decode cX14_drawRow 114 = .ok (.ifCond .eq (-91), 3) := by decide +kernel
theorem dX14_drawRow_117 : decode cX14_drawRow 117 = .ok (.aload_n 0, 1) := by decide +kernel
theorem dX14_drawRow_118 : decode cX14_drawRow 118 = .ok (.iload_n 1, 1) := by decide +kernel
theorem dX14_drawRow_119 : decode cX14_drawRow 119 = .ok (.invokevirtual 677, 3) := by decide +kernel
theorem dX14_drawRow_122 : decode cX14_drawRow 122 = .ok (.goto (-99), 3) := by decide +kernel
theorem dX14_drawRow_125 : decode cX14_drawRow 125 = .ok (.aload_n 0, 1) := by decide +kernel
theorem dX14_drawRow_126 : decode cX14_drawRow 126 = .ok (.invokevirtual 694, 3) := by decide +kernel
theorem dX14_drawRow_129 : decode cX14_drawRow 129 = .ok (.aload_n 0, 1) := by decide +kernel
theorem dX14_drawRow_130 : decode cX14_drawRow 130 = .ok (.getfield 19, 3) := by decide +kernel
theorem dX14_drawRow_133 : decode cX14_drawRow 133 = .ok (.getfield 456, 3) := by decide +kernel
theorem dX14_drawRow_136 : decode cX14_drawRow 136 = .ok (.iload_n 1, 1) := by decide +kernel
theorem dX14_drawRow_137 : decode cX14_drawRow 137 = .ok (.iaload, 1) := by decide +kernel
theorem dX14_drawRow_138 : decode cX14_drawRow 138 = .ok (.irem, 1) := by decide +kernel
theorem dX14_drawRow_139 : decode cX14_drawRow 139 = .ok (.istore 7, 2) := by decide +kernel
theorem dX14_drawRow_141 : decode cX14_drawRow 141 = .ok (.aload_n 0, 1) := by decide +kernel
theorem dX14_drawRow_142 : decode cX14_drawRow 142 = .ok (.getfield 19, 3) := by decide +kernel
theorem dX14_drawRow_145 : decode cX14_drawRow 145 = .ok (.getfield 477, 3) := by decide +kernel
theorem dX14_drawRow_148 : decode cX14_drawRow 148 = .ok (.bipush 12, 2) := by decide +kernel
theorem dX14_drawRow_150 : decode cX14_drawRow 150 = .ok (.iload_n 1, 1) := by decide +kernel
theorem dX14_drawRow_151 : decode cX14_drawRow 151 = .ok (.imul, 1) := by decide +kernel
theorem dX14_drawRow_152 : decode cX14_drawRow 152 = .ok (.iload 7, 2) := by decide +kernel
theorem dX14_drawRow_154 : decode cX14_drawRow 154 = .ok (.iadd, 1) := by decide +kernel
theorem dX14_drawRow_155 : decode cX14_drawRow 155 = .ok (.iaload, 1) := by decide +kernel
theorem dX14_drawRow_156 : decode cX14_drawRow 156 = .ok (.istore 8, 2) := by decide +kernel
theorem dX14_drawRow_158 : decode cX14_drawRow 158 = .ok (.aload_n 0, 1) := by decide +kernel
theorem dX14_drawRow_159 : decode cX14_drawRow 159 = .ok (.getfield 19, 3) := by decide +kernel
theorem dX14_drawRow_162 : decode cX14_drawRow 162 = .ok (.getfield 324, 3) := by decide +kernel
theorem dX14_drawRow_165 : decode cX14_drawRow 165 = .ok (.iload 8, 2) := by decide +kernel
theorem dX14_drawRow_167 : decode cX14_drawRow 167 = .ok (.iaload, 1) := by decide +kernel
theorem dX14_drawRow_168 : decode cX14_drawRow 168 = .ok (.ifCond .le 13, 3) := by decide +kernel
theorem dX14_drawRow_171 : decode cX14_drawRow 171 = .ok (.aload_n 0, 1) := by decide +kernel
theorem dX14_drawRow_172 : decode cX14_drawRow 172 = .ok (.iload 8, 2) := by decide +kernel
theorem dX14_drawRow_174 : decode cX14_drawRow 174 = .ok (.iconst 0, 1) := by decide +kernel
theorem dX14_drawRow_175 : decode cX14_drawRow 175 = .ok (.invokevirtual 700, 3) := by decide +kernel
theorem dX14_drawRow_178 : decode cX14_drawRow 178 = .ok (.goto 4, 3) := by decide +kernel
theorem dX14_drawRow_181 : decode cX14_drawRow 181 = .ok (.iconst 0, 1) := by decide +kernel
theorem dX14_drawRow_182 : decode cX14_drawRow 182 = .ok (.istore 9, 2) := by decide +kernel
theorem dX14_drawRow_184 : decode cX14_drawRow 184 = .ok (.aload_n 0, 1) := by decide +kernel
theorem dX14_drawRow_185 : decode cX14_drawRow 185 = .ok (.getfield 19, 3) := by decide +kernel
theorem dX14_drawRow_188 : decode cX14_drawRow 188 = .ok (.getfield 324, 3) := by decide +kernel
theorem dX14_drawRow_191 : decode cX14_drawRow 191 = .ok (.iload 8, 2) := by decide +kernel
theorem dX14_drawRow_193 : decode cX14_drawRow 193 = .ok (.iaload, 1) := by decide +kernel
theorem dX14_drawRow_194 : decode cX14_drawRow 194 = .ok (.iconst 1, 1) := by decide +kernel
theorem dX14_drawRow_195 : decode cX14_drawRow 195 = .ok (.if_icmp .le 13, 3) := by decide +kernel
theorem dX14_drawRow_198 : decode cX14_drawRow 198 = .ok (.aload_n 0, 1) := by decide +kernel
theorem dX14_drawRow_199 : decode cX14_drawRow 199 = .ok (.iload 8, 2) := by decide +kernel
theorem dX14_drawRow_201 : decode cX14_drawRow 201 = .ok (.iconst 1, 1) := by decide +kernel
theorem dX14_drawRow_202 : decode cX14_drawRow 202 = .ok (.invokevirtual 700, 3) := by decide +kernel
theorem dX14_drawRow_205 : decode cX14_drawRow 205 = .ok (.goto 4, 3) := by decide +kernel
theorem dX14_drawRow_208 : decode cX14_drawRow 208 = .ok (.iconst 0, 1) := by decide +kernel
theorem dX14_drawRow_209 : decode cX14_drawRow 209 = .ok (.istore 10, 2) := by decide +kernel
theorem dX14_drawRow_211 : decode cX14_drawRow 211 = .ok (.aload_n 0, 1) := by decide +kernel
theorem dX14_drawRow_212 : decode cX14_drawRow 212 = .ok (.getfield 19, 3) := by decide +kernel
theorem dX14_drawRow_215 : decode cX14_drawRow 215 = .ok (.getfield 324, 3) := by decide +kernel
theorem dX14_drawRow_218 : decode cX14_drawRow 218 = .ok (.iload 8, 2) := by decide +kernel
theorem dX14_drawRow_220 : decode cX14_drawRow 220 = .ok (.iaload, 1) := by decide +kernel
theorem dX14_drawRow_221 : decode cX14_drawRow 221 = .ok (.iconst 2, 1) := by decide +kernel
theorem dX14_drawRow_222 : decode cX14_drawRow 222 = .ok (.if_icmp .le 13, 3) := by decide +kernel
theorem dX14_drawRow_225 : decode cX14_drawRow 225 = .ok (.aload_n 0, 1) := by decide +kernel
theorem dX14_drawRow_226 : decode cX14_drawRow 226 = .ok (.iload 8, 2) := by decide +kernel
theorem dX14_drawRow_228 : decode cX14_drawRow 228 = .ok (.iconst 2, 1) := by decide +kernel
theorem dX14_drawRow_229 : decode cX14_drawRow 229 = .ok (.invokevirtual 700, 3) := by decide +kernel
theorem dX14_drawRow_232 : decode cX14_drawRow 232 = .ok (.goto 4, 3) := by decide +kernel
theorem dX14_drawRow_235 : decode cX14_drawRow 235 = .ok (.iconst 0, 1) := by decide +kernel
theorem dX14_drawRow_236 : decode cX14_drawRow 236 = .ok (.istore 11, 2) := by decide +kernel
theorem dX14_drawRow_238 : decode cX14_drawRow 238 = .ok (.aload_n 0, 1) := by decide +kernel
theorem dX14_drawRow_239 : decode cX14_drawRow 239 = .ok (.iload 6, 2) := by decide +kernel
theorem dX14_drawRow_241 : decode cX14_drawRow 241 = .ok (.iload 7, 2) := by decide +kernel
theorem dX14_drawRow_243 : decode cX14_drawRow 243 = .ok (.iload 9, 2) := by decide +kernel
theorem dX14_drawRow_245 : decode cX14_drawRow 245 = .ok (.iload 10, 2) := by decide +kernel
theorem dX14_drawRow_247 : decode cX14_drawRow 247 = .ok (.iload 11, 2) := by decide +kernel
theorem dX14_drawRow_249 : decode cX14_drawRow 249 = .ok (.invokevirtual 683, 3) := by decide +kernel
theorem dX14_drawRow_252 : decode cX14_drawRow 252 = .ok (.goto (-229), 3) := by decide +kernel
theorem dX14_drawRow_255 : decode cX14_drawRow 255 = .ok (.return_, 1) := by decide +kernel
theorem dX14_isTried_0 : decode cX14_isTried 0 = .ok (.aload_n 0, 1) := by decide +kernel
theorem dX14_isTried_1 : decode cX14_isTried 1 = .ok (.invokevirtual 687, 3) := by decide +kernel
theorem dX14_isTried_4 : decode cX14_isTried 4 = .ok (.istore_n 1, 1) := by decide +kernel
theorem dX14_isTried_5 : decode cX14_isTried 5 = .ok (.aload_n 0, 1) := by decide +kernel
theorem dX14_isTried_6 : decode cX14_isTried 6 = .ok (.dup, 1) := by decide +kernel
theorem dX14_isTried_7 : decode cX14_isTried 7 = .ok (.getfield 538, 3) := by decide +kernel
theorem dX14_isTried_10 : decode cX14_isTried 10 = .ok (.iconst 1, 1) := by decide +kernel
theorem dX14_isTried_11 : decode cX14_isTried 11 = .ok (.iadd, 1) := by decide +kernel
theorem dX14_isTried_12 : decode cX14_isTried 12 = .ok (.putfield 538, 3) := by decide +kernel
theorem dX14_isTried_15 : decode cX14_isTried 15 = .ok (.aload_n 0, 1) := by decide +kernel
theorem dX14_isTried_16 : decode cX14_isTried 16 = .ok (.dup, 1) := by decide +kernel
theorem dX14_isTried_17 : decode cX14_isTried 17 = .ok (.getfield 541, 3) := by decide +kernel
theorem dX14_isTried_20 : decode cX14_isTried 20 = .ok (.iload_n 1, 1) := by decide +kernel
theorem dX14_isTried_21 : decode cX14_isTried 21 = .ok (.iconst (-1), 1) := by decide +kernel
theorem dX14_isTried_22 : decode cX14_isTried 22 = .ok (.if_icmp .ne 7, 3) := by decide +kernel
theorem dX14_isTried_25 : decode cX14_isTried 25 = .ok (.iconst 1, 1) := by decide +kernel
theorem dX14_isTried_26 : decode cX14_isTried 26 = .ok (.goto 4, 3) := by decide +kernel
theorem dX14_isTried_29 : decode cX14_isTried 29 = .ok (.iconst 0, 1) := by decide +kernel
theorem dX14_isTried_30 : decode cX14_isTried 30 = .ok (.iadd, 1) := by decide +kernel
theorem dX14_isTried_31 : decode cX14_isTried 31 = .ok (.putfield 541, 3) := by decide +kernel
theorem dX14_isTried_34 : decode cX14_isTried 34 = .ok (.iload_n 1, 1) := by decide +kernel
theorem dX14_isTried_35 : decode cX14_isTried 35 = .ok (.ifCond .le 7, 3) := by decide +kernel
theorem dX14_isTried_38 : decode cX14_isTried 38 = .ok (.iconst 1, 1) := by decide +kernel
theorem dX14_isTried_39 : decode cX14_isTried 39 = .ok (.goto 4, 3) := by decide +kernel
theorem dX14_isTried_42 : decode cX14_isTried 42 = .ok (.iconst 0, 1) := by decide +kernel
theorem dX14_isTried_43 : decode cX14_isTried 43 = .ok (.ireturn, 1) := by decide +kernel
theorem dX14_draw_0 : decode cX14_draw 0 = .ok (.aload_n 0, 1) := by decide +kernel
theorem dX14_draw_1 : decode cX14_draw 1 = .ok (.iload_n 1, 1) := by decide +kernel
theorem dX14_draw_2 : decode cX14_draw 2 = .ok (.invokevirtual 544, 3) := by decide +kernel
theorem dX14_draw_5 : decode cX14_draw 5 = .ok (.ifCond .eq 15, 3) := by decide +kernel
theorem dX14_draw_8 : decode cX14_draw 8 = .ok (.iload_n 3, 1) := by decide +kernel
theorem dX14_draw_9 : decode cX14_draw 9 = .ok (.i2l, 1) := by decide +kernel
theorem dX14_draw_10 : decode cX14_draw 10 = .ok (.lconst 1, 1) := by decide +kernel
theorem dX14_draw_11 : decode cX14_draw 11 = .ok (.ldc2_w 703, 3) := by decide +kernel
theorem dX14_draw_14 : decode cX14_draw 14 = .ok (.invokestatic 395, 3) := by decide +kernel
theorem dX14_draw_17 : decode cX14_draw 17 = .ok (.ifCond .ne 6, 3) := by decide +kernel
theorem dX14_draw_20 : decode cX14_draw 20 = .ok (.bipush (-2), 2) := by decide +kernel
theorem dX14_draw_22 : decode cX14_draw 22 = .ok (.ireturn, 1) := by decide +kernel
theorem dX14_draw_23 : decode cX14_draw 23 = .ok (.aload_n 0, 1) := by decide +kernel
theorem dX14_draw_24 : decode cX14_draw 24 = .ok (.iconst 0, 1) := by decide +kernel
theorem dX14_draw_25 : decode cX14_draw 25 = .ok (.putfield 538, 3) := by decide +kernel
theorem dX14_draw_28 : decode cX14_draw 28 = .ok (.aload_n 0, 1) := by decide +kernel
theorem dX14_draw_29 : decode cX14_draw 29 = .ok (.iconst 0, 1) := by decide +kernel
theorem dX14_draw_30 : decode cX14_draw 30 = .ok (.putfield 541, 3) := by decide +kernel
theorem dX14_draw_33 : decode cX14_draw 33 = .ok (.iconst 0, 1) := by decide +kernel
theorem dX14_draw_34 : decode cX14_draw 34 = .ok (.istore 4, 2) := by decide +kernel
theorem dX14_draw_36 : decode cX14_draw 36 = .ok (.iload 4, 2) := by decide +kernel
theorem dX14_draw_38 : decode cX14_draw 38 = .ok (.iload_n 3, 1) := by decide +kernel
theorem dX14_draw_39 : decode cX14_draw 39 = .ok (.if_icmp .ge 38, 3) := by decide +kernel
theorem dX14_draw_42 : decode cX14_draw 42 = .ok (.aload_n 0, 1) := by decide +kernel
theorem dX14_draw_43 : decode cX14_draw 43 = .ok (.iload_n 2, 1) := by decide +kernel
theorem dX14_draw_44 : decode cX14_draw 44 = .ok (.sipush 7919, 3) := by decide +kernel
theorem dX14_draw_47 : decode cX14_draw 47 = .ok (.iload 4, 2) := by decide +kernel
theorem dX14_draw_49 : decode cX14_draw 49 = .ok (.imul, 1) := by decide +kernel
theorem dX14_draw_50 : decode cX14_draw 50 = .ok (.iadd, 1) := by decide +kernel
theorem dX14_draw_51 : decode cX14_draw 51 = .ok (.putfield 691, 3) := by decide +kernel
theorem dX14_draw_54 : decode cX14_draw 54 = .ok (.aload_n 0, 1) := by decide +kernel
theorem dX14_draw_55 : decode cX14_draw 55 = .ok (.iload_n 1, 1) := by decide +kernel
theorem dX14_draw_56 : decode cX14_draw 56 = .ok (.invokevirtual 705, 3) := by decide +kernel
theorem dX14_draw_59 : decode cX14_draw 59 = .ok (.aload_n 0, 1) := by decide +kernel
theorem dX14_draw_60 : decode cX14_draw 60 = .ok (.invokevirtual 708, 3) := by decide +kernel
theorem dX14_draw_63 : decode cX14_draw 63 = .ok (.ifCond .eq 8, 3) := by decide +kernel
theorem dX14_draw_66 : decode cX14_draw 66 = .ok (.aload_n 0, 1) := by decide +kernel
theorem dX14_draw_67 : decode cX14_draw 67 = .ok (.getfield 618, 3) := by decide +kernel
theorem dX14_draw_70 : decode cX14_draw 70 = .ok (.ireturn, 1) := by decide +kernel
theorem dX14_draw_71 : decode cX14_draw 71 = .ok (.iinc 4 1, 3) := by decide +kernel
theorem dX14_draw_74 : decode cX14_draw 74 = .ok (.goto (-38), 3) := by decide +kernel
theorem dX14_draw_77 : decode cX14_draw 77 = .ok (.iconst 0, 1) := by decide +kernel
theorem dX14_draw_78 : decode cX14_draw 78 = .ok (.ireturn, 1) := by decide +kernel
theorem dX14_cell_0 : decode cX14_cell 0 = .ok (.iload_n 1, 1) := by decide +kernel
theorem dX14_cell_1 : decode cX14_cell 1 = .ok (.i2l, 1) := by decide +kernel
theorem dX14_cell_2 : decode cX14_cell 2 = .ok (.lconst 0, 1) := by decide +kernel
theorem dX14_cell_3 : decode cX14_cell 3 = .ok (.aload_n 0, 1) := by decide +kernel
theorem dX14_cell_4 : decode cX14_cell 4 = .ok (.getfield 621, 3) := by decide +kernel
theorem dX14_cell_7 : decode cX14_cell 7 = .ok (.iconst 1, 1) := by decide +kernel
theorem dX14_cell_8 : decode cX14_cell 8 = .ok (.isub, 1) := by decide +kernel
theorem dX14_cell_9 : decode cX14_cell 9 = .ok (.i2l, 1) := by decide +kernel
theorem dX14_cell_10 : decode cX14_cell 10 = .ok (.invokestatic 395, 3) := by decide +kernel
theorem dX14_cell_13 : decode cX14_cell 13 = .ok (.ifCond .eq 44, 3) := by decide +kernel
theorem dX14_cell_16 : decode cX14_cell 16 = .ok (.iload_n 2, 1) := by decide +kernel
theorem dX14_cell_17 : decode cX14_cell 17 = .ok (.i2l, 1) := by decide +kernel
theorem dX14_cell_18 : decode cX14_cell 18 = .ok (.lconst 0, 1) := by decide +kernel
theorem dX14_cell_19 : decode cX14_cell 19 = .ok (.aload_n 0, 1) := by decide +kernel
theorem dX14_cell_20 : decode cX14_cell 20 = .ok (.getfield 19, 3) := by decide +kernel
theorem dX14_cell_23 : decode cX14_cell 23 = .ok (.getfield 399, 3) := by decide +kernel
theorem dX14_cell_26 : decode cX14_cell 26 = .ok (.aload_n 0, 1) := by decide +kernel
theorem dX14_cell_27 : decode cX14_cell 27 = .ok (.getfield 41, 3) := by decide +kernel
theorem dX14_cell_30 : decode cX14_cell 30 = .ok (.iload_n 1, 1) := by decide +kernel
theorem dX14_cell_31 : decode cX14_cell 31 = .ok (.iaload, 1) := by decide +kernel
theorem dX14_cell_32 : decode cX14_cell 32 = .ok (.iaload, 1) := by decide +kernel
theorem dX14_cell_33 : decode cX14_cell 33 = .ok (.iconst 1, 1) := by decide +kernel
theorem dX14_cell_34 : decode cX14_cell 34 = .ok (.isub, 1) := by decide +kernel
theorem dX14_cell_35 : decode cX14_cell 35 = .ok (.i2l, 1) := by decide +kernel
theorem dX14_cell_36 : decode cX14_cell 36 = .ok (.invokestatic 395, 3) := by decide +kernel
theorem dX14_cell_39 : decode cX14_cell 39 = .ok (.ifCond .eq 18, 3) := by decide +kernel
theorem dX14_cell_42 : decode cX14_cell 42 = .ok (.aload_n 0, 1) := by decide +kernel
theorem dX14_cell_43 : decode cX14_cell 43 = .ok (.getfield 45, 3) := by decide +kernel
theorem dX14_cell_46 : decode cX14_cell 46 = .ok (.bipush 24, 2) := by decide +kernel
theorem dX14_cell_48 : decode cX14_cell 48 = .ok (.iload_n 1, 1) := by decide +kernel
theorem dX14_cell_49 : decode cX14_cell 49 = .ok (.imul, 1) := by decide +kernel
theorem dX14_cell_50 : decode cX14_cell 50 = .ok (.iload_n 2, 1) := by decide +kernel
theorem dX14_cell_51 : decode cX14_cell 51 = .ok (.iadd, 1) := by decide +kernel
theorem dX14_cell_52 : decode cX14_cell 52 = .ok (.iaload, 1) := by decide +kernel
theorem dX14_cell_53 : decode cX14_cell 53 = .ok (.i2l, 1) := by decide +kernel
theorem dX14_cell_54 : decode cX14_cell 54 = .ok (.goto 6, 3) := by decide +kernel
theorem dX14_cell_57 : decode cX14_cell 57 = .ok (.ldc2_w 762, 3) := by decide +kernel
theorem dX14_cell_60 : decode cX14_cell 60 = .ok (.lreturn, 1) := by decide +kernel
